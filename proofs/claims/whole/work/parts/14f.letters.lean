abbrev oX2_readLetter (aL : Nat → Nat) (aS : Nat → Nat) (K : Nat → ClassId) (r : (String × (S2 × S4)) ⊕ (Int32 × (S2 × S4))) : xO := match r with
  | .inl q => .inl (q.1, w2 aL K q.2.1 ++ w4 aS K q.2.2)
  | .inr q => .inr ((some (.int q.1)), w2 aL K q.2.1 ++ w4 aS K q.2.2)
def fX2_readLetter_18 (L : S2) (S : S4) (x2 : Int32) (x3 : Int32) : Option ((String × (S2 × S4)) ⊕ (Int32 × (S2 × S4))) := (if L.2.2.2.2.2.2.2.2.2.1 < 0 ∨ 3 ≤ (L.2.2.2.2.2.2.2.2.2.1).toNatClampNeg then none else xbnd0 (fX2_context (L.2.2.2.2.2.1 (L.2.2.2.2.2.2.2.2.2.1).toNatClampNeg) x2 x3) (fun v_1 s_2 => (if ((L.2.2.2.2.2.2.2.2.2.1 * (4 : Int32)) + v_1) < 0 ∨ 12 ≤ (((L.2.2.2.2.2.2.2.2.2.1 * (4 : Int32)) + v_1)).toNatClampNeg then none else (if (L.2.2.2.2.2.2.1 (((L.2.2.2.2.2.2.2.2.2.1 * (4 : Int32)) + v_1)).toNatClampNeg) < 0 ∨ 4 ≤ ((L.2.2.2.2.2.2.1 (((L.2.2.2.2.2.2.2.2.2.1 * (4 : Int32)) + v_1)).toNatClampNeg)).toNatClampNeg then none else (if (L.2.2.2.2.2.2.1 (((L.2.2.2.2.2.2.2.2.2.1 * (4 : Int32)) + v_1)).toNatClampNeg) = (0 : Int32) then xbnd (fX1_readSymbol L.2.1 S) (fun E9 s_4 => .inl (E9, ((L.1, s_4.1, L.2.2.1, L.2.2.2.1, L.2.2.2.2.1, L.2.2.2.2.2.1, L.2.2.2.2.2.2.1, L.2.2.2.2.2.2.2.1, L.2.2.2.2.2.2.2.2.1, L.2.2.2.2.2.2.2.2.2.1, L.2.2.2.2.2.2.2.2.2.2.1, L.2.2.2.2.2.2.2.2.2.2.2), s_4.2))) (fun v_3 s_4 => some (.inr (v_3, ((L.1, s_4.1, L.2.2.1, L.2.2.2.1, L.2.2.2.2.1, L.2.2.2.2.2.1, L.2.2.2.2.2.2.1, L.2.2.2.2.2.2.2.1, L.2.2.2.2.2.2.2.2.1, L.2.2.2.2.2.2.2.2.2.1, L.2.2.2.2.2.2.2.2.2.2.1, L.2.2.2.2.2.2.2.2.2.2.2), s_4.2)))) else (if (L.2.2.2.2.2.2.1 (((L.2.2.2.2.2.2.2.2.2.1 * (4 : Int32)) + v_1)).toNatClampNeg) = (1 : Int32) then xbnd (fX1_readSymbol L.2.2.1 S) (fun E9 s_6 => .inl (E9, ((L.1, L.2.1, s_6.1, L.2.2.2.1, L.2.2.2.2.1, L.2.2.2.2.2.1, L.2.2.2.2.2.2.1, L.2.2.2.2.2.2.2.1, L.2.2.2.2.2.2.2.2.1, L.2.2.2.2.2.2.2.2.2.1, L.2.2.2.2.2.2.2.2.2.2.1, L.2.2.2.2.2.2.2.2.2.2.2), s_6.2))) (fun v_5 s_6 => some (.inr (v_5, ((L.1, L.2.1, s_6.1, L.2.2.2.1, L.2.2.2.2.1, L.2.2.2.2.2.1, L.2.2.2.2.2.2.1, L.2.2.2.2.2.2.2.1, L.2.2.2.2.2.2.2.2.1, L.2.2.2.2.2.2.2.2.2.1, L.2.2.2.2.2.2.2.2.2.2.1, L.2.2.2.2.2.2.2.2.2.2.2), s_6.2)))) else (if (L.2.2.2.2.2.2.1 (((L.2.2.2.2.2.2.2.2.2.1 * (4 : Int32)) + v_1)).toNatClampNeg) = (2 : Int32) then xbnd (fX1_readSymbol L.2.2.2.1 S) (fun E9 s_8 => .inl (E9, ((L.1, L.2.1, L.2.2.1, s_8.1, L.2.2.2.2.1, L.2.2.2.2.2.1, L.2.2.2.2.2.2.1, L.2.2.2.2.2.2.2.1, L.2.2.2.2.2.2.2.2.1, L.2.2.2.2.2.2.2.2.2.1, L.2.2.2.2.2.2.2.2.2.2.1, L.2.2.2.2.2.2.2.2.2.2.2), s_8.2))) (fun v_7 s_8 => some (.inr (v_7, ((L.1, L.2.1, L.2.2.1, s_8.1, L.2.2.2.2.1, L.2.2.2.2.2.1, L.2.2.2.2.2.2.1, L.2.2.2.2.2.2.2.1, L.2.2.2.2.2.2.2.2.1, L.2.2.2.2.2.2.2.2.2.1, L.2.2.2.2.2.2.2.2.2.2.1, L.2.2.2.2.2.2.2.2.2.2.2), s_8.2)))) else (if (L.2.2.2.2.2.2.1 (((L.2.2.2.2.2.2.2.2.2.1 * (4 : Int32)) + v_1)).toNatClampNeg) = (3 : Int32) then xbnd (fX1_readSymbol L.2.2.2.2.1 S) (fun E9 s_10 => .inl (E9, ((L.1, L.2.1, L.2.2.1, L.2.2.2.1, s_10.1, L.2.2.2.2.2.1, L.2.2.2.2.2.2.1, L.2.2.2.2.2.2.2.1, L.2.2.2.2.2.2.2.2.1, L.2.2.2.2.2.2.2.2.2.1, L.2.2.2.2.2.2.2.2.2.2.1, L.2.2.2.2.2.2.2.2.2.2.2), s_10.2))) (fun v_9 s_10 => some (.inr (v_9, ((L.1, L.2.1, L.2.2.1, L.2.2.2.1, s_10.1, L.2.2.2.2.2.1, L.2.2.2.2.2.2.1, L.2.2.2.2.2.2.2.1, L.2.2.2.2.2.2.2.2.1, L.2.2.2.2.2.2.2.2.2.1, L.2.2.2.2.2.2.2.2.2.2.1, L.2.2.2.2.2.2.2.2.2.2.2), s_10.2)))) else none))))))))
def fX2_readLetter (L : S2) (S : S4) (p2 : Int32) (p3 : Int32) : Option ((String × (S2 × S4)) ⊕ (Int32 × (S2 × S4))) := (if L.2.2.2.2.2.2.2.2.1 ≤ (1 : Int32) then fX2_readLetter_18 L S p2 p3 else fX2_readLetter_18 (L.1, L.2.1, L.2.2.1, L.2.2.2.1, L.2.2.2.2.1, L.2.2.2.2.2.1, L.2.2.2.2.2.2.1, L.2.2.2.2.2.2.2.1, L.2.2.2.2.2.2.2.2.1, L.2.2.2.2.2.2.2.2.2.1, L.2.2.2.2.2.2.2.2.2.2.1, (L.2.2.2.2.2.2.2.2.2.2.2 - (1 : Int32))) S p2 p3)
set_option maxHeartbeats 4000000 in
set_option maxRecDepth 100000 in
theorem kX2_readLetter_18 {p : Program} {l : Launch} {e : Env} {s : State} {m : MethodId} {args : Array Value} {below : List Frame} {meth : Method} {c : Code} {D : va_G} {K : Nat → ClassId} {A : Nat → Prop} {aL : Nat → Nat} {aS : Nat → Nat} (C : xC p s m args meth c cX2_readLetter 5 (some .int) yX2_readLetter D K A) (hlt : l.stackTraces = false) : ∀ (L : S2) (S : S4) (x2 : Int32) (x3 : Int32) (r : (String × (S2 × S4)) ⊕ (Int32 × (S2 × S4))), fX2_readLetter_18  L S x2 x3 = some r → ∀ (H : Heap) (locs : List Loc) (ls : Array Slot), va_P D vwCl (w2 aL K L ++ w4 aS K S) H → va_D A (w2 aL K L ++ w4 aS K S) → va_S A s.heap H locs → lv_has ls 5 [(0, .ref (aL 0)), (1, .ref (aS 0)), (2, .int x2), (3, .int x3)] → W p l e (xR 8 138 (oX2_readLetter aL aS K r)) s m args below meth c H locs 0 0 (xQ below args s D K A (oX2_readLetter aL aS K r)) (F0 m 18 ls []) := by
  obtain ⟨hx, hb, hr, hml, hown, hK, hts, hA, hG, hlk, hte, hnm⟩ := id C
  intro L S x2 x3 r h H locs ls hP hD hS hl
  replace h : (if L.2.2.2.2.2.2.2.2.2.1 < 0 ∨ 3 ≤ (L.2.2.2.2.2.2.2.2.2.1).toNatClampNeg then none else xbnd0 (fX2_context (L.2.2.2.2.2.1 (L.2.2.2.2.2.2.2.2.2.1).toNatClampNeg) x2 x3) (fun v_1 s_2 => (if ((L.2.2.2.2.2.2.2.2.2.1 * (4 : Int32)) + v_1) < 0 ∨ 12 ≤ (((L.2.2.2.2.2.2.2.2.2.1 * (4 : Int32)) + v_1)).toNatClampNeg then none else (if (L.2.2.2.2.2.2.1 (((L.2.2.2.2.2.2.2.2.2.1 * (4 : Int32)) + v_1)).toNatClampNeg) < 0 ∨ 4 ≤ ((L.2.2.2.2.2.2.1 (((L.2.2.2.2.2.2.2.2.2.1 * (4 : Int32)) + v_1)).toNatClampNeg)).toNatClampNeg then none else (if (L.2.2.2.2.2.2.1 (((L.2.2.2.2.2.2.2.2.2.1 * (4 : Int32)) + v_1)).toNatClampNeg) = (0 : Int32) then xbnd (fX1_readSymbol L.2.1 S) (fun E9 s_4 => .inl (E9, ((L.1, s_4.1, L.2.2.1, L.2.2.2.1, L.2.2.2.2.1, L.2.2.2.2.2.1, L.2.2.2.2.2.2.1, L.2.2.2.2.2.2.2.1, L.2.2.2.2.2.2.2.2.1, L.2.2.2.2.2.2.2.2.2.1, L.2.2.2.2.2.2.2.2.2.2.1, L.2.2.2.2.2.2.2.2.2.2.2), s_4.2))) (fun v_3 s_4 => some (.inr (v_3, ((L.1, s_4.1, L.2.2.1, L.2.2.2.1, L.2.2.2.2.1, L.2.2.2.2.2.1, L.2.2.2.2.2.2.1, L.2.2.2.2.2.2.2.1, L.2.2.2.2.2.2.2.2.1, L.2.2.2.2.2.2.2.2.2.1, L.2.2.2.2.2.2.2.2.2.2.1, L.2.2.2.2.2.2.2.2.2.2.2), s_4.2)))) else (if (L.2.2.2.2.2.2.1 (((L.2.2.2.2.2.2.2.2.2.1 * (4 : Int32)) + v_1)).toNatClampNeg) = (1 : Int32) then xbnd (fX1_readSymbol L.2.2.1 S) (fun E9 s_6 => .inl (E9, ((L.1, L.2.1, s_6.1, L.2.2.2.1, L.2.2.2.2.1, L.2.2.2.2.2.1, L.2.2.2.2.2.2.1, L.2.2.2.2.2.2.2.1, L.2.2.2.2.2.2.2.2.1, L.2.2.2.2.2.2.2.2.2.1, L.2.2.2.2.2.2.2.2.2.2.1, L.2.2.2.2.2.2.2.2.2.2.2), s_6.2))) (fun v_5 s_6 => some (.inr (v_5, ((L.1, L.2.1, s_6.1, L.2.2.2.1, L.2.2.2.2.1, L.2.2.2.2.2.1, L.2.2.2.2.2.2.1, L.2.2.2.2.2.2.2.1, L.2.2.2.2.2.2.2.2.1, L.2.2.2.2.2.2.2.2.2.1, L.2.2.2.2.2.2.2.2.2.2.1, L.2.2.2.2.2.2.2.2.2.2.2), s_6.2)))) else (if (L.2.2.2.2.2.2.1 (((L.2.2.2.2.2.2.2.2.2.1 * (4 : Int32)) + v_1)).toNatClampNeg) = (2 : Int32) then xbnd (fX1_readSymbol L.2.2.2.1 S) (fun E9 s_8 => .inl (E9, ((L.1, L.2.1, L.2.2.1, s_8.1, L.2.2.2.2.1, L.2.2.2.2.2.1, L.2.2.2.2.2.2.1, L.2.2.2.2.2.2.2.1, L.2.2.2.2.2.2.2.2.1, L.2.2.2.2.2.2.2.2.2.1, L.2.2.2.2.2.2.2.2.2.2.1, L.2.2.2.2.2.2.2.2.2.2.2), s_8.2))) (fun v_7 s_8 => some (.inr (v_7, ((L.1, L.2.1, L.2.2.1, s_8.1, L.2.2.2.2.1, L.2.2.2.2.2.1, L.2.2.2.2.2.2.1, L.2.2.2.2.2.2.2.1, L.2.2.2.2.2.2.2.2.1, L.2.2.2.2.2.2.2.2.2.1, L.2.2.2.2.2.2.2.2.2.2.1, L.2.2.2.2.2.2.2.2.2.2.2), s_8.2)))) else (if (L.2.2.2.2.2.2.1 (((L.2.2.2.2.2.2.2.2.2.1 * (4 : Int32)) + v_1)).toNatClampNeg) = (3 : Int32) then xbnd (fX1_readSymbol L.2.2.2.2.1 S) (fun E9 s_10 => .inl (E9, ((L.1, L.2.1, L.2.2.1, L.2.2.2.1, s_10.1, L.2.2.2.2.2.1, L.2.2.2.2.2.2.1, L.2.2.2.2.2.2.2.1, L.2.2.2.2.2.2.2.2.1, L.2.2.2.2.2.2.2.2.2.1, L.2.2.2.2.2.2.2.2.2.2.1, L.2.2.2.2.2.2.2.2.2.2.2), s_10.2))) (fun v_9 s_10 => some (.inr (v_9, ((L.1, L.2.1, L.2.2.1, L.2.2.2.1, s_10.1, L.2.2.2.2.2.1, L.2.2.2.2.2.2.1, L.2.2.2.2.2.2.2.1, L.2.2.2.2.2.2.2.2.1, L.2.2.2.2.2.2.2.2.2.1, L.2.2.2.2.2.2.2.2.2.2.1, L.2.2.2.2.2.2.2.2.2.2.2), s_10.2)))) else none)))))))) = some r := h
  refine lv_aload_n hx hb dX2_readLetter_18 rfl (lv_at hl 0 rfl) ?_
  refine va_get (D := D) (ci := 2) (v := .ref (aL 23)) (C := RX2) (T := TX2) (N := 9) hx hb hts xu_X2 hown hK hP 0 rfl rfl 3 (by decide) (hts _ xw_110) (fun _ h9 => h9) rfl dX2_readLetter_19 ?_
  refine lv_aload_n hx hb dX2_readLetter_22 rfl (lv_at hl 0 rfl) ?_
  refine va_get (D := D) (ci := 2) (v := .int L.2.2.2.2.2.2.2.2.2.1) (C := RX2) (T := TX2) (N := 9) hx hb hts xu_X2 hown hK hP 0 rfl rfl 6 (by decide) (hts _ xw_113) (fun _ h9 => h9) rfl dX2_readLetter_23 ?_
  refine lv_iconst (v := (4 : Int32)) hx hb dX2_readLetter_26 (by decide) ?_
  refine lv_imul hx hb dX2_readLetter_27 ?_
  refine lv_aload_n hx hb dX2_readLetter_28 rfl (lv_at hl 0 rfl) ?_
  refine va_get (D := D) (ci := 2) (v := .ref (aL 22)) (C := RX2) (T := TX2) (N := 9) hx hb hts xu_X2 hown hK hP 0 rfl rfl 2 (by decide) (hts _ xw_109) (fun _ h9 => h9) rfl dX2_readLetter_29 ?_
  refine lv_aload_n hx hb dX2_readLetter_32 rfl (lv_at hl 0 rfl) ?_
  refine va_get (D := D) (ci := 2) (v := .int L.2.2.2.2.2.2.2.2.2.1) (C := RX2) (T := TX2) (N := 9) hx hb hts xu_X2 hown hK hP 0 rfl rfl 6 (by decide) (hts _ xw_113) (fun _ h9 => h9) rfl dX2_readLetter_33 ?_
  obtain ⟨hi9, h⟩ := xi_g h
  refine va_iald hx hb hK hP 22 0 rfl rfl hi9 dX2_readLetter_36 ?_
  refine lv_iload_n hx hb dX2_readLetter_37 rfl (lv_at hl 2 rfl) ?_
  refine lv_iload_n hx hb dX2_readLetter_38 rfl (lv_at hl 3 rfl) ?_
  obtain ⟨v_1, s_2, hc9, h⟩ := xi_d h
  refine xc_S (As := [.int (L.2.2.2.2.2.1 (L.2.2.2.2.2.2.2.2.2.1).toNatClampNeg), .int x2, .int x3]) (ws' := w2 aL K L ++ w4 aS K S) C (mX2_context l D K _ _ _ _ _ hc9) xgs_X2_73 ⟨rfl, xd_X2_context⟩ ⟨Nat.le_of_ble_eq_true rfl, Nat.le_of_ble_eq_true rfl⟩ ⟨Nat.zero_le _, Nat.zero_le _⟩ hl rfl (Nat.le_of_ble_eq_true rfl) dX2_readLetter_39 hP hD hS [] rfl rfl rfl rfl (fun H locs hP hD hS => ?_)
  refine W.eq (g2 := F0 m 42 ls [.int v_1, .int (L.2.2.2.2.2.2.2.2.2.1 * (4 : Int32)), .ref (aL 23)]) rfl ?_
  refine lv_iadd hx hb dX2_readLetter_42 ?_
  obtain ⟨hi9, h⟩ := xi_g h
  refine va_iald hx hb hK hP 23 0 rfl rfl hi9 dX2_readLetter_43 ?_
  refine lv_istore (lv' := [(4, .int (L.2.2.2.2.2.2.1 (((L.2.2.2.2.2.2.2.2.2.1 * (4 : Int32)) + v_1)).toNatClampNeg)), (0, .ref (aL 0)), (1, .ref (aS 0)), (2, .int x2), (3, .int x3)]) hx hb dX2_readLetter_44 hl (by decide) rfl (fun ls hl => ?_)
  refine lv_aload_n hx hb dX2_readLetter_46 rfl (lv_at hl 1 rfl) ?_
  refine va_get (D := D) (ci := 2) (v := .ref (aL 5)) (C := RX2) (T := TX2) (N := 9) hx hb hts xu_X2 hown hK hP 0 rfl rfl 1 (by decide) (hts _ xw_108) (fun _ h9 => h9) rfl dX2_readLetter_47 ?_
  refine lv_iload hx hb dX2_readLetter_50 (lv_at hl 0 rfl) ?_
  obtain ⟨hi9, h⟩ := xi_g h
  refine va_aldq (C := RX1) hx hb hK hP 5 2 rfl rfl hi9 dX2_readLetter_52 ?_
  by_cases c9 : (L.2.2.2.2.2.2.1 (((L.2.2.2.2.2.2.2.2.2.1 * (4 : Int32)) + v_1)).toNatClampNeg) = (0 : Int32)
  · replace h := xi_t c9 h
    refine W.eq (g2 := F0 m 53 ls [.ref (aL 6)]) (by rw [c9]; rfl) ?_
    refine lv_aload_n hx hb dX2_readLetter_53 rfl (lv_at hl 2 rfl) ?_
    rcases xi_c h with ⟨E9, s_4, hc9, rfl⟩ | ⟨v_3, s_4, hc9, h⟩
    · exact xc_Vt (As := [.ref (aS 0)]) (ws' := w2 aL K (L.1, s_4.1, L.2.2.1, L.2.2.2.1, L.2.2.2.2.1, L.2.2.2.2.2.1, L.2.2.2.2.2.2.1, L.2.2.2.2.2.2.2.1, L.2.2.2.2.2.2.2.2.1, L.2.2.2.2.2.2.2.2.2.1, L.2.2.2.2.2.2.2.2.2.2.1, L.2.2.2.2.2.2.2.2.2.2.2) ++ w4 aS K s_4.2) C (mX1_readSymbol l hlt D K (fun i => aL (i + 6)) aS _ _ _ _ hc9) xgi_X2_69 xd_X1_readSymbol ⟨Nat.le_of_ble_eq_true rfl, Nat.le_of_ble_eq_true rfl⟩ ⟨Nat.le_refl _, Nat.le_refl _⟩ hl rfl (Nat.le_of_ble_eq_true rfl) dX2_readLetter_54 hP hD hS 6 1 rfl rfl rfl [6, 7, 8, 9, 25, 26] rfl rfl rfl rfl
    · refine xc_V (As := [.ref (aS 0)]) (ws' := w2 aL K (L.1, s_4.1, L.2.2.1, L.2.2.2.1, L.2.2.2.2.1, L.2.2.2.2.2.1, L.2.2.2.2.2.2.1, L.2.2.2.2.2.2.2.1, L.2.2.2.2.2.2.2.2.1, L.2.2.2.2.2.2.2.2.2.1, L.2.2.2.2.2.2.2.2.2.2.1, L.2.2.2.2.2.2.2.2.2.2.2) ++ w4 aS K s_4.2) C (mX1_readSymbol l hlt D K (fun i => aL (i + 6)) aS _ _ _ _ hc9) xgi_X2_69 xd_X1_readSymbol ⟨Nat.le_of_ble_eq_true rfl, Nat.le_of_ble_eq_true rfl⟩ ⟨Nat.zero_le _, Nat.zero_le _⟩ hl rfl (Nat.le_of_ble_eq_true rfl) dX2_readLetter_54 hP hD hS 6 1 rfl rfl rfl [6, 7, 8, 9, 25, 26] rfl rfl rfl rfl (fun H locs hP hD hS => ?_)
      refine W.eq (g2 := F0 m 57 ls [.int v_3]) rfl ?_
      obtain rfl := Option.some.inj h
      exact xe_i C hP hD hS dX2_readLetter_57
  replace h := xi_f c9 h
  by_cases c9 : (L.2.2.2.2.2.2.1 (((L.2.2.2.2.2.2.2.2.2.1 * (4 : Int32)) + v_1)).toNatClampNeg) = (1 : Int32)
  · replace h := xi_t c9 h
    refine W.eq (g2 := F0 m 53 ls [.ref (aL 10)]) (by rw [c9]; rfl) ?_
    refine lv_aload_n hx hb dX2_readLetter_53 rfl (lv_at hl 2 rfl) ?_
    rcases xi_c h with ⟨E9, s_6, hc9, rfl⟩ | ⟨v_5, s_6, hc9, h⟩
    · exact xc_Vt (As := [.ref (aS 0)]) (ws' := w2 aL K (L.1, L.2.1, s_6.1, L.2.2.2.1, L.2.2.2.2.1, L.2.2.2.2.2.1, L.2.2.2.2.2.2.1, L.2.2.2.2.2.2.2.1, L.2.2.2.2.2.2.2.2.1, L.2.2.2.2.2.2.2.2.2.1, L.2.2.2.2.2.2.2.2.2.2.1, L.2.2.2.2.2.2.2.2.2.2.2) ++ w4 aS K s_6.2) C (mX1_readSymbol l hlt D K (fun i => aL (i + 10)) aS _ _ _ _ hc9) xgi_X2_69 xd_X1_readSymbol ⟨Nat.le_of_ble_eq_true rfl, Nat.le_of_ble_eq_true rfl⟩ ⟨Nat.le_refl _, Nat.le_refl _⟩ hl rfl (Nat.le_of_ble_eq_true rfl) dX2_readLetter_54 hP hD hS 10 1 rfl rfl rfl [10, 11, 12, 13, 25, 26] rfl rfl rfl rfl
    · refine xc_V (As := [.ref (aS 0)]) (ws' := w2 aL K (L.1, L.2.1, s_6.1, L.2.2.2.1, L.2.2.2.2.1, L.2.2.2.2.2.1, L.2.2.2.2.2.2.1, L.2.2.2.2.2.2.2.1, L.2.2.2.2.2.2.2.2.1, L.2.2.2.2.2.2.2.2.2.1, L.2.2.2.2.2.2.2.2.2.2.1, L.2.2.2.2.2.2.2.2.2.2.2) ++ w4 aS K s_6.2) C (mX1_readSymbol l hlt D K (fun i => aL (i + 10)) aS _ _ _ _ hc9) xgi_X2_69 xd_X1_readSymbol ⟨Nat.le_of_ble_eq_true rfl, Nat.le_of_ble_eq_true rfl⟩ ⟨Nat.zero_le _, Nat.zero_le _⟩ hl rfl (Nat.le_of_ble_eq_true rfl) dX2_readLetter_54 hP hD hS 10 1 rfl rfl rfl [10, 11, 12, 13, 25, 26] rfl rfl rfl rfl (fun H locs hP hD hS => ?_)
      refine W.eq (g2 := F0 m 57 ls [.int v_5]) rfl ?_
      obtain rfl := Option.some.inj h
      exact xe_i C hP hD hS dX2_readLetter_57
  replace h := xi_f c9 h
  by_cases c9 : (L.2.2.2.2.2.2.1 (((L.2.2.2.2.2.2.2.2.2.1 * (4 : Int32)) + v_1)).toNatClampNeg) = (2 : Int32)
  · replace h := xi_t c9 h
    refine W.eq (g2 := F0 m 53 ls [.ref (aL 14)]) (by rw [c9]; rfl) ?_
    refine lv_aload_n hx hb dX2_readLetter_53 rfl (lv_at hl 2 rfl) ?_
    rcases xi_c h with ⟨E9, s_8, hc9, rfl⟩ | ⟨v_7, s_8, hc9, h⟩
    · exact xc_Vt (As := [.ref (aS 0)]) (ws' := w2 aL K (L.1, L.2.1, L.2.2.1, s_8.1, L.2.2.2.2.1, L.2.2.2.2.2.1, L.2.2.2.2.2.2.1, L.2.2.2.2.2.2.2.1, L.2.2.2.2.2.2.2.2.1, L.2.2.2.2.2.2.2.2.2.1, L.2.2.2.2.2.2.2.2.2.2.1, L.2.2.2.2.2.2.2.2.2.2.2) ++ w4 aS K s_8.2) C (mX1_readSymbol l hlt D K (fun i => aL (i + 14)) aS _ _ _ _ hc9) xgi_X2_69 xd_X1_readSymbol ⟨Nat.le_of_ble_eq_true rfl, Nat.le_of_ble_eq_true rfl⟩ ⟨Nat.le_refl _, Nat.le_refl _⟩ hl rfl (Nat.le_of_ble_eq_true rfl) dX2_readLetter_54 hP hD hS 14 1 rfl rfl rfl [14, 15, 16, 17, 25, 26] rfl rfl rfl rfl
    · refine xc_V (As := [.ref (aS 0)]) (ws' := w2 aL K (L.1, L.2.1, L.2.2.1, s_8.1, L.2.2.2.2.1, L.2.2.2.2.2.1, L.2.2.2.2.2.2.1, L.2.2.2.2.2.2.2.1, L.2.2.2.2.2.2.2.2.1, L.2.2.2.2.2.2.2.2.2.1, L.2.2.2.2.2.2.2.2.2.2.1, L.2.2.2.2.2.2.2.2.2.2.2) ++ w4 aS K s_8.2) C (mX1_readSymbol l hlt D K (fun i => aL (i + 14)) aS _ _ _ _ hc9) xgi_X2_69 xd_X1_readSymbol ⟨Nat.le_of_ble_eq_true rfl, Nat.le_of_ble_eq_true rfl⟩ ⟨Nat.zero_le _, Nat.zero_le _⟩ hl rfl (Nat.le_of_ble_eq_true rfl) dX2_readLetter_54 hP hD hS 14 1 rfl rfl rfl [14, 15, 16, 17, 25, 26] rfl rfl rfl rfl (fun H locs hP hD hS => ?_)
      refine W.eq (g2 := F0 m 57 ls [.int v_7]) rfl ?_
      obtain rfl := Option.some.inj h
      exact xe_i C hP hD hS dX2_readLetter_57
  replace h := xi_f c9 h
  by_cases c9 : (L.2.2.2.2.2.2.1 (((L.2.2.2.2.2.2.2.2.2.1 * (4 : Int32)) + v_1)).toNatClampNeg) = (3 : Int32)
  · replace h := xi_t c9 h
    refine W.eq (g2 := F0 m 53 ls [.ref (aL 18)]) (by rw [c9]; rfl) ?_
    refine lv_aload_n hx hb dX2_readLetter_53 rfl (lv_at hl 2 rfl) ?_
    rcases xi_c h with ⟨E9, s_10, hc9, rfl⟩ | ⟨v_9, s_10, hc9, h⟩
    · exact xc_Vt (As := [.ref (aS 0)]) (ws' := w2 aL K (L.1, L.2.1, L.2.2.1, L.2.2.2.1, s_10.1, L.2.2.2.2.2.1, L.2.2.2.2.2.2.1, L.2.2.2.2.2.2.2.1, L.2.2.2.2.2.2.2.2.1, L.2.2.2.2.2.2.2.2.2.1, L.2.2.2.2.2.2.2.2.2.2.1, L.2.2.2.2.2.2.2.2.2.2.2) ++ w4 aS K s_10.2) C (mX1_readSymbol l hlt D K (fun i => aL (i + 18)) aS _ _ _ _ hc9) xgi_X2_69 xd_X1_readSymbol ⟨Nat.le_of_ble_eq_true rfl, Nat.le_of_ble_eq_true rfl⟩ ⟨Nat.le_refl _, Nat.le_refl _⟩ hl rfl (Nat.le_of_ble_eq_true rfl) dX2_readLetter_54 hP hD hS 18 1 rfl rfl rfl [18, 19, 20, 21, 25, 26] rfl rfl rfl rfl
    · refine xc_V (As := [.ref (aS 0)]) (ws' := w2 aL K (L.1, L.2.1, L.2.2.1, L.2.2.2.1, s_10.1, L.2.2.2.2.2.1, L.2.2.2.2.2.2.1, L.2.2.2.2.2.2.2.1, L.2.2.2.2.2.2.2.2.1, L.2.2.2.2.2.2.2.2.2.1, L.2.2.2.2.2.2.2.2.2.2.1, L.2.2.2.2.2.2.2.2.2.2.2) ++ w4 aS K s_10.2) C (mX1_readSymbol l hlt D K (fun i => aL (i + 18)) aS _ _ _ _ hc9) xgi_X2_69 xd_X1_readSymbol ⟨Nat.le_of_ble_eq_true rfl, Nat.le_of_ble_eq_true rfl⟩ ⟨Nat.zero_le _, Nat.zero_le _⟩ hl rfl (Nat.le_of_ble_eq_true rfl) dX2_readLetter_54 hP hD hS 18 1 rfl rfl rfl [18, 19, 20, 21, 25, 26] rfl rfl rfl rfl (fun H locs hP hD hS => ?_)
      refine W.eq (g2 := F0 m 57 ls [.int v_9]) rfl ?_
      obtain rfl := Option.some.inj h
      exact xe_i C hP hD hS dX2_readLetter_57
  replace h := xi_f c9 h
  exact nomatch h
set_option maxHeartbeats 4000000 in
set_option maxRecDepth 100000 in
theorem mX2_readLetter (l : Launch) (hlt : l.stackTraces = false) (D : va_G) (K : Nat → ClassId) (aL : Nat → Nat) (aS : Nat → Nat) (sz : Nat) (L : S2) (S : S4) (p2 : Int32) (p3 : Int32) (r : (String × (S2 × S4)) ⊕ (Int32 × (S2 × S4))) (h : fX2_readLetter L S p2 p3 = some r) : xMet l yX2_readLetter cX2_readLetter 5 (some .int) 8 138 D K [.ref (aL 0), .ref (aS 0), .int p2, .int p3] sz (w2 aL K L ++ w4 aS K S) (oX2_readLetter aL aS K r) := by
  refine xm_of _ (by decide +kernel) (Nat.le_of_ble_eq_true rfl) (fun p e s m args below meth c A C hP hD ls hl => ?_)
  have hl : lv_has ls 5 [(0, .ref (aL 0)), (1, .ref (aS 0)), (2, .int p2), (3, .int p3)] := hl
  have hS : va_S A s.heap s.heap [] := va_S.rf
  obtain ⟨hx, hb, hr, hml, hown, hK, hts, hA, hG, hlk, hte, hnm⟩ := id C
  replace h : (if L.2.2.2.2.2.2.2.2.1 ≤ (1 : Int32) then fX2_readLetter_18 L S p2 p3 else fX2_readLetter_18 (L.1, L.2.1, L.2.2.1, L.2.2.2.1, L.2.2.2.2.1, L.2.2.2.2.2.1, L.2.2.2.2.2.2.1, L.2.2.2.2.2.2.2.1, L.2.2.2.2.2.2.2.2.1, L.2.2.2.2.2.2.2.2.2.1, L.2.2.2.2.2.2.2.2.2.2.1, (L.2.2.2.2.2.2.2.2.2.2.2 - (1 : Int32))) S p2 p3) = some r := h
  refine lv_aload_n hx hb dX2_readLetter_0 rfl (lv_at hl 0 rfl) ?_
  refine va_get (D := D) (ci := 2) (v := .int L.2.2.2.2.2.2.2.2.1) (C := RX2) (T := TX2) (N := 9) hx hb hts xu_X2 hown hK hP 0 rfl rfl 5 (by decide) (hts _ xw_112) (fun _ h9 => h9) rfl dX2_readLetter_1 ?_
  refine lv_iconst (v := (1 : Int32)) hx hb dX2_readLetter_4 (by decide) ?_
  refine lv_icmp_le (tgt := 18) hx hb dX2_readLetter_5 (by decide) (fun c9 => ?_) (fun c9 => ?_)
  · replace h := xi_t c9 h
    exact kX2_readLetter_18 C hlt _ _ _ _ _ h _ _ _ hP hD hS (lv_sub hl [0, 1, 2, 3] rfl)
  · replace h := xi_f c9 h
    refine lv_aload_n hx hb dX2_readLetter_8 rfl (lv_at hl 0 rfl) ?_
    refine lv_dup hx hb dX2_readLetter_9 rfl ?_
    refine va_get (D := D) (ci := 2) (v := .int L.2.2.2.2.2.2.2.2.2.2.2) (C := RX2) (T := TX2) (N := 9) hx hb hts xu_X2 hown hK hP 0 rfl rfl 8 (by decide) (hts _ xw_115) (fun _ h9 => h9) rfl dX2_readLetter_10 ?_
    refine lv_iconst (v := (1 : Int32)) hx hb dX2_readLetter_13 (by decide) ?_
    refine lv_isub hx hb dX2_readLetter_14 ?_
    refine va_put (D := D) (ci := 2) (v := .int (L.2.2.2.2.2.2.2.2.2.2.2 - (1 : Int32))) (ty := .int) (C := RX2) (T := TX2) (N := 9) hx hb hts xu_X2 tyX2 tyX2_ok nmX2 hown hK hP hD hS 0 rfl rfl 8 (by decide) (hts _ xw_115) (fun _ h9 => h9) rfl (by decide +kernel) rfl rfl (Nat.le_of_ble_eq_true rfl) dX2_readLetter_15 (fun H locs hP hD hS => ?_)
    have hP : va_P D vwCl (w2 aL K (L.1, L.2.1, L.2.2.1, L.2.2.2.1, L.2.2.2.2.1, L.2.2.2.2.2.1, L.2.2.2.2.2.2.1, L.2.2.2.2.2.2.2.1, L.2.2.2.2.2.2.2.2.1, L.2.2.2.2.2.2.2.2.2.1, L.2.2.2.2.2.2.2.2.2.2.1, (L.2.2.2.2.2.2.2.2.2.2.2 - (1 : Int32))) ++ w4 aS K S) H := hP
    have hD : va_D A (w2 aL K (L.1, L.2.1, L.2.2.1, L.2.2.2.1, L.2.2.2.2.1, L.2.2.2.2.2.1, L.2.2.2.2.2.2.1, L.2.2.2.2.2.2.2.1, L.2.2.2.2.2.2.2.2.1, L.2.2.2.2.2.2.2.2.2.1, L.2.2.2.2.2.2.2.2.2.2.1, (L.2.2.2.2.2.2.2.2.2.2.2 - (1 : Int32))) ++ w4 aS K S) := hD
    exact kX2_readLetter_18 C hlt _ _ _ _ _ h _ _ _ hP hD hS (lv_sub hl [0, 1, 2, 3] rfl)
