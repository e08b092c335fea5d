abbrev oX2_readLetterCodes (aL : Nat → Nat) (aS : Nat → Nat) (K : Nat → ClassId) (r : (String × (S2 × S4)) ⊕ (Unit × (S2 × S4))) : xO := match r with
  | .inl q => .inl (q.1, w2 aL K q.2.1 ++ w4 aS K q.2.2)
  | .inr q => .inr (none, w2 aL K q.2.1 ++ w4 aS K q.2.2)
def fX2_readLetterCodes_32 : Nat → S2 → S4 → Int32 → Int32 → Option ((String × (S2 × S4)) ⊕ (Unit × (S2 × S4)))
  | 0 => fun _ _ _ _ => none
  | fu + 1 => fun L S x2 x3 => (if x2 ≤ x3 then some (.inr ((), (L, S))) else (if x3 < 0 ∨ 4 ≤ (x3).toNatClampNeg then none else (if x3 = (0 : Int32) then xbnd (fX1_readCode L.2.1 S (32 : Int32)) (fun E9 s_8 => .inl (E9, ((L.1, s_8.1, L.2.2.1, L.2.2.2.1, L.2.2.2.2.1, L.2.2.2.2.2.1, L.2.2.2.2.2.2.1, L.2.2.2.2.2.2.2.1, L.2.2.2.2.2.2.2.2.1, L.2.2.2.2.2.2.2.2.2.1, L.2.2.2.2.2.2.2.2.2.2.1, L.2.2.2.2.2.2.2.2.2.2.2), s_8.2))) (fun v_7 s_8 => fX2_readLetterCodes_32 fu (L.1, s_8.1, L.2.2.1, L.2.2.2.1, L.2.2.2.2.1, L.2.2.2.2.2.1, L.2.2.2.2.2.2.1, L.2.2.2.2.2.2.2.1, L.2.2.2.2.2.2.2.2.1, L.2.2.2.2.2.2.2.2.2.1, L.2.2.2.2.2.2.2.2.2.2.1, L.2.2.2.2.2.2.2.2.2.2.2) s_8.2 x2 (x3 + (1 : Int32))) else (if x3 = (1 : Int32) then xbnd (fX1_readCode L.2.2.1 S (32 : Int32)) (fun E9 s_10 => .inl (E9, ((L.1, L.2.1, s_10.1, L.2.2.2.1, L.2.2.2.2.1, L.2.2.2.2.2.1, L.2.2.2.2.2.2.1, L.2.2.2.2.2.2.2.1, L.2.2.2.2.2.2.2.2.1, L.2.2.2.2.2.2.2.2.2.1, L.2.2.2.2.2.2.2.2.2.2.1, L.2.2.2.2.2.2.2.2.2.2.2), s_10.2))) (fun v_9 s_10 => fX2_readLetterCodes_32 fu (L.1, L.2.1, s_10.1, L.2.2.2.1, L.2.2.2.2.1, L.2.2.2.2.2.1, L.2.2.2.2.2.2.1, L.2.2.2.2.2.2.2.1, L.2.2.2.2.2.2.2.2.1, L.2.2.2.2.2.2.2.2.2.1, L.2.2.2.2.2.2.2.2.2.2.1, L.2.2.2.2.2.2.2.2.2.2.2) s_10.2 x2 (x3 + (1 : Int32))) else (if x3 = (2 : Int32) then xbnd (fX1_readCode L.2.2.2.1 S (32 : Int32)) (fun E9 s_12 => .inl (E9, ((L.1, L.2.1, L.2.2.1, s_12.1, L.2.2.2.2.1, L.2.2.2.2.2.1, L.2.2.2.2.2.2.1, L.2.2.2.2.2.2.2.1, L.2.2.2.2.2.2.2.2.1, L.2.2.2.2.2.2.2.2.2.1, L.2.2.2.2.2.2.2.2.2.2.1, L.2.2.2.2.2.2.2.2.2.2.2), s_12.2))) (fun v_11 s_12 => fX2_readLetterCodes_32 fu (L.1, L.2.1, L.2.2.1, s_12.1, L.2.2.2.2.1, L.2.2.2.2.2.1, L.2.2.2.2.2.2.1, L.2.2.2.2.2.2.2.1, L.2.2.2.2.2.2.2.2.1, L.2.2.2.2.2.2.2.2.2.1, L.2.2.2.2.2.2.2.2.2.2.1, L.2.2.2.2.2.2.2.2.2.2.2) s_12.2 x2 (x3 + (1 : Int32))) else (if x3 = (3 : Int32) then xbnd (fX1_readCode L.2.2.2.2.1 S (32 : Int32)) (fun E9 s_14 => .inl (E9, ((L.1, L.2.1, L.2.2.1, L.2.2.2.1, s_14.1, L.2.2.2.2.2.1, L.2.2.2.2.2.2.1, L.2.2.2.2.2.2.2.1, L.2.2.2.2.2.2.2.2.1, L.2.2.2.2.2.2.2.2.2.1, L.2.2.2.2.2.2.2.2.2.2.1, L.2.2.2.2.2.2.2.2.2.2.2), s_14.2))) (fun v_13 s_14 => fX2_readLetterCodes_32 fu (L.1, L.2.1, L.2.2.1, L.2.2.2.1, s_14.1, L.2.2.2.2.2.1, L.2.2.2.2.2.2.1, L.2.2.2.2.2.2.2.1, L.2.2.2.2.2.2.2.2.1, L.2.2.2.2.2.2.2.2.2.1, L.2.2.2.2.2.2.2.2.2.2.1, L.2.2.2.2.2.2.2.2.2.2.2) s_14.2 x2 (x3 + (1 : Int32))) else none))))))
def fX2_readLetterCodes_30 (L : S2) (S : S4) (x2 : Int32) : Option ((String × (S2 × S4)) ⊕ (Unit × (S2 × S4))) := fX2_readLetterCodes_32 xF L S x2 (0 : Int32)
def fX2_readLetterCodes (L : S2) (S : S4) : Option ((String × (S2 × S4)) ⊕ (Unit × (S2 × S4))) := xbnd (fX4_readNumber S (2 : Int32)) (fun E9 s_2 => .inl (E9, (L, s_2))) (fun v_1 s_2 => (if (v_1 + (1 : Int32)) ≤ (1 : Int32) then xbnd0 (fJ7_fill_53178 12 L.2.2.2.2.2.2.1 (0 : Int32)) (fun v_3 s_4 => fX2_readLetterCodes_30 (L.1, L.2.1, L.2.2.1, L.2.2.2.1, L.2.2.2.2.1, L.2.2.2.2.2.1, s_4, L.2.2.2.2.2.2.2.1, L.2.2.2.2.2.2.2.2.1, L.2.2.2.2.2.2.2.2.2.1, L.2.2.2.2.2.2.2.2.2.2.1, L.2.2.2.2.2.2.2.2.2.2.2) s_2 (v_1 + (1 : Int32))) else xbnd (fX2_readMap L s_2 (v_1 + (1 : Int32))) (fun E9 s_6 => .inl (E9, (s_6.1, s_6.2))) (fun v_5 s_6 => fX2_readLetterCodes_30 s_6.1 s_6.2 (v_1 + (1 : Int32)))))
set_option maxHeartbeats 4000000 in
set_option maxRecDepth 100000 in
theorem kX2_readLetterCodes_32 {p : Program} {l : Launch} {e : Env} {s : State} {m : MethodId} {args : Array Value} {below : List Frame} {meth : Method} {c : Code} {D : va_G} {K : Nat → ClassId} {A : Nat → Prop} {aL : Nat → Nat} {aS : Nat → Nat} (C : xC p s m args meth c cX2_readLetterCodes 4 none yX2_readLetterCodes D K A []) (hlt : l.stackTraces = false) : ∀ fu : Nat, ∀ (L : S2) (S : S4) (x2 : Int32) (x3 : Int32) (r : (String × (S2 × S4)) ⊕ (Unit × (S2 × S4))), fX2_readLetterCodes_32 fu L S x2 x3 = some r → ∀ (H : Heap) (locs : List Loc) (ls : Array Slot), va_P D vwCl (w2 aL K L ++ w4 aS K S) H → va_D A (w2 aL K L ++ w4 aS K S) → va_S A s.heap H locs → lv_has ls 4 [(0, .ref (aL 0)), (1, .ref (aS 0)), (2, .int x2), (3, .int x3)] → W p l e (xR 9 162 (oX2_readLetterCodes aL aS K r)) s m args below meth c H locs 0 0 (xQ below args s D K A (oX2_readLetterCodes aL aS K r)) (F0 m 32 ls []) := by
  obtain ⟨hx, hb, hr, hml, hown, hK, hts, hA, hG, hlk, hte, hnm⟩ := id C
  intro fu
  induction fu with
  | zero =>
    intro L S x2 x3 r h
    exact nomatch (show (none : Option ((String × (S2 × S4)) ⊕ (Unit × (S2 × S4)))) = some r from h)
  | succ fu ih =>
    intro L S x2 x3 r h H locs ls hP hD hS hl
    replace h : (if x2 ≤ x3 then some (.inr ((), (L, S))) else (if x3 < 0 ∨ 4 ≤ (x3).toNatClampNeg then none else (if x3 = (0 : Int32) then xbnd (fX1_readCode L.2.1 S (32 : Int32)) (fun E9 s_8 => .inl (E9, ((L.1, s_8.1, L.2.2.1, L.2.2.2.1, L.2.2.2.2.1, L.2.2.2.2.2.1, L.2.2.2.2.2.2.1, L.2.2.2.2.2.2.2.1, L.2.2.2.2.2.2.2.2.1, L.2.2.2.2.2.2.2.2.2.1, L.2.2.2.2.2.2.2.2.2.2.1, L.2.2.2.2.2.2.2.2.2.2.2), s_8.2))) (fun v_7 s_8 => fX2_readLetterCodes_32 fu (L.1, s_8.1, L.2.2.1, L.2.2.2.1, L.2.2.2.2.1, L.2.2.2.2.2.1, L.2.2.2.2.2.2.1, L.2.2.2.2.2.2.2.1, L.2.2.2.2.2.2.2.2.1, L.2.2.2.2.2.2.2.2.2.1, L.2.2.2.2.2.2.2.2.2.2.1, L.2.2.2.2.2.2.2.2.2.2.2) s_8.2 x2 (x3 + (1 : Int32))) else (if x3 = (1 : Int32) then xbnd (fX1_readCode L.2.2.1 S (32 : Int32)) (fun E9 s_10 => .inl (E9, ((L.1, L.2.1, s_10.1, L.2.2.2.1, L.2.2.2.2.1, L.2.2.2.2.2.1, L.2.2.2.2.2.2.1, L.2.2.2.2.2.2.2.1, L.2.2.2.2.2.2.2.2.1, L.2.2.2.2.2.2.2.2.2.1, L.2.2.2.2.2.2.2.2.2.2.1, L.2.2.2.2.2.2.2.2.2.2.2), s_10.2))) (fun v_9 s_10 => fX2_readLetterCodes_32 fu (L.1, L.2.1, s_10.1, L.2.2.2.1, L.2.2.2.2.1, L.2.2.2.2.2.1, L.2.2.2.2.2.2.1, L.2.2.2.2.2.2.2.1, L.2.2.2.2.2.2.2.2.1, L.2.2.2.2.2.2.2.2.2.1, L.2.2.2.2.2.2.2.2.2.2.1, L.2.2.2.2.2.2.2.2.2.2.2) s_10.2 x2 (x3 + (1 : Int32))) else (if x3 = (2 : Int32) then xbnd (fX1_readCode L.2.2.2.1 S (32 : Int32)) (fun E9 s_12 => .inl (E9, ((L.1, L.2.1, L.2.2.1, s_12.1, L.2.2.2.2.1, L.2.2.2.2.2.1, L.2.2.2.2.2.2.1, L.2.2.2.2.2.2.2.1, L.2.2.2.2.2.2.2.2.1, L.2.2.2.2.2.2.2.2.2.1, L.2.2.2.2.2.2.2.2.2.2.1, L.2.2.2.2.2.2.2.2.2.2.2), s_12.2))) (fun v_11 s_12 => fX2_readLetterCodes_32 fu (L.1, L.2.1, L.2.2.1, s_12.1, L.2.2.2.2.1, L.2.2.2.2.2.1, L.2.2.2.2.2.2.1, L.2.2.2.2.2.2.2.1, L.2.2.2.2.2.2.2.2.1, L.2.2.2.2.2.2.2.2.2.1, L.2.2.2.2.2.2.2.2.2.2.1, L.2.2.2.2.2.2.2.2.2.2.2) s_12.2 x2 (x3 + (1 : Int32))) else (if x3 = (3 : Int32) then xbnd (fX1_readCode L.2.2.2.2.1 S (32 : Int32)) (fun E9 s_14 => .inl (E9, ((L.1, L.2.1, L.2.2.1, L.2.2.2.1, s_14.1, L.2.2.2.2.2.1, L.2.2.2.2.2.2.1, L.2.2.2.2.2.2.2.1, L.2.2.2.2.2.2.2.2.1, L.2.2.2.2.2.2.2.2.2.1, L.2.2.2.2.2.2.2.2.2.2.1, L.2.2.2.2.2.2.2.2.2.2.2), s_14.2))) (fun v_13 s_14 => fX2_readLetterCodes_32 fu (L.1, L.2.1, L.2.2.1, L.2.2.2.1, s_14.1, L.2.2.2.2.2.1, L.2.2.2.2.2.2.1, L.2.2.2.2.2.2.2.1, L.2.2.2.2.2.2.2.2.1, L.2.2.2.2.2.2.2.2.2.1, L.2.2.2.2.2.2.2.2.2.2.1, L.2.2.2.2.2.2.2.2.2.2.2) s_14.2 x2 (x3 + (1 : Int32))) else none)))))) = some r := h
    refine lv_iload_n hx hb dX2_readLetterCodes_32 rfl (lv_at hl 3 rfl) ?_
    refine lv_iload_n hx hb dX2_readLetterCodes_33 rfl (lv_at hl 2 rfl) ?_
    refine lv_icmp_ge (tgt := 55) hx hb dX2_readLetterCodes_34 (by decide) (fun c9 => ?_) (fun c9 => ?_)
    · replace h := xi_t c9 h
      obtain rfl := Option.some.inj h
      exact xe_v C hP hD hS dX2_readLetterCodes_55
    · replace h := xi_f c9 h
      refine lv_aload_n hx hb dX2_readLetterCodes_37 rfl (lv_at hl 0 rfl) ?_
      refine va_get (D := D) (ci := 2) (v := .ref (aL 5)) (C := RX2) (T := TX2) (N := 9) hx hb hts xu_X2 hown hK hP 0 rfl rfl 1 (by decide) (hts _ xw_108) (fun _ h9 => h9) rfl dX2_readLetterCodes_38 ?_
      refine lv_iload_n hx hb dX2_readLetterCodes_41 rfl (lv_at hl 3 rfl) ?_
      obtain ⟨hi9, h⟩ := xi_g h
      refine va_aldq (C := RX1) hx hb hK hP 5 2 rfl rfl hi9 dX2_readLetterCodes_42 ?_
      by_cases c9 : x3 = (0 : Int32)
      · replace h := xi_t c9 h
        refine W.eq (g2 := F0 m 43 ls [.ref (aL 6)]) (by rw [c9]; rfl) ?_
        refine lv_aload_n hx hb dX2_readLetterCodes_43 rfl (lv_at hl 1 rfl) ?_
        refine lv_bipush (v := (32 : Int32)) hx hb dX2_readLetterCodes_44 (by decide) ?_
        rcases xi_c h with ⟨E9, s_8, hc9, rfl⟩ | ⟨v_7, s_8, hc9, h⟩
        · exact xc_Vt (As := [.ref (aS 0), .int (32 : Int32)]) (ws' := w2 aL K (L.1, s_8.1, L.2.2.1, L.2.2.2.1, L.2.2.2.2.1, L.2.2.2.2.2.1, L.2.2.2.2.2.2.1, L.2.2.2.2.2.2.2.1, L.2.2.2.2.2.2.2.2.1, L.2.2.2.2.2.2.2.2.2.1, L.2.2.2.2.2.2.2.2.2.2.1, L.2.2.2.2.2.2.2.2.2.2.2) ++ w4 aS K s_8.2) C (mX1_readCode l hlt D K (fun i => aL (i + 6)) aS _ _ _ _ _ hc9) xgi_X2_53 xd_X1_readCode ⟨Nat.le_of_ble_eq_true rfl, Nat.le_of_ble_eq_true rfl⟩ ⟨Nat.le_refl _, Nat.le_refl _⟩ hl rfl (Nat.le_of_ble_eq_true rfl) dX2_readLetterCodes_46 hP hD hS 6 1 rfl rfl rfl [6, 7, 8, 9, 25, 26] rfl rfl [(6, w1 (fun i => aL (i + 6)) K s_8.1), (25, w4 aS K s_8.2)] rfl rfl rfl (List.forall_mem_cons.mpr ⟨Nat.le_of_ble_eq_true rfl, (List.forall_mem_cons.mpr ⟨Nat.le_of_ble_eq_true rfl, (fun _ h => absurd h List.not_mem_nil)⟩)⟩)
        · refine xc_V (As := [.ref (aS 0), .int (32 : Int32)]) (ws' := w2 aL K (L.1, s_8.1, L.2.2.1, L.2.2.2.1, L.2.2.2.2.1, L.2.2.2.2.2.1, L.2.2.2.2.2.2.1, L.2.2.2.2.2.2.2.1, L.2.2.2.2.2.2.2.2.1, L.2.2.2.2.2.2.2.2.2.1, L.2.2.2.2.2.2.2.2.2.2.1, L.2.2.2.2.2.2.2.2.2.2.2) ++ w4 aS K s_8.2) C (mX1_readCode l hlt D K (fun i => aL (i + 6)) aS _ _ _ _ _ hc9) xgi_X2_53 xd_X1_readCode ⟨Nat.le_of_ble_eq_true rfl, Nat.le_of_ble_eq_true rfl⟩ ⟨Nat.zero_le _, Nat.zero_le _⟩ hl rfl (Nat.le_of_ble_eq_true rfl) dX2_readLetterCodes_46 hP hD hS 6 1 rfl rfl rfl [6, 7, 8, 9, 25, 26] rfl rfl [(6, w1 (fun i => aL (i + 6)) K s_8.1), (25, w4 aS K s_8.2)] rfl rfl rfl (List.forall_mem_cons.mpr ⟨Nat.le_of_ble_eq_true rfl, (List.forall_mem_cons.mpr ⟨Nat.le_of_ble_eq_true rfl, (fun _ h => absurd h List.not_mem_nil)⟩)⟩) (fun H locs hP hD hS => ?_)
          refine W.eq (g2 := F0 m 49 ls []) rfl ?_
          refine lv_iinc (v := (x3 + (1 : Int32))) (lv' := [(3, .int (x3 + (1 : Int32))), (0, .ref (aL 0)), (1, .ref (aS 0)), (2, .int x2)]) hx hb dX2_readLetterCodes_49 hl (k := 3) rfl (by rfl) (by decide) rfl (fun ls hl => ?_)
          refine lv_goto (tgt := 32) hx hb dX2_readLetterCodes_52 (by decide) ?_
          exact ih _ _ _ _ _ h _ _ _ hP hD hS (lv_sub hl [1, 2, 3, 0] rfl)
      replace h := xi_f c9 h
      by_cases c9 : x3 = (1 : Int32)
      · replace h := xi_t c9 h
        refine W.eq (g2 := F0 m 43 ls [.ref (aL 10)]) (by rw [c9]; rfl) ?_
        refine lv_aload_n hx hb dX2_readLetterCodes_43 rfl (lv_at hl 1 rfl) ?_
        refine lv_bipush (v := (32 : Int32)) hx hb dX2_readLetterCodes_44 (by decide) ?_
        rcases xi_c h with ⟨E9, s_10, hc9, rfl⟩ | ⟨v_9, s_10, hc9, h⟩
        · exact xc_Vt (As := [.ref (aS 0), .int (32 : Int32)]) (ws' := w2 aL K (L.1, L.2.1, s_10.1, L.2.2.2.1, L.2.2.2.2.1, L.2.2.2.2.2.1, L.2.2.2.2.2.2.1, L.2.2.2.2.2.2.2.1, L.2.2.2.2.2.2.2.2.1, L.2.2.2.2.2.2.2.2.2.1, L.2.2.2.2.2.2.2.2.2.2.1, L.2.2.2.2.2.2.2.2.2.2.2) ++ w4 aS K s_10.2) C (mX1_readCode l hlt D K (fun i => aL (i + 10)) aS _ _ _ _ _ hc9) xgi_X2_53 xd_X1_readCode ⟨Nat.le_of_ble_eq_true rfl, Nat.le_of_ble_eq_true rfl⟩ ⟨Nat.le_refl _, Nat.le_refl _⟩ hl rfl (Nat.le_of_ble_eq_true rfl) dX2_readLetterCodes_46 hP hD hS 10 1 rfl rfl rfl [10, 11, 12, 13, 25, 26] rfl rfl [(10, w1 (fun i => aL (i + 10)) K s_10.1), (25, w4 aS K s_10.2)] rfl rfl rfl (List.forall_mem_cons.mpr ⟨Nat.le_of_ble_eq_true rfl, (List.forall_mem_cons.mpr ⟨Nat.le_of_ble_eq_true rfl, (fun _ h => absurd h List.not_mem_nil)⟩)⟩)
        · refine xc_V (As := [.ref (aS 0), .int (32 : Int32)]) (ws' := w2 aL K (L.1, L.2.1, s_10.1, L.2.2.2.1, L.2.2.2.2.1, L.2.2.2.2.2.1, L.2.2.2.2.2.2.1, L.2.2.2.2.2.2.2.1, L.2.2.2.2.2.2.2.2.1, L.2.2.2.2.2.2.2.2.2.1, L.2.2.2.2.2.2.2.2.2.2.1, L.2.2.2.2.2.2.2.2.2.2.2) ++ w4 aS K s_10.2) C (mX1_readCode l hlt D K (fun i => aL (i + 10)) aS _ _ _ _ _ hc9) xgi_X2_53 xd_X1_readCode ⟨Nat.le_of_ble_eq_true rfl, Nat.le_of_ble_eq_true rfl⟩ ⟨Nat.zero_le _, Nat.zero_le _⟩ hl rfl (Nat.le_of_ble_eq_true rfl) dX2_readLetterCodes_46 hP hD hS 10 1 rfl rfl rfl [10, 11, 12, 13, 25, 26] rfl rfl [(10, w1 (fun i => aL (i + 10)) K s_10.1), (25, w4 aS K s_10.2)] rfl rfl rfl (List.forall_mem_cons.mpr ⟨Nat.le_of_ble_eq_true rfl, (List.forall_mem_cons.mpr ⟨Nat.le_of_ble_eq_true rfl, (fun _ h => absurd h List.not_mem_nil)⟩)⟩) (fun H locs hP hD hS => ?_)
          refine W.eq (g2 := F0 m 49 ls []) rfl ?_
          refine lv_iinc (v := (x3 + (1 : Int32))) (lv' := [(3, .int (x3 + (1 : Int32))), (0, .ref (aL 0)), (1, .ref (aS 0)), (2, .int x2)]) hx hb dX2_readLetterCodes_49 hl (k := 3) rfl (by rfl) (by decide) rfl (fun ls hl => ?_)
          refine lv_goto (tgt := 32) hx hb dX2_readLetterCodes_52 (by decide) ?_
          exact ih _ _ _ _ _ h _ _ _ hP hD hS (lv_sub hl [1, 2, 3, 0] rfl)
      replace h := xi_f c9 h
      by_cases c9 : x3 = (2 : Int32)
      · replace h := xi_t c9 h
        refine W.eq (g2 := F0 m 43 ls [.ref (aL 14)]) (by rw [c9]; rfl) ?_
        refine lv_aload_n hx hb dX2_readLetterCodes_43 rfl (lv_at hl 1 rfl) ?_
        refine lv_bipush (v := (32 : Int32)) hx hb dX2_readLetterCodes_44 (by decide) ?_
        rcases xi_c h with ⟨E9, s_12, hc9, rfl⟩ | ⟨v_11, s_12, hc9, h⟩
        · exact xc_Vt (As := [.ref (aS 0), .int (32 : Int32)]) (ws' := w2 aL K (L.1, L.2.1, L.2.2.1, s_12.1, L.2.2.2.2.1, L.2.2.2.2.2.1, L.2.2.2.2.2.2.1, L.2.2.2.2.2.2.2.1, L.2.2.2.2.2.2.2.2.1, L.2.2.2.2.2.2.2.2.2.1, L.2.2.2.2.2.2.2.2.2.2.1, L.2.2.2.2.2.2.2.2.2.2.2) ++ w4 aS K s_12.2) C (mX1_readCode l hlt D K (fun i => aL (i + 14)) aS _ _ _ _ _ hc9) xgi_X2_53 xd_X1_readCode ⟨Nat.le_of_ble_eq_true rfl, Nat.le_of_ble_eq_true rfl⟩ ⟨Nat.le_refl _, Nat.le_refl _⟩ hl rfl (Nat.le_of_ble_eq_true rfl) dX2_readLetterCodes_46 hP hD hS 14 1 rfl rfl rfl [14, 15, 16, 17, 25, 26] rfl rfl [(14, w1 (fun i => aL (i + 14)) K s_12.1), (25, w4 aS K s_12.2)] rfl rfl rfl (List.forall_mem_cons.mpr ⟨Nat.le_of_ble_eq_true rfl, (List.forall_mem_cons.mpr ⟨Nat.le_of_ble_eq_true rfl, (fun _ h => absurd h List.not_mem_nil)⟩)⟩)
        · refine xc_V (As := [.ref (aS 0), .int (32 : Int32)]) (ws' := w2 aL K (L.1, L.2.1, L.2.2.1, s_12.1, L.2.2.2.2.1, L.2.2.2.2.2.1, L.2.2.2.2.2.2.1, L.2.2.2.2.2.2.2.1, L.2.2.2.2.2.2.2.2.1, L.2.2.2.2.2.2.2.2.2.1, L.2.2.2.2.2.2.2.2.2.2.1, L.2.2.2.2.2.2.2.2.2.2.2) ++ w4 aS K s_12.2) C (mX1_readCode l hlt D K (fun i => aL (i + 14)) aS _ _ _ _ _ hc9) xgi_X2_53 xd_X1_readCode ⟨Nat.le_of_ble_eq_true rfl, Nat.le_of_ble_eq_true rfl⟩ ⟨Nat.zero_le _, Nat.zero_le _⟩ hl rfl (Nat.le_of_ble_eq_true rfl) dX2_readLetterCodes_46 hP hD hS 14 1 rfl rfl rfl [14, 15, 16, 17, 25, 26] rfl rfl [(14, w1 (fun i => aL (i + 14)) K s_12.1), (25, w4 aS K s_12.2)] rfl rfl rfl (List.forall_mem_cons.mpr ⟨Nat.le_of_ble_eq_true rfl, (List.forall_mem_cons.mpr ⟨Nat.le_of_ble_eq_true rfl, (fun _ h => absurd h List.not_mem_nil)⟩)⟩) (fun H locs hP hD hS => ?_)
          refine W.eq (g2 := F0 m 49 ls []) rfl ?_
          refine lv_iinc (v := (x3 + (1 : Int32))) (lv' := [(3, .int (x3 + (1 : Int32))), (0, .ref (aL 0)), (1, .ref (aS 0)), (2, .int x2)]) hx hb dX2_readLetterCodes_49 hl (k := 3) rfl (by rfl) (by decide) rfl (fun ls hl => ?_)
          refine lv_goto (tgt := 32) hx hb dX2_readLetterCodes_52 (by decide) ?_
          exact ih _ _ _ _ _ h _ _ _ hP hD hS (lv_sub hl [1, 2, 3, 0] rfl)
      replace h := xi_f c9 h
      by_cases c9 : x3 = (3 : Int32)
      · replace h := xi_t c9 h
        refine W.eq (g2 := F0 m 43 ls [.ref (aL 18)]) (by rw [c9]; rfl) ?_
        refine lv_aload_n hx hb dX2_readLetterCodes_43 rfl (lv_at hl 1 rfl) ?_
        refine lv_bipush (v := (32 : Int32)) hx hb dX2_readLetterCodes_44 (by decide) ?_
        rcases xi_c h with ⟨E9, s_14, hc9, rfl⟩ | ⟨v_13, s_14, hc9, h⟩
        · exact xc_Vt (As := [.ref (aS 0), .int (32 : Int32)]) (ws' := w2 aL K (L.1, L.2.1, L.2.2.1, L.2.2.2.1, s_14.1, L.2.2.2.2.2.1, L.2.2.2.2.2.2.1, L.2.2.2.2.2.2.2.1, L.2.2.2.2.2.2.2.2.1, L.2.2.2.2.2.2.2.2.2.1, L.2.2.2.2.2.2.2.2.2.2.1, L.2.2.2.2.2.2.2.2.2.2.2) ++ w4 aS K s_14.2) C (mX1_readCode l hlt D K (fun i => aL (i + 18)) aS _ _ _ _ _ hc9) xgi_X2_53 xd_X1_readCode ⟨Nat.le_of_ble_eq_true rfl, Nat.le_of_ble_eq_true rfl⟩ ⟨Nat.le_refl _, Nat.le_refl _⟩ hl rfl (Nat.le_of_ble_eq_true rfl) dX2_readLetterCodes_46 hP hD hS 18 1 rfl rfl rfl [18, 19, 20, 21, 25, 26] rfl rfl [(18, w1 (fun i => aL (i + 18)) K s_14.1), (25, w4 aS K s_14.2)] rfl rfl rfl (List.forall_mem_cons.mpr ⟨Nat.le_of_ble_eq_true rfl, (List.forall_mem_cons.mpr ⟨Nat.le_of_ble_eq_true rfl, (fun _ h => absurd h List.not_mem_nil)⟩)⟩)
        · refine xc_V (As := [.ref (aS 0), .int (32 : Int32)]) (ws' := w2 aL K (L.1, L.2.1, L.2.2.1, L.2.2.2.1, s_14.1, L.2.2.2.2.2.1, L.2.2.2.2.2.2.1, L.2.2.2.2.2.2.2.1, L.2.2.2.2.2.2.2.2.1, L.2.2.2.2.2.2.2.2.2.1, L.2.2.2.2.2.2.2.2.2.2.1, L.2.2.2.2.2.2.2.2.2.2.2) ++ w4 aS K s_14.2) C (mX1_readCode l hlt D K (fun i => aL (i + 18)) aS _ _ _ _ _ hc9) xgi_X2_53 xd_X1_readCode ⟨Nat.le_of_ble_eq_true rfl, Nat.le_of_ble_eq_true rfl⟩ ⟨Nat.zero_le _, Nat.zero_le _⟩ hl rfl (Nat.le_of_ble_eq_true rfl) dX2_readLetterCodes_46 hP hD hS 18 1 rfl rfl rfl [18, 19, 20, 21, 25, 26] rfl rfl [(18, w1 (fun i => aL (i + 18)) K s_14.1), (25, w4 aS K s_14.2)] rfl rfl rfl (List.forall_mem_cons.mpr ⟨Nat.le_of_ble_eq_true rfl, (List.forall_mem_cons.mpr ⟨Nat.le_of_ble_eq_true rfl, (fun _ h => absurd h List.not_mem_nil)⟩)⟩) (fun H locs hP hD hS => ?_)
          refine W.eq (g2 := F0 m 49 ls []) rfl ?_
          refine lv_iinc (v := (x3 + (1 : Int32))) (lv' := [(3, .int (x3 + (1 : Int32))), (0, .ref (aL 0)), (1, .ref (aS 0)), (2, .int x2)]) hx hb dX2_readLetterCodes_49 hl (k := 3) rfl (by rfl) (by decide) rfl (fun ls hl => ?_)
          refine lv_goto (tgt := 32) hx hb dX2_readLetterCodes_52 (by decide) ?_
          exact ih _ _ _ _ _ h _ _ _ hP hD hS (lv_sub hl [1, 2, 3, 0] rfl)
      replace h := xi_f c9 h
      exact nomatch h
set_option maxHeartbeats 4000000 in
set_option maxRecDepth 100000 in
theorem kX2_readLetterCodes_30 {p : Program} {l : Launch} {e : Env} {s : State} {m : MethodId} {args : Array Value} {below : List Frame} {meth : Method} {c : Code} {D : va_G} {K : Nat → ClassId} {A : Nat → Prop} {aL : Nat → Nat} {aS : Nat → Nat} (C : xC p s m args meth c cX2_readLetterCodes 4 none yX2_readLetterCodes D K A []) (hlt : l.stackTraces = false) : ∀ (L : S2) (S : S4) (x2 : Int32) (r : (String × (S2 × S4)) ⊕ (Unit × (S2 × S4))), fX2_readLetterCodes_30  L S x2 = some r → ∀ (H : Heap) (locs : List Loc) (ls : Array Slot), va_P D vwCl (w2 aL K L ++ w4 aS K S) H → va_D A (w2 aL K L ++ w4 aS K S) → va_S A s.heap H locs → lv_has ls 4 [(0, .ref (aL 0)), (1, .ref (aS 0)), (2, .int x2)] → W p l e (xR 9 162 (oX2_readLetterCodes aL aS K r)) s m args below meth c H locs 0 0 (xQ below args s D K A (oX2_readLetterCodes aL aS K r)) (F0 m 30 ls []) := by
  obtain ⟨hx, hb, hr, hml, hown, hK, hts, hA, hG, hlk, hte, hnm⟩ := id C
  intro L S x2 r h H locs ls hP hD hS hl
  replace h : fX2_readLetterCodes_32 xF L S x2 (0 : Int32) = some r := h
  refine lv_iconst (v := (0 : Int32)) hx hb dX2_readLetterCodes_30 (by decide) ?_
  refine lv_istore_n (lv' := [(3, .int (0 : Int32)), (0, .ref (aL 0)), (1, .ref (aS 0)), (2, .int x2)]) hx hb dX2_readLetterCodes_31 rfl hl (by decide) rfl (fun ls hl => ?_)
  exact kX2_readLetterCodes_32 C hlt _ _ _ _ _ _ h _ _ _ hP hD hS (lv_sub hl [1, 2, 3, 0] rfl)
set_option maxHeartbeats 4000000 in
set_option maxRecDepth 100000 in
theorem mX2_readLetterCodes (l : Launch) (hlt : l.stackTraces = false) (D : va_G) (K : Nat → ClassId) (aL : Nat → Nat) (aS : Nat → Nat) (sz : Nat) (L : S2) (S : S4) (r : (String × (S2 × S4)) ⊕ (Unit × (S2 × S4))) (h : fX2_readLetterCodes L S = some r) : xMet l yX2_readLetterCodes cX2_readLetterCodes 4 none 9 162 D K [.ref (aL 0), .ref (aS 0)] sz (w2 aL K L ++ w4 aS K S) (oX2_readLetterCodes aL aS K r) := by
  refine xm_of _ (by decide +kernel) (Nat.le_of_ble_eq_true rfl) (fun p e s m args below meth c A C hP hD ls hl => ?_)
  have hl : lv_has ls 4 [(0, .ref (aL 0)), (1, .ref (aS 0))] := hl
  have hS : va_S A s.heap s.heap [] := va_S.rf
  obtain ⟨hx, hb, hr, hml, hown, hK, hts, hA, hG, hlk, hte, hnm⟩ := id C
  replace h : xbnd (fX4_readNumber S (2 : Int32)) (fun E9 s_2 => .inl (E9, (L, s_2))) (fun v_1 s_2 => (if (v_1 + (1 : Int32)) ≤ (1 : Int32) then xbnd0 (fJ7_fill_53178 12 L.2.2.2.2.2.2.1 (0 : Int32)) (fun v_3 s_4 => fX2_readLetterCodes_30 (L.1, L.2.1, L.2.2.1, L.2.2.2.1, L.2.2.2.2.1, L.2.2.2.2.2.1, s_4, L.2.2.2.2.2.2.2.1, L.2.2.2.2.2.2.2.2.1, L.2.2.2.2.2.2.2.2.2.1, L.2.2.2.2.2.2.2.2.2.2.1, L.2.2.2.2.2.2.2.2.2.2.2) s_2 (v_1 + (1 : Int32))) else xbnd (fX2_readMap L s_2 (v_1 + (1 : Int32))) (fun E9 s_6 => .inl (E9, (s_6.1, s_6.2))) (fun v_5 s_6 => fX2_readLetterCodes_30 s_6.1 s_6.2 (v_1 + (1 : Int32))))) = some r := h
  refine lv_aload_n hx hb dX2_readLetterCodes_0 rfl (lv_at hl 1 rfl) ?_
  refine lv_iconst (v := (2 : Int32)) hx hb dX2_readLetterCodes_1 (by decide) ?_
  rcases xi_c h with ⟨E9, s_2, hc9, rfl⟩ | ⟨v_1, s_2, hc9, h⟩
  · exact xc_Vt (As := [.int (2 : Int32)]) (ws' := w2 aL K L ++ w4 aS K s_2) C (mX4_readNumber l hlt D K aS _ _ _ _ hc9) xgi_X2_30 xd_X4_readNumber ⟨Nat.le_of_ble_eq_true rfl, Nat.le_of_ble_eq_true rfl⟩ ⟨Nat.le_refl _, Nat.le_refl _⟩ hl rfl (Nat.le_of_ble_eq_true rfl) dX2_readLetterCodes_2 hP hD hS 25 4 rfl rfl rfl [25, 26] rfl rfl [(25, w4 aS K s_2)] rfl rfl rfl (List.forall_mem_cons.mpr ⟨Nat.le_of_ble_eq_true rfl, (fun _ h => absurd h List.not_mem_nil)⟩)
  · refine xc_V (As := [.int (2 : Int32)]) (ws' := w2 aL K L ++ w4 aS K s_2) C (mX4_readNumber l hlt D K aS _ _ _ _ hc9) xgi_X2_30 xd_X4_readNumber ⟨Nat.le_of_ble_eq_true rfl, Nat.le_of_ble_eq_true rfl⟩ ⟨Nat.zero_le _, Nat.zero_le _⟩ hl rfl (Nat.le_of_ble_eq_true rfl) dX2_readLetterCodes_2 hP hD hS 25 4 rfl rfl rfl [25, 26] rfl rfl [(25, w4 aS K s_2)] rfl rfl rfl (List.forall_mem_cons.mpr ⟨Nat.le_of_ble_eq_true rfl, (fun _ h => absurd h List.not_mem_nil)⟩) (fun H locs hP hD hS => ?_)
    refine W.eq (g2 := F0 m 5 ls [.int v_1]) rfl ?_
    refine lv_iconst (v := (1 : Int32)) hx hb dX2_readLetterCodes_5 (by decide) ?_
    refine lv_iadd hx hb dX2_readLetterCodes_6 ?_
    refine lv_istore_n (lv' := [(2, .int (v_1 + (1 : Int32))), (0, .ref (aL 0)), (1, .ref (aS 0))]) hx hb dX2_readLetterCodes_7 rfl hl (by decide) rfl (fun ls hl => ?_)
    refine lv_iload_n hx hb dX2_readLetterCodes_8 rfl (lv_at hl 0 rfl) ?_
    refine lv_iconst (v := (1 : Int32)) hx hb dX2_readLetterCodes_9 (by decide) ?_
    refine lv_icmp_le (tgt := 22) hx hb dX2_readLetterCodes_10 (by decide) (fun c9 => ?_) (fun c9 => ?_)
    · replace h := xi_t c9 h
      refine lv_aload_n hx hb dX2_readLetterCodes_22 rfl (lv_at hl 1 rfl) ?_
      refine va_get (D := D) (ci := 2) (v := .ref (aL 23)) (C := RX2) (T := TX2) (N := 9) hx hb hts xu_X2 hown hK hP 0 rfl rfl 3 (by decide) (hts _ xw_110) (fun _ h9 => h9) rfl dX2_readLetterCodes_23 ?_
      refine lv_iconst (v := (0 : Int32)) hx hb dX2_readLetterCodes_26 (by decide) ?_
      obtain ⟨v_3, s_4, hc9, h⟩ := xi_d h
      refine xc_Q (As := [.ref (aL 23), .int (0 : Int32)]) (ws' := w2 aL K (L.1, L.2.1, L.2.2.1, L.2.2.2.1, L.2.2.2.2.1, L.2.2.2.2.2.1, s_4, L.2.2.2.2.2.2.2.1, L.2.2.2.2.2.2.2.2.1, L.2.2.2.2.2.2.2.2.2.1, L.2.2.2.2.2.2.2.2.2.2.1, L.2.2.2.2.2.2.2.2.2.2.2) ++ w4 aS K s_2) C (mJ7_fill_53178 l D K (aL 23) 12 _ _ _ _ hc9) xgs_X2_63 xd_J7_fill_53178 ⟨Nat.le_of_ble_eq_true rfl, Nat.le_of_ble_eq_true rfl⟩ ⟨Nat.zero_le _, Nat.zero_le _⟩ hl rfl (Nat.le_of_ble_eq_true rfl) dX2_readLetterCodes_27 hP hD hS [23] rfl rfl [(23, [((aL 23), .inl (K 0, 12, .inl s_4))])] rfl rfl rfl (List.forall_mem_cons.mpr ⟨Nat.le_of_ble_eq_true rfl, (fun _ h => absurd h List.not_mem_nil)⟩) (fun H locs hP hD hS => ?_)
      refine W.eq (g2 := F0 m 30 ls []) rfl ?_
      exact kX2_readLetterCodes_30 C hlt _ _ _ _ h _ _ _ hP hD hS (lv_sub hl [1, 2, 0] rfl)
    · replace h := xi_f c9 h
      refine lv_aload_n hx hb dX2_readLetterCodes_13 rfl (lv_at hl 1 rfl) ?_
      refine lv_aload_n hx hb dX2_readLetterCodes_14 rfl (lv_at hl 2 rfl) ?_
      refine lv_iload_n hx hb dX2_readLetterCodes_15 rfl (lv_at hl 0 rfl) ?_
      rcases xi_c h with ⟨E9, s_6, hc9, rfl⟩ | ⟨v_5, s_6, hc9, h⟩
      · exact xc_Vt (As := [.ref (aS 0), .int (v_1 + (1 : Int32))]) (ws' := w2 aL K s_6.1 ++ w4 aS K s_6.2) C (mX2_readMap l hlt D K aL aS _ _ _ _ _ hc9) xgi_X2_60 xd_X2_readMap ⟨Nat.le_of_ble_eq_true rfl, Nat.le_of_ble_eq_true rfl⟩ ⟨Nat.le_refl _, Nat.le_refl _⟩ hl rfl (Nat.le_of_ble_eq_true rfl) dX2_readLetterCodes_16 hP hD hS 0 2 rfl rfl rfl [0, 1, 2, 3, 4, 5, 6, 7, 8, 9, 10, 11, 12, 13, 14, 15, 16, 17, 18, 19, 20, 21, 22, 23, 24, 25, 26] rfl rfl [(0, w2 aL K s_6.1), (25, w4 aS K s_6.2)] rfl rfl rfl (List.forall_mem_cons.mpr ⟨Nat.le_of_ble_eq_true rfl, (List.forall_mem_cons.mpr ⟨Nat.le_of_ble_eq_true rfl, (fun _ h => absurd h List.not_mem_nil)⟩)⟩)
      · refine xc_V (As := [.ref (aS 0), .int (v_1 + (1 : Int32))]) (ws' := w2 aL K s_6.1 ++ w4 aS K s_6.2) C (mX2_readMap l hlt D K aL aS _ _ _ _ _ hc9) xgi_X2_60 xd_X2_readMap ⟨Nat.le_of_ble_eq_true rfl, Nat.le_of_ble_eq_true rfl⟩ ⟨Nat.zero_le _, Nat.zero_le _⟩ hl rfl (Nat.le_of_ble_eq_true rfl) dX2_readLetterCodes_16 hP hD hS 0 2 rfl rfl rfl [0, 1, 2, 3, 4, 5, 6, 7, 8, 9, 10, 11, 12, 13, 14, 15, 16, 17, 18, 19, 20, 21, 22, 23, 24, 25, 26] rfl rfl [(0, w2 aL K s_6.1), (25, w4 aS K s_6.2)] rfl rfl rfl (List.forall_mem_cons.mpr ⟨Nat.le_of_ble_eq_true rfl, (List.forall_mem_cons.mpr ⟨Nat.le_of_ble_eq_true rfl, (fun _ h => absurd h List.not_mem_nil)⟩)⟩) (fun H locs hP hD hS => ?_)
        refine W.eq (g2 := F0 m 19 ls []) rfl ?_
        refine lv_goto (tgt := 30) hx hb dX2_readLetterCodes_19 (by decide) ?_
        exact kX2_readLetterCodes_30 C hlt _ _ _ _ h _ _ _ hP hD hS (lv_sub hl [1, 2, 0] rfl)
