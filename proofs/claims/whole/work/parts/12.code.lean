abbrev oX1_readSymbol (aG : Nat → Nat) (aS : Nat → Nat) (K : Nat → ClassId) (r : (String × (S1 × S4)) ⊕ (Int32 × (S1 × S4))) : xO := match r with
  | .inl q => .inl (q.1, w1 aG K q.2.1 ++ w4 aS K q.2.2)
  | .inr q => .inr ((some (.int q.1)), w1 aG K q.2.1 ++ w4 aS K q.2.2)
def fX1_readSymbol_27 : Nat → S1 → S4 → Int32 → Int32 → Int32 → Int32 → Option ((String × (S1 × S4)) ⊕ (Int32 × (S1 × S4)))
  | 0 => fun _ _ _ _ _ _ => none
  | fu + 1 => fun G S x2 x3 x4 x5 => (if (7 : Int32) < x5 then some (.inl ("java/lang/IllegalArgumentException", (G, S))) else xbnd (fX4_readNumber S (1 : Int32)) (fun E9 s_2 => .inl (E9, (G, s_2))) (fun v_1 s_2 => (if x5 < 0 ∨ 8 ≤ (x5).toNatClampNeg then none else (if (G.2.2 (x5).toNatClampNeg) ≤ ((((2 : Int32) * x2) + v_1) - ((2 : Int32) * x3)) then (if x5 < 0 ∨ 8 ≤ (x5).toNatClampNeg then none else (if x5 < 0 ∨ 8 ≤ (x5).toNatClampNeg then none else fX1_readSymbol_27 fu G s_2 (((2 : Int32) * x2) + v_1) (((2 : Int32) * x3) + (G.2.2 (x5).toNatClampNeg)) (x4 + (G.2.2 (x5).toNatClampNeg)) (x5 + (1 : Int32)))) else (if ((x4 + (((2 : Int32) * x2) + v_1)) - ((2 : Int32) * x3)) < 0 ∨ 32 ≤ (((x4 + (((2 : Int32) * x2) + v_1)) - ((2 : Int32) * x3))).toNatClampNeg then none else some (.inr ((G.2.1 (((x4 + (((2 : Int32) * x2) + v_1)) - ((2 : Int32) * x3))).toNatClampNeg), (G, s_2))))))))
def fX1_readSymbol (G : S1) (S : S4) : Option ((String × (S1 × S4)) ⊕ (Int32 × (S1 × S4))) := (if (0 : Int32) < 0 ∨ 8 ≤ ((0 : Int32)).toNatClampNeg then none else (if (G.2.2 ((0 : Int32)).toNatClampNeg) = (1 : Int32) then (if (0 : Int32) < 0 ∨ 32 ≤ ((0 : Int32)).toNatClampNeg then none else some (.inr ((G.2.1 ((0 : Int32)).toNatClampNeg), (G, S)))) else fX1_readSymbol_27 xF G S (0 : Int32) (0 : Int32) (0 : Int32) (1 : Int32)))
set_option maxHeartbeats 4000000 in
set_option maxRecDepth 100000 in
theorem kX1_readSymbol_27 {p : Program} {l : Launch} {e : Env} {s : State} {m : MethodId} {args : Array Value} {below : List Frame} {meth : Method} {c : Code} {D : va_G} {K : Nat → ClassId} {A : Nat → Prop} {aG : Nat → Nat} {aS : Nat → Nat} (C : xC p s m args meth c cX1_readSymbol 6 (some .int) yX1_readSymbol D K A []) (hlt : l.stackTraces = false) : ∀ fu : Nat, ∀ (G : S1) (S : S4) (x2 : Int32) (x3 : Int32) (x4 : Int32) (x5 : Int32) (r : (String × (S1 × S4)) ⊕ (Int32 × (S1 × S4))), fX1_readSymbol_27 fu G S x2 x3 x4 x5 = some r → ∀ (H : Heap) (locs : List Loc) (ls : Array Slot), va_P D vwCl (w1 aG K G ++ w4 aS K S) H → va_D A (w1 aG K G ++ w4 aS K S) → va_S A s.heap H locs → lv_has ls 6 [(0, .ref (aG 0)), (1, .ref (aS 0)), (2, .int x2), (3, .int x3), (4, .int x4), (5, .int x5)] → W p l e (xR 7 113 (oX1_readSymbol aG aS K r)) s m args below meth c H locs 0 0 (xQ below args s D K A (oX1_readSymbol aG aS K r)) (F0 m 27 ls []) := by
  obtain ⟨hx, hb, hr, hml, hown, hK, hts, hA, hG, hlk, hte, hnm⟩ := id C
  intro fu
  induction fu with
  | zero =>
    intro G S x2 x3 x4 x5 r h
    exact nomatch (show (none : Option ((String × (S1 × S4)) ⊕ (Int32 × (S1 × S4)))) = some r from h)
  | succ fu ih =>
    intro G S x2 x3 x4 x5 r h H locs ls hP hD hS hl
    replace h : (if (7 : Int32) < x5 then some (.inl ("java/lang/IllegalArgumentException", (G, S))) else xbnd (fX4_readNumber S (1 : Int32)) (fun E9 s_2 => .inl (E9, (G, s_2))) (fun v_1 s_2 => (if x5 < 0 ∨ 8 ≤ (x5).toNatClampNeg then none else (if (G.2.2 (x5).toNatClampNeg) ≤ ((((2 : Int32) * x2) + v_1) - ((2 : Int32) * x3)) then (if x5 < 0 ∨ 8 ≤ (x5).toNatClampNeg then none else (if x5 < 0 ∨ 8 ≤ (x5).toNatClampNeg then none else fX1_readSymbol_27 fu G s_2 (((2 : Int32) * x2) + v_1) (((2 : Int32) * x3) + (G.2.2 (x5).toNatClampNeg)) (x4 + (G.2.2 (x5).toNatClampNeg)) (x5 + (1 : Int32)))) else (if ((x4 + (((2 : Int32) * x2) + v_1)) - ((2 : Int32) * x3)) < 0 ∨ 32 ≤ (((x4 + (((2 : Int32) * x2) + v_1)) - ((2 : Int32) * x3))).toNatClampNeg then none else some (.inr ((G.2.1 (((x4 + (((2 : Int32) * x2) + v_1)) - ((2 : Int32) * x3))).toNatClampNeg), (G, s_2)))))))) = some r := h
    refine lv_iload hx hb dX1_readSymbol_27 (lv_at hl 5 rfl) ?_
    refine lv_bipush (v := (7 : Int32)) hx hb dX1_readSymbol_29 (by decide) ?_
    refine lv_icmp_gt (tgt := 101) hx hb dX1_readSymbol_31 (by decide) (fun c9 => ?_) (fun c9 => ?_)
    · replace h := xi_t c9 h
      obtain rfl := Option.some.inj h
      exact xe_throw C hlt (text := "there is no such word") xf_IllegalArgumentException xf_names xw_397 xw_44 (List.mem_of_getElem? (i := 12) rfl) xat_X1_46 xgd_X1_46 hl hP hD hS dX1_readSymbol_101 dX1_readSymbol_104 dX1_readSymbol_105 dX1_readSymbol_107 dX1_readSymbol_110 (Nat.le_of_ble_eq_true rfl) (Nat.le_of_ble_eq_true rfl)
    · replace h := xi_f c9 h
      refine lv_iconst (v := (2 : Int32)) hx hb dX1_readSymbol_34 (by decide) ?_
      refine lv_iload_n hx hb dX1_readSymbol_35 rfl (lv_at hl 2 rfl) ?_
      refine lv_imul hx hb dX1_readSymbol_36 ?_
      refine lv_aload_n hx hb dX1_readSymbol_37 rfl (lv_at hl 1 rfl) ?_
      refine lv_iconst (v := (1 : Int32)) hx hb dX1_readSymbol_38 (by decide) ?_
      rcases xi_c h with ⟨E9, s_2, hc9, rfl⟩ | ⟨v_1, s_2, hc9, h⟩
      · exact xc_Vt (As := [.int (1 : Int32)]) (ws' := w1 aG K G ++ w4 aS K s_2) C (mX4_readNumber l hlt D K aS _ _ _ _ hc9) xgi_X1_25 xd_X4_readNumber ⟨Nat.le_of_ble_eq_true rfl, Nat.le_of_ble_eq_true rfl⟩ ⟨Nat.le_refl _, Nat.le_refl _⟩ hl rfl (Nat.le_of_ble_eq_true rfl) dX1_readSymbol_39 hP hD hS 4 4 rfl rfl rfl [4, 5] rfl rfl [(4, w4 aS K s_2)] rfl rfl rfl (List.forall_mem_cons.mpr ⟨Nat.le_of_ble_eq_true rfl, (fun _ h => absurd h List.not_mem_nil)⟩)
      · refine xc_V (As := [.int (1 : Int32)]) (ws' := w1 aG K G ++ w4 aS K s_2) C (mX4_readNumber l hlt D K aS _ _ _ _ hc9) xgi_X1_25 xd_X4_readNumber ⟨Nat.le_of_ble_eq_true rfl, Nat.le_of_ble_eq_true rfl⟩ ⟨Nat.zero_le _, Nat.zero_le _⟩ hl rfl (Nat.le_of_ble_eq_true rfl) dX1_readSymbol_39 hP hD hS 4 4 rfl rfl rfl [4, 5] rfl rfl [(4, w4 aS K s_2)] rfl rfl rfl (List.forall_mem_cons.mpr ⟨Nat.le_of_ble_eq_true rfl, (fun _ h => absurd h List.not_mem_nil)⟩) (fun H locs hP hD hS => ?_)
        refine W.eq (g2 := F0 m 42 ls [.int v_1, .int ((2 : Int32) * x2)]) rfl ?_
        refine lv_iadd hx hb dX1_readSymbol_42 ?_
        refine lv_istore_n (lv' := [(2, .int (((2 : Int32) * x2) + v_1)), (0, .ref (aG 0)), (1, .ref (aS 0)), (3, .int x3), (4, .int x4), (5, .int x5)]) hx hb dX1_readSymbol_43 rfl hl (by decide) rfl (fun ls hl => ?_)
        refine lv_iconst (v := (2 : Int32)) hx hb dX1_readSymbol_44 (by decide) ?_
        refine lv_iload_n hx hb dX1_readSymbol_45 rfl (lv_at hl 3 rfl) ?_
        refine lv_imul hx hb dX1_readSymbol_46 ?_
        refine lv_istore_n (lv' := [(3, .int ((2 : Int32) * x3)), (2, .int (((2 : Int32) * x2) + v_1)), (0, .ref (aG 0)), (1, .ref (aS 0)), (4, .int x4), (5, .int x5)]) hx hb dX1_readSymbol_47 rfl hl (by decide) rfl (fun ls hl => ?_)
        refine lv_iload_n hx hb dX1_readSymbol_48 rfl (lv_at hl 1 rfl) ?_
        refine lv_iload_n hx hb dX1_readSymbol_49 rfl (lv_at hl 0 rfl) ?_
        refine lv_isub hx hb dX1_readSymbol_50 ?_
        refine lv_aload_n hx hb dX1_readSymbol_51 rfl (lv_at hl 2 rfl) ?_
        refine va_get (D := D) (ci := 1) (v := .ref (aG 3)) (C := RX1) (T := TX1) (N := 3) hx hb hts xu_X1 hown hK hP 0 rfl rfl 2 (by decide) (hts _ xw_97) (fun _ h9 => h9) rfl dX1_readSymbol_52 ?_
        refine lv_iload hx hb dX1_readSymbol_55 (lv_at hl 5 rfl) ?_
        obtain ⟨hi9, h⟩ := xi_g h
        refine va_iald hx hb hK hP 3 0 rfl rfl hi9 dX1_readSymbol_57 ?_
        refine lv_icmp_ge (tgt := 73) hx hb dX1_readSymbol_58 (by decide) (fun c9 => ?_) (fun c9 => ?_)
        · replace h := xi_t c9 h
          refine lv_iload_n hx hb dX1_readSymbol_73 rfl (lv_at hl 0 rfl) ?_
          refine lv_aload_n hx hb dX1_readSymbol_74 rfl (lv_at hl 2 rfl) ?_
          refine va_get (D := D) (ci := 1) (v := .ref (aG 3)) (C := RX1) (T := TX1) (N := 3) hx hb hts xu_X1 hown hK hP 0 rfl rfl 2 (by decide) (hts _ xw_97) (fun _ h9 => h9) rfl dX1_readSymbol_75 ?_
          refine lv_iload hx hb dX1_readSymbol_78 (lv_at hl 5 rfl) ?_
          obtain ⟨hi9, h⟩ := xi_g h
          refine va_iald hx hb hK hP 3 0 rfl rfl hi9 dX1_readSymbol_80 ?_
          refine lv_iadd hx hb dX1_readSymbol_81 ?_
          refine lv_istore_n (lv' := [(3, .int (((2 : Int32) * x3) + (G.2.2 (x5).toNatClampNeg))), (2, .int (((2 : Int32) * x2) + v_1)), (0, .ref (aG 0)), (1, .ref (aS 0)), (4, .int x4), (5, .int x5)]) hx hb dX1_readSymbol_82 rfl hl (by decide) rfl (fun ls hl => ?_)
          refine lv_iload hx hb dX1_readSymbol_83 (lv_at hl 4 rfl) ?_
          refine lv_aload_n hx hb dX1_readSymbol_85 rfl (lv_at hl 2 rfl) ?_
          refine va_get (D := D) (ci := 1) (v := .ref (aG 3)) (C := RX1) (T := TX1) (N := 3) hx hb hts xu_X1 hown hK hP 0 rfl rfl 2 (by decide) (hts _ xw_97) (fun _ h9 => h9) rfl dX1_readSymbol_86 ?_
          refine lv_iload hx hb dX1_readSymbol_89 (lv_at hl 5 rfl) ?_
          obtain ⟨hi9, h⟩ := xi_g h
          refine va_iald hx hb hK hP 3 0 rfl rfl hi9 dX1_readSymbol_91 ?_
          refine lv_iadd hx hb dX1_readSymbol_92 ?_
          refine lv_istore (lv' := [(4, .int (x4 + (G.2.2 (x5).toNatClampNeg))), (3, .int (((2 : Int32) * x3) + (G.2.2 (x5).toNatClampNeg))), (2, .int (((2 : Int32) * x2) + v_1)), (0, .ref (aG 0)), (1, .ref (aS 0)), (5, .int x5)]) hx hb dX1_readSymbol_93 hl (by decide) rfl (fun ls hl => ?_)
          refine lv_iinc (v := (x5 + (1 : Int32))) (lv' := [(5, .int (x5 + (1 : Int32))), (4, .int (x4 + (G.2.2 (x5).toNatClampNeg))), (3, .int (((2 : Int32) * x3) + (G.2.2 (x5).toNatClampNeg))), (2, .int (((2 : Int32) * x2) + v_1)), (0, .ref (aG 0)), (1, .ref (aS 0))]) hx hb dX1_readSymbol_95 hl (k := 5) rfl (by rfl) (by decide) rfl (fun ls hl => ?_)
          refine lv_goto (tgt := 27) hx hb dX1_readSymbol_98 (by decide) ?_
          exact ih _ _ _ _ _ _ _ h _ _ _ hP hD hS (lv_sub hl [4, 5, 3, 2, 1, 0] rfl)
        · replace h := xi_f c9 h
          refine lv_aload_n hx hb dX1_readSymbol_61 rfl (lv_at hl 2 rfl) ?_
          refine va_get (D := D) (ci := 1) (v := .ref (aG 2)) (C := RX1) (T := TX1) (N := 3) hx hb hts xu_X1 hown hK hP 0 rfl rfl 1 (by decide) (hts _ xw_96) (fun _ h9 => h9) rfl dX1_readSymbol_62 ?_
          refine lv_iload hx hb dX1_readSymbol_65 (lv_at hl 4 rfl) ?_
          refine lv_iload_n hx hb dX1_readSymbol_67 rfl (lv_at hl 1 rfl) ?_
          refine lv_iadd hx hb dX1_readSymbol_68 ?_
          refine lv_iload_n hx hb dX1_readSymbol_69 rfl (lv_at hl 0 rfl) ?_
          refine lv_isub hx hb dX1_readSymbol_70 ?_
          obtain ⟨hi9, h⟩ := xi_g h
          refine va_iald hx hb hK hP 2 0 rfl rfl hi9 dX1_readSymbol_71 ?_
          obtain rfl := Option.some.inj h
          exact xe_i C hP hD hS dX1_readSymbol_72
set_option maxHeartbeats 4000000 in
set_option maxRecDepth 100000 in
theorem mX1_readSymbol (l : Launch) (hlt : l.stackTraces = false) (D : va_G) (K : Nat → ClassId) (aG : Nat → Nat) (aS : Nat → Nat) (sz : Nat) (G : S1) (S : S4) (r : (String × (S1 × S4)) ⊕ (Int32 × (S1 × S4))) (h : fX1_readSymbol G S = some r) : xMet l yX1_readSymbol cX1_readSymbol 6 (some .int) 7 113 D K [.ref (aG 0), .ref (aS 0)] sz (w1 aG K G ++ w4 aS K S) (oX1_readSymbol aG aS K r) := by
  refine xm_of _ (by decide +kernel) (Nat.le_of_ble_eq_true rfl) (fun p e s m args below meth c A C hP hD ls hl => ?_)
  have hl : lv_has ls 6 [(0, .ref (aG 0)), (1, .ref (aS 0))] := hl
  have hS : va_S A s.heap s.heap [] := va_S.rf
  obtain ⟨hx, hb, hr, hml, hown, hK, hts, hA, hG, hlk, hte, hnm⟩ := id C
  replace h : (if (0 : Int32) < 0 ∨ 8 ≤ ((0 : Int32)).toNatClampNeg then none else (if (G.2.2 ((0 : Int32)).toNatClampNeg) = (1 : Int32) then (if (0 : Int32) < 0 ∨ 32 ≤ ((0 : Int32)).toNatClampNeg then none else some (.inr ((G.2.1 ((0 : Int32)).toNatClampNeg), (G, S)))) else fX1_readSymbol_27 xF G S (0 : Int32) (0 : Int32) (0 : Int32) (1 : Int32))) = some r := h
  refine lv_aload_n hx hb dX1_readSymbol_0 rfl (lv_at hl 0 rfl) ?_
  refine va_get (D := D) (ci := 1) (v := .ref (aG 3)) (C := RX1) (T := TX1) (N := 3) hx hb hts xu_X1 hown hK hP 0 rfl rfl 2 (by decide) (hts _ xw_97) (fun _ h9 => h9) rfl dX1_readSymbol_1 ?_
  refine lv_iconst (v := (0 : Int32)) hx hb dX1_readSymbol_4 (by decide) ?_
  obtain ⟨hi9, h⟩ := xi_g h
  refine va_iald hx hb hK hP 3 0 rfl rfl hi9 dX1_readSymbol_5 ?_
  refine lv_iconst (v := (1 : Int32)) hx hb dX1_readSymbol_6 (by decide) ?_
  refine lv_icmp_ne (tgt := 17) hx hb dX1_readSymbol_7 (by decide) (fun c9 => ?_) (fun c9 => ?_)
  · replace h := xi_f c9 h
    refine lv_iconst (v := (0 : Int32)) hx hb dX1_readSymbol_17 (by decide) ?_
    refine lv_istore_n (lv' := [(2, .int (0 : Int32)), (0, .ref (aG 0)), (1, .ref (aS 0))]) hx hb dX1_readSymbol_18 rfl hl (by decide) rfl (fun ls hl => ?_)
    refine lv_iconst (v := (0 : Int32)) hx hb dX1_readSymbol_19 (by decide) ?_
    refine lv_istore_n (lv' := [(3, .int (0 : Int32)), (2, .int (0 : Int32)), (0, .ref (aG 0)), (1, .ref (aS 0))]) hx hb dX1_readSymbol_20 rfl hl (by decide) rfl (fun ls hl => ?_)
    refine lv_iconst (v := (0 : Int32)) hx hb dX1_readSymbol_21 (by decide) ?_
    refine lv_istore (lv' := [(4, .int (0 : Int32)), (3, .int (0 : Int32)), (2, .int (0 : Int32)), (0, .ref (aG 0)), (1, .ref (aS 0))]) hx hb dX1_readSymbol_22 hl (by decide) rfl (fun ls hl => ?_)
    refine lv_iconst (v := (1 : Int32)) hx hb dX1_readSymbol_24 (by decide) ?_
    refine lv_istore (lv' := [(5, .int (1 : Int32)), (4, .int (0 : Int32)), (3, .int (0 : Int32)), (2, .int (0 : Int32)), (0, .ref (aG 0)), (1, .ref (aS 0))]) hx hb dX1_readSymbol_25 hl (by decide) rfl (fun ls hl => ?_)
    exact kX1_readSymbol_27 C hlt _ _ _ _ _ _ _ _ h _ _ _ hP hD hS (lv_sub hl [4, 5, 3, 2, 1, 0] rfl)
  · replace h := xi_t c9 h
    refine lv_aload_n hx hb dX1_readSymbol_10 rfl (lv_at hl 0 rfl) ?_
    refine va_get (D := D) (ci := 1) (v := .ref (aG 2)) (C := RX1) (T := TX1) (N := 3) hx hb hts xu_X1 hown hK hP 0 rfl rfl 1 (by decide) (hts _ xw_96) (fun _ h9 => h9) rfl dX1_readSymbol_11 ?_
    refine lv_iconst (v := (0 : Int32)) hx hb dX1_readSymbol_14 (by decide) ?_
    obtain ⟨hi9, h⟩ := xi_g h
    refine va_iald hx hb hK hP 2 0 rfl rfl hi9 dX1_readSymbol_15 ?_
    obtain rfl := Option.some.inj h
    exact xe_i C hP hD hS dX1_readSymbol_16
abbrev oX1_symbolBits (K : Nat → ClassId) (q : Int32 × (Unit)) : xO := .inr ((some (.int q.1)), ([] : va_W))
def fX1_symbolBits_2 : Nat → Int32 → Int32 → Option (Int32 × (Unit))
  | 0 => fun _ _ => none
  | fu + 1 => fun x0 x1 => (if (5 : Int32) ≤ x1 then some (x1, ()) else (if x0 ≤ ((1 : Int32) <<< (x1 &&& 31)) then some (x1, ()) else fX1_symbolBits_2 fu x0 (x1 + (1 : Int32))))
def fX1_symbolBits (p0 : Int32) : Option (Int32 × (Unit)) := fX1_symbolBits_2 xF p0 (0 : Int32)
set_option maxHeartbeats 4000000 in
set_option maxRecDepth 100000 in
theorem kX1_symbolBits_2 {p : Program} {l : Launch} {e : Env} {s : State} {m : MethodId} {args : Array Value} {below : List Frame} {meth : Method} {c : Code} {D : va_G} {K : Nat → ClassId} {A : Nat → Prop} (C : xC p s m args meth c cX1_symbolBits 2 (some .int) yX1_symbolBits D K A []) : ∀ fu : Nat, ∀ (x0 : Int32) (x1 : Int32) (r : Int32 × (Unit)), fX1_symbolBits_2 fu x0 x1 = some r → ∀ (H : Heap) (locs : List Loc) (ls : Array Slot), va_P D vwCl (([] : va_W)) H → va_D A (([] : va_W)) → va_S A s.heap H locs → lv_has ls 2 [(0, .int x0), (1, .int x1)] → W p l e (xR 0 0 (oX1_symbolBits K r)) s m args below meth c H locs 0 0 (xQ below args s D K A (oX1_symbolBits K r)) (F0 m 2 ls []) := by
  obtain ⟨hx, hb, hr, hml, hown, hK, hts, hA, hG, hlk, hte, hnm⟩ := id C
  intro fu
  induction fu with
  | zero =>
    intro x0 x1 r h
    exact nomatch (show (none : Option (Int32 × (Unit))) = some r from h)
  | succ fu ih =>
    intro x0 x1 r h H locs ls hP hD hS hl
    replace h : (if (5 : Int32) ≤ x1 then some (x1, ()) else (if x0 ≤ ((1 : Int32) <<< (x1 &&& 31)) then some (x1, ()) else fX1_symbolBits_2 fu x0 (x1 + (1 : Int32)))) = some r := h
    refine lv_iload_n hx hb dX1_symbolBits_2 rfl (lv_at hl 1 rfl) ?_
    refine lv_iconst (v := (5 : Int32)) hx hb dX1_symbolBits_3 (by decide) ?_
    refine lv_icmp_ge (tgt := 20) hx hb dX1_symbolBits_4 (by decide) (fun c9 => ?_) (fun c9 => ?_)
    · replace h := xi_t c9 h
      refine lv_iload_n hx hb dX1_symbolBits_20 rfl (lv_at hl 1 rfl) ?_
      obtain rfl := Option.some.inj h
      exact xe_i C hP hD hS dX1_symbolBits_21
    · replace h := xi_f c9 h
      refine lv_iconst (v := (1 : Int32)) hx hb dX1_symbolBits_7 (by decide) ?_
      refine lv_iload_n hx hb dX1_symbolBits_8 rfl (lv_at hl 1 rfl) ?_
      refine lv_ishl hx hb dX1_symbolBits_9 ?_
      refine lv_iload_n hx hb dX1_symbolBits_10 rfl (lv_at hl 0 rfl) ?_
      refine lv_icmp_ge (tgt := 20) hx hb dX1_symbolBits_11 (by decide) (fun c9 => ?_) (fun c9 => ?_)
      · replace h := xi_t c9 h
        refine lv_iload_n hx hb dX1_symbolBits_20 rfl (lv_at hl 1 rfl) ?_
        obtain rfl := Option.some.inj h
        exact xe_i C hP hD hS dX1_symbolBits_21
      · replace h := xi_f c9 h
        refine lv_iinc (v := (x1 + (1 : Int32))) (lv' := [(1, .int (x1 + (1 : Int32))), (0, .int x0)]) hx hb dX1_symbolBits_14 hl (k := 1) rfl (by rfl) (by decide) rfl (fun ls hl => ?_)
        refine lv_goto (tgt := 2) hx hb dX1_symbolBits_17 (by decide) ?_
        exact ih _ _ _ h _ _ _ hP hD hS (lv_sub hl [1, 0] rfl)
set_option maxHeartbeats 4000000 in
set_option maxRecDepth 100000 in
theorem mX1_symbolBits (l : Launch) (D : va_G) (K : Nat → ClassId) (sz : Nat) (p0 : Int32) (r : Int32 × (Unit)) (h : fX1_symbolBits p0 = some r) : xMet l yX1_symbolBits cX1_symbolBits 2 (some .int) 0 0 D K [.int p0] sz (([] : va_W)) (oX1_symbolBits K r) := by
  refine xm_of _ (by decide +kernel) (Nat.le_of_ble_eq_true rfl) (fun p e s m args below meth c A C hP hD ls hl => ?_)
  have hl : lv_has ls 2 [(0, .int p0)] := hl
  have hS : va_S A s.heap s.heap [] := va_S.rf
  obtain ⟨hx, hb, hr, hml, hown, hK, hts, hA, hG, hlk, hte, hnm⟩ := id C
  replace h : fX1_symbolBits_2 xF p0 (0 : Int32) = some r := h
  refine lv_iconst (v := (0 : Int32)) hx hb dX1_symbolBits_0 (by decide) ?_
  refine lv_istore_n (lv' := [(1, .int (0 : Int32)), (0, .int p0)]) hx hb dX1_symbolBits_1 rfl hl (by decide) rfl (fun ls hl => ?_)
  exact kX1_symbolBits_2 C _ _ _ _ h _ _ _ hP hD hS (lv_sub hl [1, 0] rfl)
abbrev oX1_readSimple (aG : Nat → Nat) (aS : Nat → Nat) (K : Nat → ClassId) (r : (String × (S1 × S4)) ⊕ (Unit × (S1 × S4))) : xO := match r with
  | .inl q => .inl (q.1, w1 aG K q.2.1 ++ w4 aS K q.2.2)
  | .inr q => .inr (none, w1 aG K q.2.1 ++ w4 aS K q.2.2)
def fX1_readSimple_115 : Nat → S1 → S4 → Int32 → Int32 → Int32 → Option ((String × (S1 × S4)) ⊕ (Unit × (S1 × S4)))
  | 0 => fun _ _ _ _ _ => none
  | fu + 1 => fun G S x3 x6 x7 => (if x3 ≤ x7 then some (.inr ((), (G, S))) else (if x7 < 0 ∨ 32 ≤ (x7).toNatClampNeg then none else (if (x6 + x7) < 0 ∨ 14 ≤ ((x6 + x7)).toNatClampNeg then none else (if (G.2.1 (x7).toNatClampNeg) < 0 ∨ 32 ≤ ((G.2.1 (x7).toNatClampNeg)).toNatClampNeg then none else fX1_readSimple_115 fu ((upd G.1 ((G.2.1 (x7).toNatClampNeg)).toNatClampNeg (xs_simple ((x6 + x7)).toNatClampNeg)), G.2.1, G.2.2) S x3 x6 (x7 + (1 : Int32))))))
def fX1_readSimple_101 (G : S1) (S : S4) (x3 : Int32) (x5 : Int32) : Option ((String × (S1 × S4)) ⊕ (Unit × (S1 × S4))) := fX1_readSimple_115 xF G S x3 ((x5 * (x5 - (1 : Int32))) / (2 : Int32)) (0 : Int32)
def fX1_readSimple_48 (rec17 : S1 → S4 → Int32 → Int32 → Int32 → Int32 → Option ((String × (S1 × S4)) ⊕ (Unit × (S1 × S4)))) (G : S1) (S : S4) : Option ((String × (S1 × S4)) ⊕ (Unit × (S1 × S4))) := some (.inl ("java/lang/IllegalArgumentException", (G, S)))
def fX1_readSimple_17 : Nat → S1 → S4 → Int32 → Int32 → Int32 → Int32 → Option ((String × (S1 × S4)) ⊕ (Unit × (S1 × S4)))
  | 0 => fun _ _ _ _ _ _ => none
  | fu + 1 => fun G S x2 x3 x4 x5 => (if x3 ≤ x5 then (if x3 = (4 : Int32) then xbnd (fX4_readNumber S (1 : Int32)) (fun E9 s_6 => .inl (E9, (G, s_6))) (fun v_5 s_6 => (if v_5 = (1 : Int32) then fX1_readSimple_101 G s_6 x3 (5 : Int32) else fX1_readSimple_101 G s_6 x3 x3)) else fX1_readSimple_101 G S x3 x3) else xbnd (fX4_readNumber S x4) (fun E9 s_8 => .inl (E9, (G, s_8))) (fun v_7 s_8 => (if x2 ≤ v_7 then fX1_readSimple_48 (fX1_readSimple_17 fu) G s_8 else (if v_7 < 0 ∨ 32 ≤ (v_7).toNatClampNeg then none else (if (G.1 (v_7).toNatClampNeg) = (-1 : Int32) then (if v_7 < 0 ∨ 32 ≤ (v_7).toNatClampNeg then none else (if x5 < 0 ∨ 32 ≤ (x5).toNatClampNeg then none else fX1_readSimple_17 fu ((upd G.1 (v_7).toNatClampNeg (0 : Int32)), (upd G.2.1 (x5).toNatClampNeg v_7), G.2.2) s_8 x2 x3 x4 (x5 + (1 : Int32)))) else fX1_readSimple_48 (fX1_readSimple_17 fu) G s_8)))))
def fX1_readSimple (G : S1) (S : S4) (p2 : Int32) : Option ((String × (S1 × S4)) ⊕ (Unit × (S1 × S4))) := xbnd (fX4_readNumber S (2 : Int32)) (fun E9 s_2 => .inl (E9, (G, s_2))) (fun v_1 s_2 => xbnd0 (fX1_symbolBits p2) (fun v_3 s_4 => fX1_readSimple_17 xF G s_2 p2 (v_1 + (1 : Int32)) v_3 (0 : Int32)))
set_option maxHeartbeats 4000000 in
set_option maxRecDepth 100000 in
theorem kX1_readSimple_115 {p : Program} {l : Launch} {e : Env} {s : State} {m : MethodId} {args : Array Value} {below : List Frame} {meth : Method} {c : Code} {D : va_G} {K : Nat → ClassId} {A : Nat → Prop} {aG : Nat → Nat} {aS : Nat → Nat} (C : xC p s m args meth c cX1_readSimple 8 none yX1_readSimple D K A []) (hlt : l.stackTraces = false) : ∀ fu : Nat, ∀ (G : S1) (S : S4) (x3 : Int32) (x6 : Int32) (x7 : Int32) (r : (String × (S1 × S4)) ⊕ (Unit × (S1 × S4))), fX1_readSimple_115 fu G S x3 x6 x7 = some r → ∀ (H : Heap) (locs : List Loc) (ls : Array Slot), va_P D vwCl (w1 aG K G ++ w4 aS K S) H → va_D A (w1 aG K G ++ w4 aS K S) → va_S A s.heap H locs → lv_has ls 8 [(0, .ref (aG 0)), (3, .int x3), (6, .int x6), (7, .int x7)] → W p l e (xR 7 113 (oX1_readSimple aG aS K r)) s m args below meth c H locs 0 0 (xQ below args s D K A (oX1_readSimple aG aS K r)) (F0 m 115 ls []) := by
  obtain ⟨hx, hb, hr, hml, hown, hK, hts, hA, hG, hlk, hte, hnm⟩ := id C
  intro fu
  induction fu with
  | zero =>
    intro G S x3 x6 x7 r h
    exact nomatch (show (none : Option ((String × (S1 × S4)) ⊕ (Unit × (S1 × S4)))) = some r from h)
  | succ fu ih =>
    intro G S x3 x6 x7 r h H locs ls hP hD hS hl
    replace h : (if x3 ≤ x7 then some (.inr ((), (G, S))) else (if x7 < 0 ∨ 32 ≤ (x7).toNatClampNeg then none else (if (x6 + x7) < 0 ∨ 14 ≤ ((x6 + x7)).toNatClampNeg then none else (if (G.2.1 (x7).toNatClampNeg) < 0 ∨ 32 ≤ ((G.2.1 (x7).toNatClampNeg)).toNatClampNeg then none else fX1_readSimple_115 fu ((upd G.1 ((G.2.1 (x7).toNatClampNeg)).toNatClampNeg (xs_simple ((x6 + x7)).toNatClampNeg)), G.2.1, G.2.2) S x3 x6 (x7 + (1 : Int32)))))) = some r := h
    refine lv_iload hx hb dX1_readSimple_115 (lv_at hl 3 rfl) ?_
    refine lv_iload_n hx hb dX1_readSimple_117 rfl (lv_at hl 1 rfl) ?_
    refine lv_icmp_ge (tgt := 148) hx hb dX1_readSimple_118 (by decide) (fun c9 => ?_) (fun c9 => ?_)
    · replace h := xi_t c9 h
      obtain rfl := Option.some.inj h
      exact xe_v C hP hD hS dX1_readSimple_148
    · replace h := xi_f c9 h
      refine lv_aload_n hx hb dX1_readSimple_121 rfl (lv_at hl 0 rfl) ?_
      refine va_get (D := D) (ci := 1) (v := .ref (aG 1)) (C := RX1) (T := TX1) (N := 3) hx hb hts xu_X1 hown hK hP 0 rfl rfl 0 (by decide) (hts _ xw_95) (fun _ h9 => h9) rfl dX1_readSimple_122 ?_
      refine lv_aload_n hx hb dX1_readSimple_125 rfl (lv_at hl 0 rfl) ?_
      refine va_get (D := D) (ci := 1) (v := .ref (aG 2)) (C := RX1) (T := TX1) (N := 3) hx hb hts xu_X1 hown hK hP 0 rfl rfl 1 (by decide) (hts _ xw_96) (fun _ h9 => h9) rfl dX1_readSimple_126 ?_
      refine lv_iload hx hb dX1_readSimple_129 (lv_at hl 3 rfl) ?_
      obtain ⟨hi9, h⟩ := xi_g h
      refine va_iald hx hb hK hP 2 0 rfl rfl hi9 dX1_readSimple_131 ?_
      obtain ⟨r_SIMPLE_LENGTHS, hZSIMPLE_LENGTHS, hXSIMPLE_LENGTHS, hLSIMPLE_LENGTHS, hNSIMPLE_LENGTHS⟩ := hG.2.1.2.1
      refine va_gets hx hb hZSIMPLE_LENGTHS hS hown (hts _ xw_400) (fun _ h9 => h9) dX1_readSimple_132 ?_
      refine lv_iload hx hb dX1_readSimple_135 (lv_at hl 2 rfl) ?_
      refine lv_iload hx hb dX1_readSimple_137 (lv_at hl 3 rfl) ?_
      refine lv_iadd hx hb dX1_readSimple_139 ?_
      obtain ⟨hi9, h⟩ := xi_g h
      refine va_sld hx hb hXSIMPLE_LENGTHS hLSIMPLE_LENGTHS hNSIMPLE_LENGTHS hS hi9 dX1_readSimple_140 ?_
      obtain ⟨hi9, h⟩ := xi_g h
      refine va_iast hx hb hK hP hD hS 1 0 rfl rfl hi9 dX1_readSimple_141 (fun H locs hP hD hS => ?_)
      have hP : va_P D vwCl (w1 aG K ((upd G.1 ((G.2.1 (x7).toNatClampNeg)).toNatClampNeg (xs_simple ((x6 + x7)).toNatClampNeg)), G.2.1, G.2.2) ++ w4 aS K S) H := hP
      have hD : va_D A (w1 aG K ((upd G.1 ((G.2.1 (x7).toNatClampNeg)).toNatClampNeg (xs_simple ((x6 + x7)).toNatClampNeg)), G.2.1, G.2.2) ++ w4 aS K S) := hD
      refine lv_iinc (v := (x7 + (1 : Int32))) (lv' := [(7, .int (x7 + (1 : Int32))), (0, .ref (aG 0)), (3, .int x3), (6, .int x6)]) hx hb dX1_readSimple_142 hl (k := 3) rfl (by rfl) (by decide) rfl (fun ls hl => ?_)
      refine lv_goto (tgt := 115) hx hb dX1_readSimple_145 (by decide) ?_
      exact ih _ _ _ _ _ _ h _ _ _ hP hD hS (lv_sub hl [1, 2, 3, 0] rfl)
set_option maxHeartbeats 4000000 in
set_option maxRecDepth 100000 in
theorem kX1_readSimple_101 {p : Program} {l : Launch} {e : Env} {s : State} {m : MethodId} {args : Array Value} {below : List Frame} {meth : Method} {c : Code} {D : va_G} {K : Nat → ClassId} {A : Nat → Prop} {aG : Nat → Nat} {aS : Nat → Nat} (C : xC p s m args meth c cX1_readSimple 8 none yX1_readSimple D K A []) (hlt : l.stackTraces = false) : ∀ (G : S1) (S : S4) (x3 : Int32) (x5 : Int32) (r : (String × (S1 × S4)) ⊕ (Unit × (S1 × S4))), fX1_readSimple_101  G S x3 x5 = some r → ∀ (H : Heap) (locs : List Loc) (ls : Array Slot), va_P D vwCl (w1 aG K G ++ w4 aS K S) H → va_D A (w1 aG K G ++ w4 aS K S) → va_S A s.heap H locs → lv_has ls 8 [(0, .ref (aG 0)), (3, .int x3), (5, .int x5)] → W p l e (xR 7 113 (oX1_readSimple aG aS K r)) s m args below meth c H locs 0 0 (xQ below args s D K A (oX1_readSimple aG aS K r)) (F0 m 101 ls []) := by
  obtain ⟨hx, hb, hr, hml, hown, hK, hts, hA, hG, hlk, hte, hnm⟩ := id C
  intro G S x3 x5 r h H locs ls hP hD hS hl
  replace h : fX1_readSimple_115 xF G S x3 ((x5 * (x5 - (1 : Int32))) / (2 : Int32)) (0 : Int32) = some r := h
  refine lv_iload hx hb dX1_readSimple_101 (lv_at hl 2 rfl) ?_
  refine lv_iload hx hb dX1_readSimple_103 (lv_at hl 2 rfl) ?_
  refine lv_iconst (v := (1 : Int32)) hx hb dX1_readSimple_105 (by decide) ?_
  refine lv_isub hx hb dX1_readSimple_106 ?_
  refine lv_imul hx hb dX1_readSimple_107 ?_
  refine lv_iconst (v := (2 : Int32)) hx hb dX1_readSimple_108 (by decide) ?_
  refine lv_idiv hx hb dX1_readSimple_109 (by decide) ?_
  refine lv_istore (lv' := [(6, .int ((x5 * (x5 - (1 : Int32))) / (2 : Int32))), (0, .ref (aG 0)), (3, .int x3), (5, .int x5)]) hx hb dX1_readSimple_110 hl (by decide) rfl (fun ls hl => ?_)
  refine lv_iconst (v := (0 : Int32)) hx hb dX1_readSimple_112 (by decide) ?_
  refine lv_istore (lv' := [(7, .int (0 : Int32)), (6, .int ((x5 * (x5 - (1 : Int32))) / (2 : Int32))), (0, .ref (aG 0)), (3, .int x3), (5, .int x5)]) hx hb dX1_readSimple_113 hl (by decide) rfl (fun ls hl => ?_)
  exact kX1_readSimple_115 C hlt _ _ _ _ _ _ _ h _ _ _ hP hD hS (lv_sub hl [2, 3, 1, 0] rfl)
set_option maxHeartbeats 4000000 in
set_option maxRecDepth 100000 in
theorem kX1_readSimple_48 {p : Program} {l : Launch} {e : Env} {s : State} {m : MethodId} {args : Array Value} {below : List Frame} {meth : Method} {c : Code} {D : va_G} {K : Nat → ClassId} {A : Nat → Prop} {aG : Nat → Nat} {aS : Nat → Nat} (C : xC p s m args meth c cX1_readSimple 8 none yX1_readSimple D K A []) (hlt : l.stackTraces = false) (rec17 : S1 → S4 → Int32 → Int32 → Int32 → Int32 → Option ((String × (S1 × S4)) ⊕ (Unit × (S1 × S4)))) (hrec17 : ∀ (G : S1) (S : S4) (x2 : Int32) (x3 : Int32) (x4 : Int32) (x5 : Int32) (r : (String × (S1 × S4)) ⊕ (Unit × (S1 × S4))), rec17 G S x2 x3 x4 x5 = some r → ∀ (H : Heap) (locs : List Loc) (ls : Array Slot), va_P D vwCl (w1 aG K G ++ w4 aS K S) H → va_D A (w1 aG K G ++ w4 aS K S) → va_S A s.heap H locs → lv_has ls 8 [(0, .ref (aG 0)), (1, .ref (aS 0)), (2, .int x2), (3, .int x3), (4, .int x4), (5, .int x5)] → W p l e (xR 7 113 (oX1_readSimple aG aS K r)) s m args below meth c H locs 0 0 (xQ below args s D K A (oX1_readSimple aG aS K r)) (F0 m 17 ls [])) : ∀ (G : S1) (S : S4) (r : (String × (S1 × S4)) ⊕ (Unit × (S1 × S4))), fX1_readSimple_48  rec17 G S = some r → ∀ (H : Heap) (locs : List Loc) (ls : Array Slot), va_P D vwCl (w1 aG K G ++ w4 aS K S) H → va_D A (w1 aG K G ++ w4 aS K S) → va_S A s.heap H locs → lv_has ls 8 [] → W p l e (xR 7 113 (oX1_readSimple aG aS K r)) s m args below meth c H locs 0 0 (xQ below args s D K A (oX1_readSimple aG aS K r)) (F0 m 48 ls []) := by
  obtain ⟨hx, hb, hr, hml, hown, hK, hts, hA, hG, hlk, hte, hnm⟩ := id C
  intro G S r h H locs ls hP hD hS hl
  replace h : some (.inl ("java/lang/IllegalArgumentException", (G, S))) = some r := h
  obtain rfl := Option.some.inj h
  exact xe_throw C hlt (text := "a symbol of a simple code is wrong") xf_IllegalArgumentException xf_names xw_397 xw_44 (List.mem_of_getElem? (i := 8) rfl) xat_X1_46 xgd_X1_46 hl hP hD hS dX1_readSimple_48 dX1_readSimple_51 dX1_readSimple_52 dX1_readSimple_54 dX1_readSimple_57 (Nat.le_of_ble_eq_true rfl) (Nat.le_of_ble_eq_true rfl)
set_option maxHeartbeats 4000000 in
set_option maxRecDepth 100000 in
theorem kX1_readSimple_17 {p : Program} {l : Launch} {e : Env} {s : State} {m : MethodId} {args : Array Value} {below : List Frame} {meth : Method} {c : Code} {D : va_G} {K : Nat → ClassId} {A : Nat → Prop} {aG : Nat → Nat} {aS : Nat → Nat} (C : xC p s m args meth c cX1_readSimple 8 none yX1_readSimple D K A []) (hlt : l.stackTraces = false) : ∀ fu : Nat, ∀ (G : S1) (S : S4) (x2 : Int32) (x3 : Int32) (x4 : Int32) (x5 : Int32) (r : (String × (S1 × S4)) ⊕ (Unit × (S1 × S4))), fX1_readSimple_17 fu G S x2 x3 x4 x5 = some r → ∀ (H : Heap) (locs : List Loc) (ls : Array Slot), va_P D vwCl (w1 aG K G ++ w4 aS K S) H → va_D A (w1 aG K G ++ w4 aS K S) → va_S A s.heap H locs → lv_has ls 8 [(0, .ref (aG 0)), (1, .ref (aS 0)), (2, .int x2), (3, .int x3), (4, .int x4), (5, .int x5)] → W p l e (xR 7 113 (oX1_readSimple aG aS K r)) s m args below meth c H locs 0 0 (xQ below args s D K A (oX1_readSimple aG aS K r)) (F0 m 17 ls []) := by
  obtain ⟨hx, hb, hr, hml, hown, hK, hts, hA, hG, hlk, hte, hnm⟩ := id C
  intro fu
  induction fu with
  | zero =>
    intro G S x2 x3 x4 x5 r h
    exact nomatch (show (none : Option ((String × (S1 × S4)) ⊕ (Unit × (S1 × S4)))) = some r from h)
  | succ fu ih =>
    intro G S x2 x3 x4 x5 r h H locs ls hP hD hS hl
    replace h : (if x3 ≤ x5 then (if x3 = (4 : Int32) then xbnd (fX4_readNumber S (1 : Int32)) (fun E9 s_6 => .inl (E9, (G, s_6))) (fun v_5 s_6 => (if v_5 = (1 : Int32) then fX1_readSimple_101 G s_6 x3 (5 : Int32) else fX1_readSimple_101 G s_6 x3 x3)) else fX1_readSimple_101 G S x3 x3) else xbnd (fX4_readNumber S x4) (fun E9 s_8 => .inl (E9, (G, s_8))) (fun v_7 s_8 => (if x2 ≤ v_7 then fX1_readSimple_48 (fX1_readSimple_17 fu) G s_8 else (if v_7 < 0 ∨ 32 ≤ (v_7).toNatClampNeg then none else (if (G.1 (v_7).toNatClampNeg) = (-1 : Int32) then (if v_7 < 0 ∨ 32 ≤ (v_7).toNatClampNeg then none else (if x5 < 0 ∨ 32 ≤ (x5).toNatClampNeg then none else fX1_readSimple_17 fu ((upd G.1 (v_7).toNatClampNeg (0 : Int32)), (upd G.2.1 (x5).toNatClampNeg v_7), G.2.2) s_8 x2 x3 x4 (x5 + (1 : Int32)))) else fX1_readSimple_48 (fX1_readSimple_17 fu) G s_8))))) = some r := h
    refine lv_iload hx hb dX1_readSimple_17 (lv_at hl 5 rfl) ?_
    refine lv_iload_n hx hb dX1_readSimple_19 rfl (lv_at hl 3 rfl) ?_
    refine lv_icmp_ge (tgt := 81) hx hb dX1_readSimple_20 (by decide) (fun c9 => ?_) (fun c9 => ?_)
    · replace h := xi_t c9 h
      refine lv_iload_n hx hb dX1_readSimple_81 rfl (lv_at hl 3 rfl) ?_
      refine lv_istore (lv' := [(5, .int x3), (0, .ref (aG 0)), (1, .ref (aS 0)), (2, .int x2), (3, .int x3), (4, .int x4)]) hx hb dX1_readSimple_82 hl (by decide) rfl (fun ls hl => ?_)
      refine lv_iload_n hx hb dX1_readSimple_84 rfl (lv_at hl 4 rfl) ?_
      refine lv_iconst (v := (4 : Int32)) hx hb dX1_readSimple_85 (by decide) ?_
      refine lv_icmp_ne (tgt := 101) hx hb dX1_readSimple_86 (by decide) (fun c9 => ?_) (fun c9 => ?_)
      · replace h := xi_f c9 h
        exact kX1_readSimple_101 C hlt _ _ _ _ _ h _ _ _ hP hD hS (lv_sub hl [1, 4, 0] rfl)
      · replace h := xi_t c9 h
        refine lv_aload_n hx hb dX1_readSimple_89 rfl (lv_at hl 2 rfl) ?_
        refine lv_iconst (v := (1 : Int32)) hx hb dX1_readSimple_90 (by decide) ?_
        rcases xi_c h with ⟨E9, s_6, hc9, rfl⟩ | ⟨v_5, s_6, hc9, h⟩
        · exact xc_Vt (As := [.int (1 : Int32)]) (ws' := w1 aG K G ++ w4 aS K s_6) C (mX4_readNumber l hlt D K aS _ _ _ _ hc9) xgi_X1_25 xd_X4_readNumber ⟨Nat.le_of_ble_eq_true rfl, Nat.le_of_ble_eq_true rfl⟩ ⟨Nat.le_refl _, Nat.le_refl _⟩ hl rfl (Nat.le_of_ble_eq_true rfl) dX1_readSimple_91 hP hD hS 4 4 rfl rfl rfl [4, 5] rfl rfl [(4, w4 aS K s_6)] rfl rfl rfl (List.forall_mem_cons.mpr ⟨Nat.le_of_ble_eq_true rfl, (fun _ h => absurd h List.not_mem_nil)⟩)
        · refine xc_V (As := [.int (1 : Int32)]) (ws' := w1 aG K G ++ w4 aS K s_6) C (mX4_readNumber l hlt D K aS _ _ _ _ hc9) xgi_X1_25 xd_X4_readNumber ⟨Nat.le_of_ble_eq_true rfl, Nat.le_of_ble_eq_true rfl⟩ ⟨Nat.zero_le _, Nat.zero_le _⟩ hl rfl (Nat.le_of_ble_eq_true rfl) dX1_readSimple_91 hP hD hS 4 4 rfl rfl rfl [4, 5] rfl rfl [(4, w4 aS K s_6)] rfl rfl rfl (List.forall_mem_cons.mpr ⟨Nat.le_of_ble_eq_true rfl, (fun _ h => absurd h List.not_mem_nil)⟩) (fun H locs hP hD hS => ?_)
          refine W.eq (g2 := F0 m 94 ls [.int v_5]) rfl ?_
          refine lv_iconst (v := (1 : Int32)) hx hb dX1_readSimple_94 (by decide) ?_
          refine lv_icmp_ne (tgt := 101) hx hb dX1_readSimple_95 (by decide) (fun c9 => ?_) (fun c9 => ?_)
          · replace h := xi_f c9 h
            exact kX1_readSimple_101 C hlt _ _ _ _ _ h _ _ _ hP hD hS (lv_sub hl [1, 4, 0] rfl)
          · replace h := xi_t c9 h
            refine lv_iconst (v := (5 : Int32)) hx hb dX1_readSimple_98 (by decide) ?_
            refine lv_istore (lv' := [(5, .int (5 : Int32)), (0, .ref (aG 0)), (1, .ref (aS 0)), (2, .int x2), (3, .int x3), (4, .int x4)]) hx hb dX1_readSimple_99 hl (by decide) rfl (fun ls hl => ?_)
            exact kX1_readSimple_101 C hlt _ _ _ _ _ h _ _ _ hP hD hS (lv_sub hl [1, 4, 0] rfl)
    · replace h := xi_f c9 h
      refine lv_aload_n hx hb dX1_readSimple_23 rfl (lv_at hl 1 rfl) ?_
      refine lv_iload hx hb dX1_readSimple_24 (lv_at hl 4 rfl) ?_
      rcases xi_c h with ⟨E9, s_8, hc9, rfl⟩ | ⟨v_7, s_8, hc9, h⟩
      · exact xc_Vt (As := [.int x4]) (ws' := w1 aG K G ++ w4 aS K s_8) C (mX4_readNumber l hlt D K aS _ _ _ _ hc9) xgi_X1_25 xd_X4_readNumber ⟨Nat.le_of_ble_eq_true rfl, Nat.le_of_ble_eq_true rfl⟩ ⟨Nat.le_refl _, Nat.le_refl _⟩ hl rfl (Nat.le_of_ble_eq_true rfl) dX1_readSimple_26 hP hD hS 4 4 rfl rfl rfl [4, 5] rfl rfl [(4, w4 aS K s_8)] rfl rfl rfl (List.forall_mem_cons.mpr ⟨Nat.le_of_ble_eq_true rfl, (fun _ h => absurd h List.not_mem_nil)⟩)
      · refine xc_V (As := [.int x4]) (ws' := w1 aG K G ++ w4 aS K s_8) C (mX4_readNumber l hlt D K aS _ _ _ _ hc9) xgi_X1_25 xd_X4_readNumber ⟨Nat.le_of_ble_eq_true rfl, Nat.le_of_ble_eq_true rfl⟩ ⟨Nat.zero_le _, Nat.zero_le _⟩ hl rfl (Nat.le_of_ble_eq_true rfl) dX1_readSimple_26 hP hD hS 4 4 rfl rfl rfl [4, 5] rfl rfl [(4, w4 aS K s_8)] rfl rfl rfl (List.forall_mem_cons.mpr ⟨Nat.le_of_ble_eq_true rfl, (fun _ h => absurd h List.not_mem_nil)⟩) (fun H locs hP hD hS => ?_)
        refine W.eq (g2 := F0 m 29 ls [.int v_7]) rfl ?_
        refine lv_istore (lv' := [(6, .int v_7), (0, .ref (aG 0)), (1, .ref (aS 0)), (2, .int x2), (3, .int x3), (4, .int x4), (5, .int x5)]) hx hb dX1_readSimple_29 hl (by decide) rfl (fun ls hl => ?_)
        refine lv_iload hx hb dX1_readSimple_31 (lv_at hl 0 rfl) ?_
        refine lv_iload_n hx hb dX1_readSimple_33 rfl (lv_at hl 3 rfl) ?_
        refine lv_icmp_ge (tgt := 48) hx hb dX1_readSimple_34 (by decide) (fun c9 => ?_) (fun c9 => ?_)
        · replace h := xi_t c9 h
          exact kX1_readSimple_48 C hlt _ ih _ _ _ h _ _ _ hP hD hS (lv_sub hl [] rfl)
        · replace h := xi_f c9 h
          refine lv_aload_n hx hb dX1_readSimple_37 rfl (lv_at hl 1 rfl) ?_
          refine va_get (D := D) (ci := 1) (v := .ref (aG 1)) (C := RX1) (T := TX1) (N := 3) hx hb hts xu_X1 hown hK hP 0 rfl rfl 0 (by decide) (hts _ xw_95) (fun _ h9 => h9) rfl dX1_readSimple_38 ?_
          refine lv_iload hx hb dX1_readSimple_41 (lv_at hl 0 rfl) ?_
          obtain ⟨hi9, h⟩ := xi_g h
          refine va_iald hx hb hK hP 1 0 rfl rfl hi9 dX1_readSimple_43 ?_
          refine lv_iconst (v := (-1 : Int32)) hx hb dX1_readSimple_44 (by decide) ?_
          refine lv_icmp_eq (tgt := 58) hx hb dX1_readSimple_45 (by decide) (fun c9 => ?_) (fun c9 => ?_)
          · replace h := xi_t c9 h
            refine lv_aload_n hx hb dX1_readSimple_58 rfl (lv_at hl 1 rfl) ?_
            refine va_get (D := D) (ci := 1) (v := .ref (aG 1)) (C := RX1) (T := TX1) (N := 3) hx hb hts xu_X1 hown hK hP 0 rfl rfl 0 (by decide) (hts _ xw_95) (fun _ h9 => h9) rfl dX1_readSimple_59 ?_
            refine lv_iload hx hb dX1_readSimple_62 (lv_at hl 0 rfl) ?_
            refine lv_iconst (v := (0 : Int32)) hx hb dX1_readSimple_64 (by decide) ?_
            obtain ⟨hi9, h⟩ := xi_g h
            refine va_iast hx hb hK hP hD hS 1 0 rfl rfl hi9 dX1_readSimple_65 (fun H locs hP hD hS => ?_)
            have hP : va_P D vwCl (w1 aG K ((upd G.1 (v_7).toNatClampNeg (0 : Int32)), G.2.1, G.2.2) ++ w4 aS K s_8) H := hP
            have hD : va_D A (w1 aG K ((upd G.1 (v_7).toNatClampNeg (0 : Int32)), G.2.1, G.2.2) ++ w4 aS K s_8) := hD
            refine lv_aload_n hx hb dX1_readSimple_66 rfl (lv_at hl 1 rfl) ?_
            refine va_get (D := D) (ci := 1) (v := .ref (aG 2)) (C := RX1) (T := TX1) (N := 3) hx hb hts xu_X1 hown hK hP 0 rfl rfl 1 (by decide) (hts _ xw_96) (fun _ h9 => h9) rfl dX1_readSimple_67 ?_
            refine lv_iload hx hb dX1_readSimple_70 (lv_at hl 6 rfl) ?_
            refine lv_iload hx hb dX1_readSimple_72 (lv_at hl 0 rfl) ?_
            obtain ⟨hi9, h⟩ := xi_g h
            refine va_iast hx hb hK hP hD hS 2 0 rfl rfl hi9 dX1_readSimple_74 (fun H locs hP hD hS => ?_)
            have hP : va_P D vwCl (w1 aG K ((upd G.1 (v_7).toNatClampNeg (0 : Int32)), (upd G.2.1 (x5).toNatClampNeg v_7), G.2.2) ++ w4 aS K s_8) H := hP
            have hD : va_D A (w1 aG K ((upd G.1 (v_7).toNatClampNeg (0 : Int32)), (upd G.2.1 (x5).toNatClampNeg v_7), G.2.2) ++ w4 aS K s_8) := hD
            refine lv_iinc (v := (x5 + (1 : Int32))) (lv' := [(5, .int (x5 + (1 : Int32))), (6, .int v_7), (0, .ref (aG 0)), (1, .ref (aS 0)), (2, .int x2), (3, .int x3), (4, .int x4)]) hx hb dX1_readSimple_75 hl (k := 6) rfl (by rfl) (by decide) rfl (fun ls hl => ?_)
            refine lv_goto (tgt := 17) hx hb dX1_readSimple_78 (by decide) ?_
            exact ih _ _ _ _ _ _ _ h _ _ _ hP hD hS (lv_sub hl [2, 3, 4, 5, 6, 0] rfl)
          · replace h := xi_f c9 h
            exact kX1_readSimple_48 C hlt _ ih _ _ _ h _ _ _ hP hD hS (lv_sub hl [] rfl)
set_option maxHeartbeats 4000000 in
set_option maxRecDepth 100000 in
theorem mX1_readSimple (l : Launch) (hlt : l.stackTraces = false) (D : va_G) (K : Nat → ClassId) (aG : Nat → Nat) (aS : Nat → Nat) (sz : Nat) (G : S1) (S : S4) (p2 : Int32) (r : (String × (S1 × S4)) ⊕ (Unit × (S1 × S4))) (h : fX1_readSimple G S p2 = some r) : xMet l yX1_readSimple cX1_readSimple 8 none 7 113 D K [.ref (aG 0), .ref (aS 0), .int p2] sz (w1 aG K G ++ w4 aS K S) (oX1_readSimple aG aS K r) := by
  refine xm_of _ (by decide +kernel) (Nat.le_of_ble_eq_true rfl) (fun p e s m args below meth c A C hP hD ls hl => ?_)
  have hl : lv_has ls 8 [(0, .ref (aG 0)), (1, .ref (aS 0)), (2, .int p2)] := hl
  have hS : va_S A s.heap s.heap [] := va_S.rf
  obtain ⟨hx, hb, hr, hml, hown, hK, hts, hA, hG, hlk, hte, hnm⟩ := id C
  replace h : xbnd (fX4_readNumber S (2 : Int32)) (fun E9 s_2 => .inl (E9, (G, s_2))) (fun v_1 s_2 => xbnd0 (fX1_symbolBits p2) (fun v_3 s_4 => fX1_readSimple_17 xF G s_2 p2 (v_1 + (1 : Int32)) v_3 (0 : Int32))) = some r := h
  refine lv_aload_n hx hb dX1_readSimple_0 rfl (lv_at hl 1 rfl) ?_
  refine lv_iconst (v := (2 : Int32)) hx hb dX1_readSimple_1 (by decide) ?_
  rcases xi_c h with ⟨E9, s_2, hc9, rfl⟩ | ⟨v_1, s_2, hc9, h⟩
  · exact xc_Vt (As := [.int (2 : Int32)]) (ws' := w1 aG K G ++ w4 aS K s_2) C (mX4_readNumber l hlt D K aS _ _ _ _ hc9) xgi_X1_25 xd_X4_readNumber ⟨Nat.le_of_ble_eq_true rfl, Nat.le_of_ble_eq_true rfl⟩ ⟨Nat.le_refl _, Nat.le_refl _⟩ hl rfl (Nat.le_of_ble_eq_true rfl) dX1_readSimple_2 hP hD hS 4 4 rfl rfl rfl [4, 5] rfl rfl [(4, w4 aS K s_2)] rfl rfl rfl (List.forall_mem_cons.mpr ⟨Nat.le_of_ble_eq_true rfl, (fun _ h => absurd h List.not_mem_nil)⟩)
  · refine xc_V (As := [.int (2 : Int32)]) (ws' := w1 aG K G ++ w4 aS K s_2) C (mX4_readNumber l hlt D K aS _ _ _ _ hc9) xgi_X1_25 xd_X4_readNumber ⟨Nat.le_of_ble_eq_true rfl, Nat.le_of_ble_eq_true rfl⟩ ⟨Nat.zero_le _, Nat.zero_le _⟩ hl rfl (Nat.le_of_ble_eq_true rfl) dX1_readSimple_2 hP hD hS 4 4 rfl rfl rfl [4, 5] rfl rfl [(4, w4 aS K s_2)] rfl rfl rfl (List.forall_mem_cons.mpr ⟨Nat.le_of_ble_eq_true rfl, (fun _ h => absurd h List.not_mem_nil)⟩) (fun H locs hP hD hS => ?_)
    refine W.eq (g2 := F0 m 5 ls [.int v_1]) rfl ?_
    refine lv_iconst (v := (1 : Int32)) hx hb dX1_readSimple_5 (by decide) ?_
    refine lv_iadd hx hb dX1_readSimple_6 ?_
    refine lv_istore_n (lv' := [(3, .int (v_1 + (1 : Int32))), (0, .ref (aG 0)), (1, .ref (aS 0)), (2, .int p2)]) hx hb dX1_readSimple_7 rfl hl (by decide) rfl (fun ls hl => ?_)
    refine lv_iload_n hx hb dX1_readSimple_8 rfl (lv_at hl 3 rfl) ?_
    obtain ⟨v_3, s_4, hc9, h⟩ := xi_d h
    refine xc_S (As := [.int p2]) (ws' := w1 aG K G ++ w4 aS K s_2) C (mX1_symbolBits l D K _ _ _ hc9) xgs_X1_49 ⟨rfl, xd_X1_symbolBits⟩ ⟨Nat.le_of_ble_eq_true rfl, Nat.le_of_ble_eq_true rfl⟩ ⟨Nat.zero_le _, Nat.zero_le _⟩ hl rfl (Nat.le_of_ble_eq_true rfl) dX1_readSimple_9 hP hD hS [] rfl rfl [] rfl rfl rfl (fun _ h => absurd h List.not_mem_nil) (fun H locs hP hD hS => ?_)
    refine W.eq (g2 := F0 m 12 ls [.int v_3]) rfl ?_
    refine lv_istore (lv' := [(4, .int v_3), (3, .int (v_1 + (1 : Int32))), (0, .ref (aG 0)), (1, .ref (aS 0)), (2, .int p2)]) hx hb dX1_readSimple_12 hl (by decide) rfl (fun ls hl => ?_)
    refine lv_iconst (v := (0 : Int32)) hx hb dX1_readSimple_14 (by decide) ?_
    refine lv_istore (lv' := [(5, .int (0 : Int32)), (4, .int v_3), (3, .int (v_1 + (1 : Int32))), (0, .ref (aG 0)), (1, .ref (aS 0)), (2, .int p2)]) hx hb dX1_readSimple_15 hl (by decide) rfl (fun ls hl => ?_)
    exact kX1_readSimple_17 C hlt _ _ _ _ _ _ _ _ h _ _ _ hP hD hS (lv_sub hl [3, 4, 5, 2, 1, 0] rfl)
abbrev oX1_readLengths (aG : Nat → Nat) (aS : Nat → Nat) (K : Nat → ClassId) (r : (String × (S1 × S4)) ⊕ (Unit × (S1 × S4))) : xO := match r with
  | .inl q => .inl (q.1, w1 aG K q.2.1 ++ w4 aS K q.2.2)
  | .inr q => .inr (none, w1 aG K q.2.1 ++ w4 aS K q.2.2)
def fX1_readLengths_67 (G : S1) (S : S4) (x3 : Int32) : Option ((String × (S1 × S4)) ⊕ (Unit × (S1 × S4))) := (if x3 ≤ 0 then some (.inr ((), (G, S))) else some (.inl ("java/lang/IllegalArgumentException", (G, S))))
def fX1_readLengths_47 (rec7 : S1 → S4 → Int32 → Int32 → Int32 → Option ((String × (S1 × S4)) ⊕ (Unit × (S1 × S4)))) (G : S1) (S : S4) (x2 : Int32) (x3 : Int32) (x4 : Int32) : Option ((String × (S1 × S4)) ⊕ (Unit × (S1 × S4))) := (if 0 ≤ x3 then rec7 G S x2 x3 (x4 + (1 : Int32)) else some (.inl ("java/lang/IllegalArgumentException", (G, S))))
def fX1_readLengths_7 : Nat → S1 → S4 → Int32 → Int32 → Int32 → Option ((String × (S1 × S4)) ⊕ (Unit × (S1 × S4)))
  | 0 => fun _ _ _ _ _ => none
  | fu + 1 => fun G S x2 x3 x4 => (if x2 ≤ x4 then fX1_readLengths_67 G S x3 else (if x3 ≤ 0 then fX1_readLengths_67 G S x3 else xbnd (fX4_readNumber S (3 : Int32)) (fun E9 s_2 => .inl (E9, (G, s_2))) (fun v_1 s_2 => (if v_1 ≤ 0 then fX1_readLengths_47 (fX1_readLengths_7 fu) G s_2 x2 x3 x4 else (if x4 < 0 ∨ 32 ≤ (x4).toNatClampNeg then none else fX1_readLengths_47 (fX1_readLengths_7 fu) ((upd G.1 (x4).toNatClampNeg v_1), G.2.1, G.2.2) s_2 x2 (x3 - ((128 : Int32) >>> (v_1 &&& 31))) x4)))))
def fX1_readLengths (G : S1) (S : S4) (p2 : Int32) : Option ((String × (S1 × S4)) ⊕ (Unit × (S1 × S4))) := fX1_readLengths_7 xF G S p2 (128 : Int32) (0 : Int32)
set_option maxHeartbeats 4000000 in
set_option maxRecDepth 100000 in
theorem kX1_readLengths_67 {p : Program} {l : Launch} {e : Env} {s : State} {m : MethodId} {args : Array Value} {below : List Frame} {meth : Method} {c : Code} {D : va_G} {K : Nat → ClassId} {A : Nat → Prop} {aG : Nat → Nat} {aS : Nat → Nat} (C : xC p s m args meth c cX1_readLengths 6 none yX1_readLengths D K A []) (hlt : l.stackTraces = false) : ∀ (G : S1) (S : S4) (x3 : Int32) (r : (String × (S1 × S4)) ⊕ (Unit × (S1 × S4))), fX1_readLengths_67  G S x3 = some r → ∀ (H : Heap) (locs : List Loc) (ls : Array Slot), va_P D vwCl (w1 aG K G ++ w4 aS K S) H → va_D A (w1 aG K G ++ w4 aS K S) → va_S A s.heap H locs → lv_has ls 6 [(3, .int x3)] → W p l e (xR 7 113 (oX1_readLengths aG aS K r)) s m args below meth c H locs 0 0 (xQ below args s D K A (oX1_readLengths aG aS K r)) (F0 m 67 ls []) := by
  obtain ⟨hx, hb, hr, hml, hown, hK, hts, hA, hG, hlk, hte, hnm⟩ := id C
  intro G S x3 r h H locs ls hP hD hS hl
  replace h : (if x3 ≤ 0 then some (.inr ((), (G, S))) else some (.inl ("java/lang/IllegalArgumentException", (G, S)))) = some r := h
  refine lv_iload_n hx hb dX1_readLengths_67 rfl (lv_at hl 0 rfl) ?_
  refine lv_if_le (tgt := 81) hx hb dX1_readLengths_68 (by decide) (fun c9 => ?_) (fun c9 => ?_)
  · replace h := xi_t c9 h
    obtain rfl := Option.some.inj h
    exact xe_v C hP hD hS dX1_readLengths_81
  · replace h := xi_f c9 h
    obtain rfl := Option.some.inj h
    exact xe_throw C hlt (text := "a code has room left") xf_IllegalArgumentException xf_names xw_397 xw_44 (List.mem_of_getElem? (i := 10) rfl) xat_X1_46 xgd_X1_46 hl hP hD hS dX1_readLengths_71 dX1_readLengths_74 dX1_readLengths_75 dX1_readLengths_77 dX1_readLengths_80 (Nat.le_of_ble_eq_true rfl) (Nat.le_of_ble_eq_true rfl)
set_option maxHeartbeats 4000000 in
set_option maxRecDepth 100000 in
theorem kX1_readLengths_47 {p : Program} {l : Launch} {e : Env} {s : State} {m : MethodId} {args : Array Value} {below : List Frame} {meth : Method} {c : Code} {D : va_G} {K : Nat → ClassId} {A : Nat → Prop} {aG : Nat → Nat} {aS : Nat → Nat} (C : xC p s m args meth c cX1_readLengths 6 none yX1_readLengths D K A []) (hlt : l.stackTraces = false) (rec7 : S1 → S4 → Int32 → Int32 → Int32 → Option ((String × (S1 × S4)) ⊕ (Unit × (S1 × S4)))) (hrec7 : ∀ (G : S1) (S : S4) (x2 : Int32) (x3 : Int32) (x4 : Int32) (r : (String × (S1 × S4)) ⊕ (Unit × (S1 × S4))), rec7 G S x2 x3 x4 = some r → ∀ (H : Heap) (locs : List Loc) (ls : Array Slot), va_P D vwCl (w1 aG K G ++ w4 aS K S) H → va_D A (w1 aG K G ++ w4 aS K S) → va_S A s.heap H locs → lv_has ls 6 [(0, .ref (aG 0)), (1, .ref (aS 0)), (2, .int x2), (3, .int x3), (4, .int x4)] → W p l e (xR 7 113 (oX1_readLengths aG aS K r)) s m args below meth c H locs 0 0 (xQ below args s D K A (oX1_readLengths aG aS K r)) (F0 m 7 ls [])) : ∀ (G : S1) (S : S4) (x2 : Int32) (x3 : Int32) (x4 : Int32) (r : (String × (S1 × S4)) ⊕ (Unit × (S1 × S4))), fX1_readLengths_47  rec7 G S x2 x3 x4 = some r → ∀ (H : Heap) (locs : List Loc) (ls : Array Slot), va_P D vwCl (w1 aG K G ++ w4 aS K S) H → va_D A (w1 aG K G ++ w4 aS K S) → va_S A s.heap H locs → lv_has ls 6 [(0, .ref (aG 0)), (1, .ref (aS 0)), (2, .int x2), (3, .int x3), (4, .int x4)] → W p l e (xR 7 113 (oX1_readLengths aG aS K r)) s m args below meth c H locs 0 0 (xQ below args s D K A (oX1_readLengths aG aS K r)) (F0 m 47 ls []) := by
  obtain ⟨hx, hb, hr, hml, hown, hK, hts, hA, hG, hlk, hte, hnm⟩ := id C
  intro G S x2 x3 x4 r h H locs ls hP hD hS hl
  replace h : (if 0 ≤ x3 then rec7 G S x2 x3 (x4 + (1 : Int32)) else some (.inl ("java/lang/IllegalArgumentException", (G, S)))) = some r := h
  refine lv_iload_n hx hb dX1_readLengths_47 rfl (lv_at hl 3 rfl) ?_
  refine lv_if_ge (tgt := 61) hx hb dX1_readLengths_48 (by decide) (fun c9 => ?_) (fun c9 => ?_)
  · replace h := xi_t c9 h
    refine lv_iinc (v := (x4 + (1 : Int32))) (lv' := [(4, .int (x4 + (1 : Int32))), (0, .ref (aG 0)), (1, .ref (aS 0)), (2, .int x2), (3, .int x3)]) hx hb dX1_readLengths_61 hl (k := 4) rfl (by rfl) (by decide) rfl (fun ls hl => ?_)
    refine lv_goto (tgt := 7) hx hb dX1_readLengths_64 (by decide) ?_
    exact hrec7 _ _ _ _ _ _ h _ _ _ hP hD hS (lv_sub hl [1, 2, 3, 4, 0] rfl)
  · replace h := xi_f c9 h
    obtain rfl := Option.some.inj h
    exact xe_throw C hlt (text := "a code has too little room") xf_IllegalArgumentException xf_names xw_397 xw_44 (List.mem_of_getElem? (i := 9) rfl) xat_X1_46 xgd_X1_46 hl hP hD hS dX1_readLengths_51 dX1_readLengths_54 dX1_readLengths_55 dX1_readLengths_57 dX1_readLengths_60 (Nat.le_of_ble_eq_true rfl) (Nat.le_of_ble_eq_true rfl)
set_option maxHeartbeats 4000000 in
set_option maxRecDepth 100000 in
theorem kX1_readLengths_7 {p : Program} {l : Launch} {e : Env} {s : State} {m : MethodId} {args : Array Value} {below : List Frame} {meth : Method} {c : Code} {D : va_G} {K : Nat → ClassId} {A : Nat → Prop} {aG : Nat → Nat} {aS : Nat → Nat} (C : xC p s m args meth c cX1_readLengths 6 none yX1_readLengths D K A []) (hlt : l.stackTraces = false) : ∀ fu : Nat, ∀ (G : S1) (S : S4) (x2 : Int32) (x3 : Int32) (x4 : Int32) (r : (String × (S1 × S4)) ⊕ (Unit × (S1 × S4))), fX1_readLengths_7 fu G S x2 x3 x4 = some r → ∀ (H : Heap) (locs : List Loc) (ls : Array Slot), va_P D vwCl (w1 aG K G ++ w4 aS K S) H → va_D A (w1 aG K G ++ w4 aS K S) → va_S A s.heap H locs → lv_has ls 6 [(0, .ref (aG 0)), (1, .ref (aS 0)), (2, .int x2), (3, .int x3), (4, .int x4)] → W p l e (xR 7 113 (oX1_readLengths aG aS K r)) s m args below meth c H locs 0 0 (xQ below args s D K A (oX1_readLengths aG aS K r)) (F0 m 7 ls []) := by
  obtain ⟨hx, hb, hr, hml, hown, hK, hts, hA, hG, hlk, hte, hnm⟩ := id C
  intro fu
  induction fu with
  | zero =>
    intro G S x2 x3 x4 r h
    exact nomatch (show (none : Option ((String × (S1 × S4)) ⊕ (Unit × (S1 × S4)))) = some r from h)
  | succ fu ih =>
    intro G S x2 x3 x4 r h H locs ls hP hD hS hl
    replace h : (if x2 ≤ x4 then fX1_readLengths_67 G S x3 else (if x3 ≤ 0 then fX1_readLengths_67 G S x3 else xbnd (fX4_readNumber S (3 : Int32)) (fun E9 s_2 => .inl (E9, (G, s_2))) (fun v_1 s_2 => (if v_1 ≤ 0 then fX1_readLengths_47 (fX1_readLengths_7 fu) G s_2 x2 x3 x4 else (if x4 < 0 ∨ 32 ≤ (x4).toNatClampNeg then none else fX1_readLengths_47 (fX1_readLengths_7 fu) ((upd G.1 (x4).toNatClampNeg v_1), G.2.1, G.2.2) s_2 x2 (x3 - ((128 : Int32) >>> (v_1 &&& 31))) x4))))) = some r := h
    refine lv_iload hx hb dX1_readLengths_7 (lv_at hl 4 rfl) ?_
    refine lv_iload_n hx hb dX1_readLengths_9 rfl (lv_at hl 2 rfl) ?_
    refine lv_icmp_ge (tgt := 67) hx hb dX1_readLengths_10 (by decide) (fun c9 => ?_) (fun c9 => ?_)
    · replace h := xi_t c9 h
      exact kX1_readLengths_67 C hlt _ _ _ _ h _ _ _ hP hD hS (lv_sub hl [3] rfl)
    · replace h := xi_f c9 h
      refine lv_iload_n hx hb dX1_readLengths_13 rfl (lv_at hl 3 rfl) ?_
      refine lv_if_le (tgt := 67) hx hb dX1_readLengths_14 (by decide) (fun c9 => ?_) (fun c9 => ?_)
      · replace h := xi_t c9 h
        exact kX1_readLengths_67 C hlt _ _ _ _ h _ _ _ hP hD hS (lv_sub hl [3] rfl)
      · replace h := xi_f c9 h
        refine lv_aload_n hx hb dX1_readLengths_17 rfl (lv_at hl 1 rfl) ?_
        refine lv_iconst (v := (3 : Int32)) hx hb dX1_readLengths_18 (by decide) ?_
        rcases xi_c h with ⟨E9, s_2, hc9, rfl⟩ | ⟨v_1, s_2, hc9, h⟩
        · exact xc_Vt (As := [.int (3 : Int32)]) (ws' := w1 aG K G ++ w4 aS K s_2) C (mX4_readNumber l hlt D K aS _ _ _ _ hc9) xgi_X1_25 xd_X4_readNumber ⟨Nat.le_of_ble_eq_true rfl, Nat.le_of_ble_eq_true rfl⟩ ⟨Nat.le_refl _, Nat.le_refl _⟩ hl rfl (Nat.le_of_ble_eq_true rfl) dX1_readLengths_19 hP hD hS 4 4 rfl rfl rfl [4, 5] rfl rfl [(4, w4 aS K s_2)] rfl rfl rfl (List.forall_mem_cons.mpr ⟨Nat.le_of_ble_eq_true rfl, (fun _ h => absurd h List.not_mem_nil)⟩)
        · refine xc_V (As := [.int (3 : Int32)]) (ws' := w1 aG K G ++ w4 aS K s_2) C (mX4_readNumber l hlt D K aS _ _ _ _ hc9) xgi_X1_25 xd_X4_readNumber ⟨Nat.le_of_ble_eq_true rfl, Nat.le_of_ble_eq_true rfl⟩ ⟨Nat.zero_le _, Nat.zero_le _⟩ hl rfl (Nat.le_of_ble_eq_true rfl) dX1_readLengths_19 hP hD hS 4 4 rfl rfl rfl [4, 5] rfl rfl [(4, w4 aS K s_2)] rfl rfl rfl (List.forall_mem_cons.mpr ⟨Nat.le_of_ble_eq_true rfl, (fun _ h => absurd h List.not_mem_nil)⟩) (fun H locs hP hD hS => ?_)
          refine W.eq (g2 := F0 m 22 ls [.int v_1]) rfl ?_
          refine lv_istore (lv' := [(5, .int v_1), (0, .ref (aG 0)), (1, .ref (aS 0)), (2, .int x2), (3, .int x3), (4, .int x4)]) hx hb dX1_readLengths_22 hl (by decide) rfl (fun ls hl => ?_)
          refine lv_iload hx hb dX1_readLengths_24 (lv_at hl 0 rfl) ?_
          refine lv_if_le (tgt := 47) hx hb dX1_readLengths_26 (by decide) (fun c9 => ?_) (fun c9 => ?_)
          · replace h := xi_t c9 h
            exact kX1_readLengths_47 C hlt _ ih _ _ _ _ _ _ h _ _ _ hP hD hS (lv_sub hl [1, 2, 3, 4, 5] rfl)
          · replace h := xi_f c9 h
            refine lv_iload_n hx hb dX1_readLengths_29 rfl (lv_at hl 4 rfl) ?_
            refine lv_sipush (v := (128 : Int32)) hx hb dX1_readLengths_30 (by decide) ?_
            refine lv_iload hx hb dX1_readLengths_33 (lv_at hl 0 rfl) ?_
            refine lv_ishr hx hb dX1_readLengths_35 ?_
            refine lv_isub hx hb dX1_readLengths_36 ?_
            refine lv_istore_n (lv' := [(3, .int (x3 - ((128 : Int32) >>> (v_1 &&& 31)))), (5, .int v_1), (0, .ref (aG 0)), (1, .ref (aS 0)), (2, .int x2), (4, .int x4)]) hx hb dX1_readLengths_37 rfl hl (by decide) rfl (fun ls hl => ?_)
            refine lv_aload_n hx hb dX1_readLengths_38 rfl (lv_at hl 2 rfl) ?_
            refine va_get (D := D) (ci := 1) (v := .ref (aG 1)) (C := RX1) (T := TX1) (N := 3) hx hb hts xu_X1 hown hK hP 0 rfl rfl 0 (by decide) (hts _ xw_95) (fun _ h9 => h9) rfl dX1_readLengths_39 ?_
            refine lv_iload hx hb dX1_readLengths_42 (lv_at hl 5 rfl) ?_
            refine lv_iload hx hb dX1_readLengths_44 (lv_at hl 1 rfl) ?_
            obtain ⟨hi9, h⟩ := xi_g h
            refine va_iast hx hb hK hP hD hS 1 0 rfl rfl hi9 dX1_readLengths_46 (fun H locs hP hD hS => ?_)
            have hP : va_P D vwCl (w1 aG K ((upd G.1 (x4).toNatClampNeg v_1), G.2.1, G.2.2) ++ w4 aS K s_2) H := hP
            have hD : va_D A (w1 aG K ((upd G.1 (x4).toNatClampNeg v_1), G.2.1, G.2.2) ++ w4 aS K s_2) := hD
            exact kX1_readLengths_47 C hlt _ ih _ _ _ _ _ _ h _ _ _ hP hD hS (lv_sub hl [2, 3, 4, 0, 5] rfl)
set_option maxHeartbeats 4000000 in
set_option maxRecDepth 100000 in
theorem mX1_readLengths (l : Launch) (hlt : l.stackTraces = false) (D : va_G) (K : Nat → ClassId) (aG : Nat → Nat) (aS : Nat → Nat) (sz : Nat) (G : S1) (S : S4) (p2 : Int32) (r : (String × (S1 × S4)) ⊕ (Unit × (S1 × S4))) (h : fX1_readLengths G S p2 = some r) : xMet l yX1_readLengths cX1_readLengths 6 none 7 113 D K [.ref (aG 0), .ref (aS 0), .int p2] sz (w1 aG K G ++ w4 aS K S) (oX1_readLengths aG aS K r) := by
  refine xm_of _ (by decide +kernel) (Nat.le_of_ble_eq_true rfl) (fun p e s m args below meth c A C hP hD ls hl => ?_)
  have hl : lv_has ls 6 [(0, .ref (aG 0)), (1, .ref (aS 0)), (2, .int p2)] := hl
  have hS : va_S A s.heap s.heap [] := va_S.rf
  obtain ⟨hx, hb, hr, hml, hown, hK, hts, hA, hG, hlk, hte, hnm⟩ := id C
  replace h : fX1_readLengths_7 xF G S p2 (128 : Int32) (0 : Int32) = some r := h
  refine lv_sipush (v := (128 : Int32)) hx hb dX1_readLengths_0 (by decide) ?_
  refine lv_istore_n (lv' := [(3, .int (128 : Int32)), (0, .ref (aG 0)), (1, .ref (aS 0)), (2, .int p2)]) hx hb dX1_readLengths_3 rfl hl (by decide) rfl (fun ls hl => ?_)
  refine lv_iconst (v := (0 : Int32)) hx hb dX1_readLengths_4 (by decide) ?_
  refine lv_istore (lv' := [(4, .int (0 : Int32)), (3, .int (128 : Int32)), (0, .ref (aG 0)), (1, .ref (aS 0)), (2, .int p2)]) hx hb dX1_readLengths_5 hl (by decide) rfl (fun ls hl => ?_)
  exact kX1_readLengths_7 C hlt _ _ _ _ _ _ _ h _ _ _ hP hD hS (lv_sub hl [2, 3, 4, 1, 0] rfl)
abbrev oX1_orderSymbols (aG : Nat → Nat) (K : Nat → ClassId) (q : Unit × (S1)) : xO := .inr (none, w1 aG K q.2)
def fX1_orderSymbols_16 (rec4 : S1 → Int32 → Int32 → Int32 → Option (Unit × (S1))) : Nat → S1 → Int32 → Int32 → Int32 → Int32 → Int32 → Option (Unit × (S1))
  | 0 => fun _ _ _ _ _ _ => none
  | fu + 1 => fun G x1 x2 x3 x4 x5 => (if x1 ≤ x5 then (if x3 < 0 ∨ 8 ≤ (x3).toNatClampNeg then none else rec4 (G.1, G.2.1, (upd G.2.2 (x3).toNatClampNeg (x2 - x4))) x1 x2 (x3 + (1 : Int32))) else (if x5 < 0 ∨ 32 ≤ (x5).toNatClampNeg then none else (if (G.1 (x5).toNatClampNeg) = x3 then (if x2 < 0 ∨ 32 ≤ (x2).toNatClampNeg then none else fX1_orderSymbols_16 rec4 fu (G.1, (upd G.2.1 (x2).toNatClampNeg x5), G.2.2) x1 (x2 + (1 : Int32)) x3 x4 (x5 + (1 : Int32))) else fX1_orderSymbols_16 rec4 fu G x1 x2 x3 x4 (x5 + (1 : Int32)))))
def fX1_orderSymbols_4 : Nat → S1 → Int32 → Int32 → Int32 → Option (Unit × (S1))
  | 0 => fun _ _ _ _ => none
  | fu + 1 => fun G x1 x2 x3 => (if (7 : Int32) < x3 then some ((), G) else fX1_orderSymbols_16 (fX1_orderSymbols_4 fu) xF G x1 x2 x3 x2 (0 : Int32))
def fX1_orderSymbols (G : S1) (p1 : Int32) : Option (Unit × (S1)) := fX1_orderSymbols_4 xF G p1 (0 : Int32) (0 : Int32)
set_option maxHeartbeats 4000000 in
set_option maxRecDepth 100000 in
theorem kX1_orderSymbols_16 {p : Program} {l : Launch} {e : Env} {s : State} {m : MethodId} {args : Array Value} {below : List Frame} {meth : Method} {c : Code} {D : va_G} {K : Nat → ClassId} {A : Nat → Prop} {aG : Nat → Nat} (C : xC p s m args meth c cX1_orderSymbols 6 none yX1_orderSymbols D K A []) (rec4 : S1 → Int32 → Int32 → Int32 → Option (Unit × (S1))) (hrec4 : ∀ (G : S1) (x1 : Int32) (x2 : Int32) (x3 : Int32) (r : Unit × (S1)), rec4 G x1 x2 x3 = some r → ∀ (H : Heap) (locs : List Loc) (ls : Array Slot), va_P D vwCl (w1 aG K G) H → va_D A (w1 aG K G) → va_S A s.heap H locs → lv_has ls 6 [(0, .ref (aG 0)), (1, .int x1), (2, .int x2), (3, .int x3)] → W p l e (xR 0 0 (oX1_orderSymbols aG K r)) s m args below meth c H locs 0 0 (xQ below args s D K A (oX1_orderSymbols aG K r)) (F0 m 4 ls [])) : ∀ fu : Nat, ∀ (G : S1) (x1 : Int32) (x2 : Int32) (x3 : Int32) (x4 : Int32) (x5 : Int32) (r : Unit × (S1)), fX1_orderSymbols_16  rec4 fu G x1 x2 x3 x4 x5 = some r → ∀ (H : Heap) (locs : List Loc) (ls : Array Slot), va_P D vwCl (w1 aG K G) H → va_D A (w1 aG K G) → va_S A s.heap H locs → lv_has ls 6 [(0, .ref (aG 0)), (1, .int x1), (2, .int x2), (3, .int x3), (4, .int x4), (5, .int x5)] → W p l e (xR 0 0 (oX1_orderSymbols aG K r)) s m args below meth c H locs 0 0 (xQ below args s D K A (oX1_orderSymbols aG K r)) (F0 m 16 ls []) := by
  obtain ⟨hx, hb, hr, hml, hown, hK, hts, hA, hG, hlk, hte, hnm⟩ := id C
  intro fu
  induction fu with
  | zero =>
    intro G x1 x2 x3 x4 x5 r h
    exact nomatch (show (none : Option (Unit × (S1))) = some r from h)
  | succ fu ih =>
    intro G x1 x2 x3 x4 x5 r h H locs ls hP hD hS hl
    replace h : (if x1 ≤ x5 then (if x3 < 0 ∨ 8 ≤ (x3).toNatClampNeg then none else rec4 (G.1, G.2.1, (upd G.2.2 (x3).toNatClampNeg (x2 - x4))) x1 x2 (x3 + (1 : Int32))) else (if x5 < 0 ∨ 32 ≤ (x5).toNatClampNeg then none else (if (G.1 (x5).toNatClampNeg) = x3 then (if x2 < 0 ∨ 32 ≤ (x2).toNatClampNeg then none else fX1_orderSymbols_16 rec4 fu (G.1, (upd G.2.1 (x2).toNatClampNeg x5), G.2.2) x1 (x2 + (1 : Int32)) x3 x4 (x5 + (1 : Int32))) else fX1_orderSymbols_16 rec4 fu G x1 x2 x3 x4 (x5 + (1 : Int32))))) = some r := h
    refine lv_iload hx hb dX1_orderSymbols_16 (lv_at hl 5 rfl) ?_
    refine lv_iload_n hx hb dX1_orderSymbols_18 rfl (lv_at hl 1 rfl) ?_
    refine lv_icmp_ge (tgt := 50) hx hb dX1_orderSymbols_19 (by decide) (fun c9 => ?_) (fun c9 => ?_)
    · replace h := xi_t c9 h
      refine lv_aload_n hx hb dX1_orderSymbols_50 rfl (lv_at hl 0 rfl) ?_
      refine va_get (D := D) (ci := 1) (v := .ref (aG 3)) (C := RX1) (T := TX1) (N := 3) hx hb hts xu_X1 hown hK hP 0 rfl rfl 2 (by decide) (hts _ xw_97) (fun _ h9 => h9) rfl dX1_orderSymbols_51 ?_
      refine lv_iload_n hx hb dX1_orderSymbols_54 rfl (lv_at hl 3 rfl) ?_
      refine lv_iload_n hx hb dX1_orderSymbols_55 rfl (lv_at hl 2 rfl) ?_
      refine lv_iload hx hb dX1_orderSymbols_56 (lv_at hl 4 rfl) ?_
      refine lv_isub hx hb dX1_orderSymbols_58 ?_
      obtain ⟨hi9, h⟩ := xi_g h
      refine va_iast hx hb hK hP hD hS 3 0 rfl rfl hi9 dX1_orderSymbols_59 (fun H locs hP hD hS => ?_)
      have hP : va_P D vwCl (w1 aG K (G.1, G.2.1, (upd G.2.2 (x3).toNatClampNeg (x2 - x4)))) H := hP
      have hD : va_D A (w1 aG K (G.1, G.2.1, (upd G.2.2 (x3).toNatClampNeg (x2 - x4)))) := hD
      refine lv_iinc (v := (x3 + (1 : Int32))) (lv' := [(3, .int (x3 + (1 : Int32))), (0, .ref (aG 0)), (1, .int x1), (2, .int x2), (4, .int x4), (5, .int x5)]) hx hb dX1_orderSymbols_60 hl (k := 3) rfl (by rfl) (by decide) rfl (fun ls hl => ?_)
      refine lv_goto (tgt := 4) hx hb dX1_orderSymbols_63 (by decide) ?_
      exact hrec4 _ _ _ _ _ h _ _ _ hP hD hS (lv_sub hl [1, 2, 3, 0] rfl)
    · replace h := xi_f c9 h
      refine lv_aload_n hx hb dX1_orderSymbols_22 rfl (lv_at hl 0 rfl) ?_
      refine va_get (D := D) (ci := 1) (v := .ref (aG 1)) (C := RX1) (T := TX1) (N := 3) hx hb hts xu_X1 hown hK hP 0 rfl rfl 0 (by decide) (hts _ xw_95) (fun _ h9 => h9) rfl dX1_orderSymbols_23 ?_
      refine lv_iload hx hb dX1_orderSymbols_26 (lv_at hl 5 rfl) ?_
      obtain ⟨hi9, h⟩ := xi_g h
      refine va_iald hx hb hK hP 1 0 rfl rfl hi9 dX1_orderSymbols_28 ?_
      refine lv_iload_n hx hb dX1_orderSymbols_29 rfl (lv_at hl 3 rfl) ?_
      refine lv_icmp_ne (tgt := 44) hx hb dX1_orderSymbols_30 (by decide) (fun c9 => ?_) (fun c9 => ?_)
      · replace h := xi_f c9 h
        refine lv_iinc (v := (x5 + (1 : Int32))) (lv' := [(5, .int (x5 + (1 : Int32))), (0, .ref (aG 0)), (1, .int x1), (2, .int x2), (3, .int x3), (4, .int x4)]) hx hb dX1_orderSymbols_44 hl (k := 5) rfl (by rfl) (by decide) rfl (fun ls hl => ?_)
        refine lv_goto (tgt := 16) hx hb dX1_orderSymbols_47 (by decide) ?_
        exact ih _ _ _ _ _ _ _ h _ _ _ hP hD hS (lv_sub hl [1, 2, 3, 4, 5, 0] rfl)
      · replace h := xi_t c9 h
        refine lv_aload_n hx hb dX1_orderSymbols_33 rfl (lv_at hl 0 rfl) ?_
        refine va_get (D := D) (ci := 1) (v := .ref (aG 2)) (C := RX1) (T := TX1) (N := 3) hx hb hts xu_X1 hown hK hP 0 rfl rfl 1 (by decide) (hts _ xw_96) (fun _ h9 => h9) rfl dX1_orderSymbols_34 ?_
        refine lv_iload_n hx hb dX1_orderSymbols_37 rfl (lv_at hl 2 rfl) ?_
        refine lv_iload hx hb dX1_orderSymbols_38 (lv_at hl 5 rfl) ?_
        obtain ⟨hi9, h⟩ := xi_g h
        refine va_iast hx hb hK hP hD hS 2 0 rfl rfl hi9 dX1_orderSymbols_40 (fun H locs hP hD hS => ?_)
        have hP : va_P D vwCl (w1 aG K (G.1, (upd G.2.1 (x2).toNatClampNeg x5), G.2.2)) H := hP
        have hD : va_D A (w1 aG K (G.1, (upd G.2.1 (x2).toNatClampNeg x5), G.2.2)) := hD
        refine lv_iinc (v := (x2 + (1 : Int32))) (lv' := [(2, .int (x2 + (1 : Int32))), (0, .ref (aG 0)), (1, .int x1), (3, .int x3), (4, .int x4), (5, .int x5)]) hx hb dX1_orderSymbols_41 hl (k := 2) rfl (by rfl) (by decide) rfl (fun ls hl => ?_)
        refine lv_iinc (v := (x5 + (1 : Int32))) (lv' := [(5, .int (x5 + (1 : Int32))), (2, .int (x2 + (1 : Int32))), (0, .ref (aG 0)), (1, .int x1), (3, .int x3), (4, .int x4)]) hx hb dX1_orderSymbols_44 hl (k := 5) rfl (by rfl) (by decide) rfl (fun ls hl => ?_)
        refine lv_goto (tgt := 16) hx hb dX1_orderSymbols_47 (by decide) ?_
        exact ih _ _ _ _ _ _ _ h _ _ _ hP hD hS (lv_sub hl [2, 3, 1, 4, 5, 0] rfl)
set_option maxHeartbeats 4000000 in
set_option maxRecDepth 100000 in
theorem kX1_orderSymbols_4 {p : Program} {l : Launch} {e : Env} {s : State} {m : MethodId} {args : Array Value} {below : List Frame} {meth : Method} {c : Code} {D : va_G} {K : Nat → ClassId} {A : Nat → Prop} {aG : Nat → Nat} (C : xC p s m args meth c cX1_orderSymbols 6 none yX1_orderSymbols D K A []) : ∀ fu : Nat, ∀ (G : S1) (x1 : Int32) (x2 : Int32) (x3 : Int32) (r : Unit × (S1)), fX1_orderSymbols_4 fu G x1 x2 x3 = some r → ∀ (H : Heap) (locs : List Loc) (ls : Array Slot), va_P D vwCl (w1 aG K G) H → va_D A (w1 aG K G) → va_S A s.heap H locs → lv_has ls 6 [(0, .ref (aG 0)), (1, .int x1), (2, .int x2), (3, .int x3)] → W p l e (xR 0 0 (oX1_orderSymbols aG K r)) s m args below meth c H locs 0 0 (xQ below args s D K A (oX1_orderSymbols aG K r)) (F0 m 4 ls []) := by
  obtain ⟨hx, hb, hr, hml, hown, hK, hts, hA, hG, hlk, hte, hnm⟩ := id C
  intro fu
  induction fu with
  | zero =>
    intro G x1 x2 x3 r h
    exact nomatch (show (none : Option (Unit × (S1))) = some r from h)
  | succ fu ih =>
    intro G x1 x2 x3 r h H locs ls hP hD hS hl
    replace h : (if (7 : Int32) < x3 then some ((), G) else fX1_orderSymbols_16 (fX1_orderSymbols_4 fu) xF G x1 x2 x3 x2 (0 : Int32)) = some r := h
    refine lv_iload_n hx hb dX1_orderSymbols_4 rfl (lv_at hl 3 rfl) ?_
    refine lv_bipush (v := (7 : Int32)) hx hb dX1_orderSymbols_5 (by decide) ?_
    refine lv_icmp_gt (tgt := 66) hx hb dX1_orderSymbols_7 (by decide) (fun c9 => ?_) (fun c9 => ?_)
    · replace h := xi_t c9 h
      obtain rfl := Option.some.inj h
      exact xe_v C hP hD hS dX1_orderSymbols_66
    · replace h := xi_f c9 h
      refine lv_iload_n hx hb dX1_orderSymbols_10 rfl (lv_at hl 2 rfl) ?_
      refine lv_istore (lv' := [(4, .int x2), (0, .ref (aG 0)), (1, .int x1), (2, .int x2), (3, .int x3)]) hx hb dX1_orderSymbols_11 hl (by decide) rfl (fun ls hl => ?_)
      refine lv_iconst (v := (0 : Int32)) hx hb dX1_orderSymbols_13 (by decide) ?_
      refine lv_istore (lv' := [(5, .int (0 : Int32)), (4, .int x2), (0, .ref (aG 0)), (1, .int x1), (2, .int x2), (3, .int x3)]) hx hb dX1_orderSymbols_14 hl (by decide) rfl (fun ls hl => ?_)
      exact kX1_orderSymbols_16 C _ ih _ _ _ _ _ _ _ _ h _ _ _ hP hD hS (lv_sub hl [2, 3, 4, 5, 1, 0] rfl)
set_option maxHeartbeats 4000000 in
set_option maxRecDepth 100000 in
theorem mX1_orderSymbols (l : Launch) (D : va_G) (K : Nat → ClassId) (aG : Nat → Nat) (sz : Nat) (G : S1) (p1 : Int32) (r : Unit × (S1)) (h : fX1_orderSymbols G p1 = some r) : xMet l yX1_orderSymbols cX1_orderSymbols 6 none 0 0 D K [.ref (aG 0), .int p1] sz (w1 aG K G) (oX1_orderSymbols aG K r) := by
  refine xm_of _ (by decide +kernel) (Nat.le_of_ble_eq_true rfl) (fun p e s m args below meth c A C hP hD ls hl => ?_)
  have hl : lv_has ls 6 [(0, .ref (aG 0)), (1, .int p1)] := hl
  have hS : va_S A s.heap s.heap [] := va_S.rf
  obtain ⟨hx, hb, hr, hml, hown, hK, hts, hA, hG, hlk, hte, hnm⟩ := id C
  replace h : fX1_orderSymbols_4 xF G p1 (0 : Int32) (0 : Int32) = some r := h
  refine lv_iconst (v := (0 : Int32)) hx hb dX1_orderSymbols_0 (by decide) ?_
  refine lv_istore_n (lv' := [(2, .int (0 : Int32)), (0, .ref (aG 0)), (1, .int p1)]) hx hb dX1_orderSymbols_1 rfl hl (by decide) rfl (fun ls hl => ?_)
  refine lv_iconst (v := (0 : Int32)) hx hb dX1_orderSymbols_2 (by decide) ?_
  refine lv_istore_n (lv' := [(3, .int (0 : Int32)), (2, .int (0 : Int32)), (0, .ref (aG 0)), (1, .int p1)]) hx hb dX1_orderSymbols_3 rfl hl (by decide) rfl (fun ls hl => ?_)
  exact kX1_orderSymbols_4 C _ _ _ _ _ _ h _ _ _ hP hD hS (lv_sub hl [2, 3, 1, 0] rfl)
abbrev oX1_readCode (aG : Nat → Nat) (aS : Nat → Nat) (K : Nat → ClassId) (r : (String × (S1 × S4)) ⊕ (Unit × (S1 × S4))) : xO := match r with
  | .inl q => .inl (q.1, w1 aG K q.2.1 ++ w4 aS K q.2.2)
  | .inr q => .inr (none, w1 aG K q.2.1 ++ w4 aS K q.2.2)
def fX1_readCode_32 (G : S1) (S : S4) (x2 : Int32) : Option ((String × (S1 × S4)) ⊕ (Unit × (S1 × S4))) := xbnd0 (fX1_orderSymbols G x2) (fun v_9 s_10 => some (.inr ((), (s_10, S))))
def fX1_readCode (G : S1) (S : S4) (p2 : Int32) : Option ((String × (S1 × S4)) ⊕ (Unit × (S1 × S4))) := xbnd0 (fJ7_fill_53178 32 G.1 (-1 : Int32)) (fun v_1 s_2 => xbnd (fX4_readNumber S (1 : Int32)) (fun E9 s_4 => .inl (E9, ((s_2, G.2.1, G.2.2), s_4))) (fun v_3 s_4 => (if v_3 = (1 : Int32) then xbnd (fX1_readSimple (s_2, G.2.1, G.2.2) s_4 p2) (fun E9 s_8 => .inl (E9, (s_8.1, s_8.2))) (fun v_7 s_8 => fX1_readCode_32 s_8.1 s_8.2 p2) else xbnd (fX1_readLengths (s_2, G.2.1, G.2.2) s_4 p2) (fun E9 s_6 => .inl (E9, (s_6.1, s_6.2))) (fun v_5 s_6 => fX1_readCode_32 s_6.1 s_6.2 p2))))
set_option maxHeartbeats 4000000 in
set_option maxRecDepth 100000 in
theorem kX1_readCode_32 {p : Program} {l : Launch} {e : Env} {s : State} {m : MethodId} {args : Array Value} {below : List Frame} {meth : Method} {c : Code} {D : va_G} {K : Nat → ClassId} {A : Nat → Prop} {aG : Nat → Nat} {aS : Nat → Nat} (C : xC p s m args meth c cX1_readCode 3 none yX1_readCode D K A []) (hlt : l.stackTraces = false) : ∀ (G : S1) (S : S4) (x2 : Int32) (r : (String × (S1 × S4)) ⊕ (Unit × (S1 × S4))), fX1_readCode_32  G S x2 = some r → ∀ (H : Heap) (locs : List Loc) (ls : Array Slot), va_P D vwCl (w1 aG K G ++ w4 aS K S) H → va_D A (w1 aG K G ++ w4 aS K S) → va_S A s.heap H locs → lv_has ls 3 [(0, .ref (aG 0)), (2, .int x2)] → W p l e (xR 8 140 (oX1_readCode aG aS K r)) s m args below meth c H locs 0 0 (xQ below args s D K A (oX1_readCode aG aS K r)) (F0 m 32 ls []) := by
  obtain ⟨hx, hb, hr, hml, hown, hK, hts, hA, hG, hlk, hte, hnm⟩ := id C
  intro G S x2 r h H locs ls hP hD hS hl
  replace h : xbnd0 (fX1_orderSymbols G x2) (fun v_9 s_10 => some (.inr ((), (s_10, S)))) = some r := h
  refine lv_aload_n hx hb dX1_readCode_32 rfl (lv_at hl 0 rfl) ?_
  refine lv_iload_n hx hb dX1_readCode_33 rfl (lv_at hl 1 rfl) ?_
  obtain ⟨v_9, s_10, hc9, h⟩ := xi_d h
  refine xc_V (As := [.int x2]) (ws' := w1 aG K s_10 ++ w4 aS K S) C (mX1_orderSymbols l D K aG _ _ _ _ hc9) xgi_X1_38 xd_X1_orderSymbols ⟨Nat.le_of_ble_eq_true rfl, Nat.le_of_ble_eq_true rfl⟩ ⟨Nat.zero_le _, Nat.zero_le _⟩ hl rfl (Nat.le_of_ble_eq_true rfl) dX1_readCode_34 hP hD hS 0 1 rfl rfl rfl [0, 1, 2, 3] rfl rfl [(0, w1 aG K s_10)] rfl rfl rfl (List.forall_mem_cons.mpr ⟨Nat.le_of_ble_eq_true rfl, (fun _ h => absurd h List.not_mem_nil)⟩) (fun H locs hP hD hS => ?_)
  refine W.eq (g2 := F0 m 37 ls []) rfl ?_
  obtain rfl := Option.some.inj h
  exact xe_v C hP hD hS dX1_readCode_37
set_option maxHeartbeats 4000000 in
set_option maxRecDepth 100000 in
theorem mX1_readCode (l : Launch) (hlt : l.stackTraces = false) (D : va_G) (K : Nat → ClassId) (aG : Nat → Nat) (aS : Nat → Nat) (sz : Nat) (G : S1) (S : S4) (p2 : Int32) (r : (String × (S1 × S4)) ⊕ (Unit × (S1 × S4))) (h : fX1_readCode G S p2 = some r) : xMet l yX1_readCode cX1_readCode 3 none 8 140 D K [.ref (aG 0), .ref (aS 0), .int p2] sz (w1 aG K G ++ w4 aS K S) (oX1_readCode aG aS K r) := by
  refine xm_of _ (by decide +kernel) (Nat.le_of_ble_eq_true rfl) (fun p e s m args below meth c A C hP hD ls hl => ?_)
  have hl : lv_has ls 3 [(0, .ref (aG 0)), (1, .ref (aS 0)), (2, .int p2)] := hl
  have hS : va_S A s.heap s.heap [] := va_S.rf
  obtain ⟨hx, hb, hr, hml, hown, hK, hts, hA, hG, hlk, hte, hnm⟩ := id C
  replace h : xbnd0 (fJ7_fill_53178 32 G.1 (-1 : Int32)) (fun v_1 s_2 => xbnd (fX4_readNumber S (1 : Int32)) (fun E9 s_4 => .inl (E9, ((s_2, G.2.1, G.2.2), s_4))) (fun v_3 s_4 => (if v_3 = (1 : Int32) then xbnd (fX1_readSimple (s_2, G.2.1, G.2.2) s_4 p2) (fun E9 s_8 => .inl (E9, (s_8.1, s_8.2))) (fun v_7 s_8 => fX1_readCode_32 s_8.1 s_8.2 p2) else xbnd (fX1_readLengths (s_2, G.2.1, G.2.2) s_4 p2) (fun E9 s_6 => .inl (E9, (s_6.1, s_6.2))) (fun v_5 s_6 => fX1_readCode_32 s_6.1 s_6.2 p2)))) = some r := h
  refine lv_aload_n hx hb dX1_readCode_0 rfl (lv_at hl 0 rfl) ?_
  refine va_get (D := D) (ci := 1) (v := .ref (aG 1)) (C := RX1) (T := TX1) (N := 3) hx hb hts xu_X1 hown hK hP 0 rfl rfl 0 (by decide) (hts _ xw_95) (fun _ h9 => h9) rfl dX1_readCode_1 ?_
  refine lv_iconst (v := (-1 : Int32)) hx hb dX1_readCode_4 (by decide) ?_
  obtain ⟨v_1, s_2, hc9, h⟩ := xi_d h
  refine xc_Q (As := [.ref (aG 1), .int (-1 : Int32)]) (ws' := w1 aG K (s_2, G.2.1, G.2.2) ++ w4 aS K S) C (mJ7_fill_53178 l D K (aG 1) 32 _ _ _ _ hc9) xgs_X1_19 xd_J7_fill_53178 ⟨Nat.le_of_ble_eq_true rfl, Nat.le_of_ble_eq_true rfl⟩ ⟨Nat.zero_le _, Nat.zero_le _⟩ hl rfl (Nat.le_of_ble_eq_true rfl) dX1_readCode_5 hP hD hS [1] rfl rfl [(1, [((aG 1), .inl (K 0, 32, .inl s_2))])] rfl rfl rfl (List.forall_mem_cons.mpr ⟨Nat.le_of_ble_eq_true rfl, (fun _ h => absurd h List.not_mem_nil)⟩) (fun H locs hP hD hS => ?_)
  refine W.eq (g2 := F0 m 8 ls []) rfl ?_
  refine lv_aload_n hx hb dX1_readCode_8 rfl (lv_at hl 1 rfl) ?_
  refine lv_iconst (v := (1 : Int32)) hx hb dX1_readCode_9 (by decide) ?_
  rcases xi_c h with ⟨E9, s_4, hc9, rfl⟩ | ⟨v_3, s_4, hc9, h⟩
  · exact xc_Vt (As := [.int (1 : Int32)]) (ws' := w1 aG K (s_2, G.2.1, G.2.2) ++ w4 aS K s_4) C (mX4_readNumber l hlt D K aS _ _ _ _ hc9) xgi_X1_25 xd_X4_readNumber ⟨Nat.le_of_ble_eq_true rfl, Nat.le_of_ble_eq_true rfl⟩ ⟨Nat.le_refl _, Nat.le_refl _⟩ hl rfl (Nat.le_of_ble_eq_true rfl) dX1_readCode_10 hP hD hS 4 4 rfl rfl rfl [4, 5] rfl rfl [(4, w4 aS K s_4)] rfl rfl rfl (List.forall_mem_cons.mpr ⟨Nat.le_of_ble_eq_true rfl, (fun _ h => absurd h List.not_mem_nil)⟩)
  · refine xc_V (As := [.int (1 : Int32)]) (ws' := w1 aG K (s_2, G.2.1, G.2.2) ++ w4 aS K s_4) C (mX4_readNumber l hlt D K aS _ _ _ _ hc9) xgi_X1_25 xd_X4_readNumber ⟨Nat.le_of_ble_eq_true rfl, Nat.le_of_ble_eq_true rfl⟩ ⟨Nat.zero_le _, Nat.zero_le _⟩ hl rfl (Nat.le_of_ble_eq_true rfl) dX1_readCode_10 hP hD hS 4 4 rfl rfl rfl [4, 5] rfl rfl [(4, w4 aS K s_4)] rfl rfl rfl (List.forall_mem_cons.mpr ⟨Nat.le_of_ble_eq_true rfl, (fun _ h => absurd h List.not_mem_nil)⟩) (fun H locs hP hD hS => ?_)
    refine W.eq (g2 := F0 m 13 ls [.int v_3]) rfl ?_
    refine lv_iconst (v := (1 : Int32)) hx hb dX1_readCode_13 (by decide) ?_
    refine lv_icmp_ne (tgt := 26) hx hb dX1_readCode_14 (by decide) (fun c9 => ?_) (fun c9 => ?_)
    · replace h := xi_f c9 h
      refine lv_aload_n hx hb dX1_readCode_26 rfl (lv_at hl 0 rfl) ?_
      refine lv_aload_n hx hb dX1_readCode_27 rfl (lv_at hl 1 rfl) ?_
      refine lv_iload_n hx hb dX1_readCode_28 rfl (lv_at hl 2 rfl) ?_
      rcases xi_c h with ⟨E9, s_6, hc9, rfl⟩ | ⟨v_5, s_6, hc9, h⟩
      · exact xc_Vt (As := [.ref (aS 0), .int p2]) (ws' := w1 aG K s_6.1 ++ w4 aS K s_6.2) C (mX1_readLengths l hlt D K aG aS _ _ _ _ _ hc9) xgi_X1_35 xd_X1_readLengths ⟨Nat.le_of_ble_eq_true rfl, Nat.le_of_ble_eq_true rfl⟩ ⟨Nat.le_refl _, Nat.le_refl _⟩ hl rfl (Nat.le_of_ble_eq_true rfl) dX1_readCode_29 hP hD hS 0 1 rfl rfl rfl [0, 1, 2, 3, 4, 5] rfl rfl [(0, w1 aG K s_6.1), (4, w4 aS K s_6.2)] rfl rfl rfl (List.forall_mem_cons.mpr ⟨Nat.le_of_ble_eq_true rfl, (List.forall_mem_cons.mpr ⟨Nat.le_of_ble_eq_true rfl, (fun _ h => absurd h List.not_mem_nil)⟩)⟩)
      · refine xc_V (As := [.ref (aS 0), .int p2]) (ws' := w1 aG K s_6.1 ++ w4 aS K s_6.2) C (mX1_readLengths l hlt D K aG aS _ _ _ _ _ hc9) xgi_X1_35 xd_X1_readLengths ⟨Nat.le_of_ble_eq_true rfl, Nat.le_of_ble_eq_true rfl⟩ ⟨Nat.zero_le _, Nat.zero_le _⟩ hl rfl (Nat.le_of_ble_eq_true rfl) dX1_readCode_29 hP hD hS 0 1 rfl rfl rfl [0, 1, 2, 3, 4, 5] rfl rfl [(0, w1 aG K s_6.1), (4, w4 aS K s_6.2)] rfl rfl rfl (List.forall_mem_cons.mpr ⟨Nat.le_of_ble_eq_true rfl, (List.forall_mem_cons.mpr ⟨Nat.le_of_ble_eq_true rfl, (fun _ h => absurd h List.not_mem_nil)⟩)⟩) (fun H locs hP hD hS => ?_)
        refine W.eq (g2 := F0 m 32 ls []) rfl ?_
        exact kX1_readCode_32 C hlt _ _ _ _ h _ _ _ hP hD hS (lv_sub hl [0, 2] rfl)
    · replace h := xi_t c9 h
      refine lv_aload_n hx hb dX1_readCode_17 rfl (lv_at hl 0 rfl) ?_
      refine lv_aload_n hx hb dX1_readCode_18 rfl (lv_at hl 1 rfl) ?_
      refine lv_iload_n hx hb dX1_readCode_19 rfl (lv_at hl 2 rfl) ?_
      rcases xi_c h with ⟨E9, s_8, hc9, rfl⟩ | ⟨v_7, s_8, hc9, h⟩
      · exact xc_Vt (As := [.ref (aS 0), .int p2]) (ws' := w1 aG K s_8.1 ++ w4 aS K s_8.2) C (mX1_readSimple l hlt D K aG aS _ _ _ _ _ hc9) xgi_X1_31 xd_X1_readSimple ⟨Nat.le_of_ble_eq_true rfl, Nat.le_of_ble_eq_true rfl⟩ ⟨Nat.le_refl _, Nat.le_refl _⟩ hl rfl (Nat.le_of_ble_eq_true rfl) dX1_readCode_20 hP hD hS 0 1 rfl rfl rfl [0, 1, 2, 3, 4, 5] rfl rfl [(0, w1 aG K s_8.1), (4, w4 aS K s_8.2)] rfl rfl rfl (List.forall_mem_cons.mpr ⟨Nat.le_of_ble_eq_true rfl, (List.forall_mem_cons.mpr ⟨Nat.le_of_ble_eq_true rfl, (fun _ h => absurd h List.not_mem_nil)⟩)⟩)
      · refine xc_V (As := [.ref (aS 0), .int p2]) (ws' := w1 aG K s_8.1 ++ w4 aS K s_8.2) C (mX1_readSimple l hlt D K aG aS _ _ _ _ _ hc9) xgi_X1_31 xd_X1_readSimple ⟨Nat.le_of_ble_eq_true rfl, Nat.le_of_ble_eq_true rfl⟩ ⟨Nat.zero_le _, Nat.zero_le _⟩ hl rfl (Nat.le_of_ble_eq_true rfl) dX1_readCode_20 hP hD hS 0 1 rfl rfl rfl [0, 1, 2, 3, 4, 5] rfl rfl [(0, w1 aG K s_8.1), (4, w4 aS K s_8.2)] rfl rfl rfl (List.forall_mem_cons.mpr ⟨Nat.le_of_ble_eq_true rfl, (List.forall_mem_cons.mpr ⟨Nat.le_of_ble_eq_true rfl, (fun _ h => absurd h List.not_mem_nil)⟩)⟩) (fun H locs hP hD hS => ?_)
        refine W.eq (g2 := F0 m 23 ls []) rfl ?_
        refine lv_goto (tgt := 32) hx hb dX1_readCode_23 (by decide) ?_
        exact kX1_readCode_32 C hlt _ _ _ _ h _ _ _ hP hD hS (lv_sub hl [0, 2] rfl)
