abbrev oX2_readMap (aL : Nat → Nat) (aS : Nat → Nat) (K : Nat → ClassId) (r : (String × (S2 × S4)) ⊕ (Unit × (S2 × S4))) : xO := match r with
  | .inl q => .inl (q.1, w2 aL K q.2.1 ++ w4 aS K q.2.2)
  | .inr q => .inr (none, w2 aL K q.2.1 ++ w4 aS K q.2.2)
def fX2_readMap_10 : Nat → S2 → S4 → Int32 → Int32 → Int32 → Option ((String × (S2 × S4)) ⊕ (Unit × (S2 × S4)))
  | 0 => fun _ _ _ _ _ => none
  | fu + 1 => fun L S x2 x3 x4 => (if x3 ≤ x4 then xbnd (fX4_readNumber S (1 : Int32)) (fun E9 s_2 => .inl (E9, (L, s_2))) (fun v_1 s_2 => (if v_1 = (1 : Int32) then xbnd0 (fX2_replacePlaces L x3) (fun v_3 s_4 => some (.inr ((), (s_4, s_2)))) else some (.inr ((), (L, s_2))))) else xbnd (fX4_readNumber S (2 : Int32)) (fun E9 s_6 => .inl (E9, (L, s_6))) (fun v_5 s_6 => (if x4 < 0 ∨ 12 ≤ (x4).toNatClampNeg then none else (if x4 < 0 ∨ 12 ≤ (x4).toNatClampNeg then none else (if ((upd L.2.2.2.2.2.2.1 (x4).toNatClampNeg v_5) (x4).toNatClampNeg) < x2 then fX2_readMap_10 fu (L.1, L.2.1, L.2.2.1, L.2.2.2.1, L.2.2.2.2.1, L.2.2.2.2.2.1, (upd L.2.2.2.2.2.2.1 (x4).toNatClampNeg v_5), L.2.2.2.2.2.2.2.1, L.2.2.2.2.2.2.2.2.1, L.2.2.2.2.2.2.2.2.2.1, L.2.2.2.2.2.2.2.2.2.2.1, L.2.2.2.2.2.2.2.2.2.2.2) s_6 x2 x3 (x4 + (1 : Int32)) else some (.inl ("java/lang/IllegalArgumentException", ((L.1, L.2.1, L.2.2.1, L.2.2.2.1, L.2.2.2.2.1, L.2.2.2.2.2.1, (upd L.2.2.2.2.2.2.1 (x4).toNatClampNeg v_5), L.2.2.2.2.2.2.2.1, L.2.2.2.2.2.2.2.2.1, L.2.2.2.2.2.2.2.2.2.1, L.2.2.2.2.2.2.2.2.2.2.1, L.2.2.2.2.2.2.2.2.2.2.2), s_6))))))))
def fX2_readMap (L : S2) (S : S4) (p2 : Int32) : Option ((String × (S2 × S4)) ⊕ (Unit × (S2 × S4))) := fX2_readMap_10 xF L S p2 (L.2.2.2.2.2.2.2.2.1 * (4 : Int32)) (0 : Int32)
set_option maxHeartbeats 4000000 in
set_option maxRecDepth 100000 in
theorem kX2_readMap_10 {p : Program} {l : Launch} {e : Env} {s : State} {m : MethodId} {args : Array Value} {below : List Frame} {meth : Method} {c : Code} {D : va_G} {K : Nat → ClassId} {A : Nat → Prop} {aL : Nat → Nat} {aS : Nat → Nat} (C : xC p s m args meth c cX2_readMap 5 none yX2_readMap D K A []) (hlt : l.stackTraces = false) : ∀ fu : Nat, ∀ (L : S2) (S : S4) (x2 : Int32) (x3 : Int32) (x4 : Int32) (r : (String × (S2 × S4)) ⊕ (Unit × (S2 × S4))), fX2_readMap_10 fu L S x2 x3 x4 = some r → ∀ (H : Heap) (locs : List Loc) (ls : Array Slot), va_P D vwCl (w2 aL K L ++ w4 aS K S) H → va_D A (w2 aL K L ++ w4 aS K S) → va_S A s.heap H locs → lv_has ls 5 [(0, .ref (aL 0)), (1, .ref (aS 0)), (2, .int x2), (3, .int x3), (4, .int x4)] → W p l e (xR 7 113 (oX2_readMap aL aS K r)) s m args below meth c H locs 0 0 (xQ below args s D K A (oX2_readMap aL aS K r)) (F0 m 10 ls []) := by
  obtain ⟨hx, hb, hr, hml, hown, hK, hts, hA, hG, hlk, hte, hnm⟩ := id C
  intro fu
  induction fu with
  | zero =>
    intro L S x2 x3 x4 r h
    exact nomatch (show (none : Option ((String × (S2 × S4)) ⊕ (Unit × (S2 × S4)))) = some r from h)
  | succ fu ih =>
    intro L S x2 x3 x4 r h H locs ls hP hD hS hl
    replace h : (if x3 ≤ x4 then xbnd (fX4_readNumber S (1 : Int32)) (fun E9 s_2 => .inl (E9, (L, s_2))) (fun v_1 s_2 => (if v_1 = (1 : Int32) then xbnd0 (fX2_replacePlaces L x3) (fun v_3 s_4 => some (.inr ((), (s_4, s_2)))) else some (.inr ((), (L, s_2))))) else xbnd (fX4_readNumber S (2 : Int32)) (fun E9 s_6 => .inl (E9, (L, s_6))) (fun v_5 s_6 => (if x4 < 0 ∨ 12 ≤ (x4).toNatClampNeg then none else (if x4 < 0 ∨ 12 ≤ (x4).toNatClampNeg then none else (if ((upd L.2.2.2.2.2.2.1 (x4).toNatClampNeg v_5) (x4).toNatClampNeg) < x2 then fX2_readMap_10 fu (L.1, L.2.1, L.2.2.1, L.2.2.2.1, L.2.2.2.2.1, L.2.2.2.2.2.1, (upd L.2.2.2.2.2.2.1 (x4).toNatClampNeg v_5), L.2.2.2.2.2.2.2.1, L.2.2.2.2.2.2.2.2.1, L.2.2.2.2.2.2.2.2.2.1, L.2.2.2.2.2.2.2.2.2.2.1, L.2.2.2.2.2.2.2.2.2.2.2) s_6 x2 x3 (x4 + (1 : Int32)) else some (.inl ("java/lang/IllegalArgumentException", ((L.1, L.2.1, L.2.2.1, L.2.2.2.1, L.2.2.2.2.1, L.2.2.2.2.2.1, (upd L.2.2.2.2.2.2.1 (x4).toNatClampNeg v_5), L.2.2.2.2.2.2.2.1, L.2.2.2.2.2.2.2.2.1, L.2.2.2.2.2.2.2.2.2.1, L.2.2.2.2.2.2.2.2.2.2.1, L.2.2.2.2.2.2.2.2.2.2.2), s_6)))))))) = some r := h
    refine lv_iload hx hb dX2_readMap_10 (lv_at hl 4 rfl) ?_
    refine lv_iload_n hx hb dX2_readMap_12 rfl (lv_at hl 3 rfl) ?_
    refine lv_icmp_ge (tgt := 55) hx hb dX2_readMap_13 (by decide) (fun c9 => ?_) (fun c9 => ?_)
    · replace h := xi_t c9 h
      refine lv_aload_n hx hb dX2_readMap_55 rfl (lv_at hl 1 rfl) ?_
      refine lv_iconst (v := (1 : Int32)) hx hb dX2_readMap_56 (by decide) ?_
      rcases xi_c h with ⟨E9, s_2, hc9, rfl⟩ | ⟨v_1, s_2, hc9, h⟩
      · exact xc_Vt (As := [.int (1 : Int32)]) (ws' := w2 aL K L ++ w4 aS K s_2) C (mX4_readNumber l hlt D K aS _ _ _ _ hc9) xgi_X2_30 xd_X4_readNumber ⟨Nat.le_of_ble_eq_true rfl, Nat.le_of_ble_eq_true rfl⟩ ⟨Nat.le_refl _, Nat.le_refl _⟩ hl rfl (Nat.le_of_ble_eq_true rfl) dX2_readMap_57 hP hD hS 25 4 rfl rfl rfl [25, 26] rfl rfl [(25, w4 aS K s_2)] rfl rfl rfl (List.forall_mem_cons.mpr ⟨Nat.le_of_ble_eq_true rfl, (fun _ h => absurd h List.not_mem_nil)⟩)
      · refine xc_V (As := [.int (1 : Int32)]) (ws' := w2 aL K L ++ w4 aS K s_2) C (mX4_readNumber l hlt D K aS _ _ _ _ hc9) xgi_X2_30 xd_X4_readNumber ⟨Nat.le_of_ble_eq_true rfl, Nat.le_of_ble_eq_true rfl⟩ ⟨Nat.zero_le _, Nat.zero_le _⟩ hl rfl (Nat.le_of_ble_eq_true rfl) dX2_readMap_57 hP hD hS 25 4 rfl rfl rfl [25, 26] rfl rfl [(25, w4 aS K s_2)] rfl rfl rfl (List.forall_mem_cons.mpr ⟨Nat.le_of_ble_eq_true rfl, (fun _ h => absurd h List.not_mem_nil)⟩) (fun H locs hP hD hS => ?_)
        refine W.eq (g2 := F0 m 60 ls [.int v_1]) rfl ?_
        refine lv_iconst (v := (1 : Int32)) hx hb dX2_readMap_60 (by decide) ?_
        refine lv_icmp_ne (tgt := 69) hx hb dX2_readMap_61 (by decide) (fun c9 => ?_) (fun c9 => ?_)
        · replace h := xi_f c9 h
          obtain rfl := Option.some.inj h
          exact xe_v C hP hD hS dX2_readMap_69
        · replace h := xi_t c9 h
          refine lv_aload_n hx hb dX2_readMap_64 rfl (lv_at hl 0 rfl) ?_
          refine lv_iload_n hx hb dX2_readMap_65 rfl (lv_at hl 3 rfl) ?_
          obtain ⟨v_3, s_4, hc9, h⟩ := xi_d h
          refine xc_V (As := [.int x3]) (ws' := w2 aL K s_4 ++ w4 aS K s_2) C (mX2_replacePlaces l D K aL _ _ _ _ hc9) xgi_X2_79 xd_X2_replacePlaces ⟨Nat.le_of_ble_eq_true rfl, Nat.le_of_ble_eq_true rfl⟩ ⟨Nat.zero_le _, Nat.zero_le _⟩ hl rfl (Nat.le_of_ble_eq_true rfl) dX2_readMap_66 hP hD hS 0 2 rfl rfl rfl [0, 1, 2, 3, 4, 5, 6, 7, 8, 9, 10, 11, 12, 13, 14, 15, 16, 17, 18, 19, 20, 21, 22, 23, 24] rfl rfl [(0, w2 aL K s_4)] rfl rfl rfl (List.forall_mem_cons.mpr ⟨Nat.le_of_ble_eq_true rfl, (fun _ h => absurd h List.not_mem_nil)⟩) (fun H locs hP hD hS => ?_)
          refine W.eq (g2 := F0 m 69 ls []) rfl ?_
          obtain rfl := Option.some.inj h
          exact xe_v C hP hD hS dX2_readMap_69
    · replace h := xi_f c9 h
      refine lv_aload_n hx hb dX2_readMap_16 rfl (lv_at hl 0 rfl) ?_
      refine va_get (D := D) (ci := 2) (v := .ref (aL 23)) (C := RX2) (T := TX2) (N := 9) hx hb hts xu_X2 hown hK hP 0 rfl rfl 3 (by decide) (hts _ xw_110) (fun _ h9 => h9) rfl dX2_readMap_17 ?_
      refine lv_iload hx hb dX2_readMap_20 (lv_at hl 4 rfl) ?_
      refine lv_aload_n hx hb dX2_readMap_22 rfl (lv_at hl 1 rfl) ?_
      refine lv_iconst (v := (2 : Int32)) hx hb dX2_readMap_23 (by decide) ?_
      rcases xi_c h with ⟨E9, s_6, hc9, rfl⟩ | ⟨v_5, s_6, hc9, h⟩
      · exact xc_Vt (As := [.int (2 : Int32)]) (ws' := w2 aL K L ++ w4 aS K s_6) C (mX4_readNumber l hlt D K aS _ _ _ _ hc9) xgi_X2_30 xd_X4_readNumber ⟨Nat.le_of_ble_eq_true rfl, Nat.le_of_ble_eq_true rfl⟩ ⟨Nat.le_refl _, Nat.le_refl _⟩ hl rfl (Nat.le_of_ble_eq_true rfl) dX2_readMap_24 hP hD hS 25 4 rfl rfl rfl [25, 26] rfl rfl [(25, w4 aS K s_6)] rfl rfl rfl (List.forall_mem_cons.mpr ⟨Nat.le_of_ble_eq_true rfl, (fun _ h => absurd h List.not_mem_nil)⟩)
      · refine xc_V (As := [.int (2 : Int32)]) (ws' := w2 aL K L ++ w4 aS K s_6) C (mX4_readNumber l hlt D K aS _ _ _ _ hc9) xgi_X2_30 xd_X4_readNumber ⟨Nat.le_of_ble_eq_true rfl, Nat.le_of_ble_eq_true rfl⟩ ⟨Nat.zero_le _, Nat.zero_le _⟩ hl rfl (Nat.le_of_ble_eq_true rfl) dX2_readMap_24 hP hD hS 25 4 rfl rfl rfl [25, 26] rfl rfl [(25, w4 aS K s_6)] rfl rfl rfl (List.forall_mem_cons.mpr ⟨Nat.le_of_ble_eq_true rfl, (fun _ h => absurd h List.not_mem_nil)⟩) (fun H locs hP hD hS => ?_)
        refine W.eq (g2 := F0 m 27 ls [.int v_5, .int x4, .ref (aL 23)]) rfl ?_
        obtain ⟨hi9, h⟩ := xi_g h
        refine va_iast hx hb hK hP hD hS 23 0 rfl rfl hi9 dX2_readMap_27 (fun H locs hP hD hS => ?_)
        have hP : va_P D vwCl (w2 aL K (L.1, L.2.1, L.2.2.1, L.2.2.2.1, L.2.2.2.2.1, L.2.2.2.2.2.1, (upd L.2.2.2.2.2.2.1 (x4).toNatClampNeg v_5), L.2.2.2.2.2.2.2.1, L.2.2.2.2.2.2.2.2.1, L.2.2.2.2.2.2.2.2.2.1, L.2.2.2.2.2.2.2.2.2.2.1, L.2.2.2.2.2.2.2.2.2.2.2) ++ w4 aS K s_6) H := hP
        have hD : va_D A (w2 aL K (L.1, L.2.1, L.2.2.1, L.2.2.2.1, L.2.2.2.2.1, L.2.2.2.2.2.1, (upd L.2.2.2.2.2.2.1 (x4).toNatClampNeg v_5), L.2.2.2.2.2.2.2.1, L.2.2.2.2.2.2.2.2.1, L.2.2.2.2.2.2.2.2.2.1, L.2.2.2.2.2.2.2.2.2.2.1, L.2.2.2.2.2.2.2.2.2.2.2) ++ w4 aS K s_6) := hD
        refine lv_aload_n hx hb dX2_readMap_28 rfl (lv_at hl 0 rfl) ?_
        refine va_get (D := D) (ci := 2) (v := .ref (aL 23)) (C := RX2) (T := TX2) (N := 9) hx hb hts xu_X2 hown hK hP 0 rfl rfl 3 (by decide) (hts _ xw_110) (fun _ h9 => h9) rfl dX2_readMap_29 ?_
        refine lv_iload hx hb dX2_readMap_32 (lv_at hl 4 rfl) ?_
        obtain ⟨hi9, h⟩ := xi_g h
        refine va_iald hx hb hK hP 23 0 rfl rfl hi9 dX2_readMap_34 ?_
        refine lv_iload_n hx hb dX2_readMap_35 rfl (lv_at hl 2 rfl) ?_
        refine lv_icmp_lt (tgt := 49) hx hb dX2_readMap_36 (by decide) (fun c9 => ?_) (fun c9 => ?_)
        · replace h := xi_t c9 h
          refine lv_iinc (v := (x4 + (1 : Int32))) (lv' := [(4, .int (x4 + (1 : Int32))), (0, .ref (aL 0)), (1, .ref (aS 0)), (2, .int x2), (3, .int x3)]) hx hb dX2_readMap_49 hl (k := 4) rfl (by rfl) (by decide) rfl (fun ls hl => ?_)
          refine lv_goto (tgt := 10) hx hb dX2_readMap_52 (by decide) ?_
          exact ih _ _ _ _ _ _ h _ _ _ hP hD hS (lv_sub hl [1, 2, 3, 4, 0] rfl)
        · replace h := xi_f c9 h
          obtain rfl := Option.some.inj h
          exact xe_throw C hlt (text := "the map tells a code that is not there") xf_IllegalArgumentException xf_names xw_379 xw_44 (List.mem_of_getElem? (i := 11) rfl) xat_X2_44 xgd_X2_44 hl hP hD hS dX2_readMap_39 dX2_readMap_42 dX2_readMap_43 dX2_readMap_45 dX2_readMap_48 (Nat.le_of_ble_eq_true rfl) (Nat.le_of_ble_eq_true rfl)
set_option maxHeartbeats 4000000 in
set_option maxRecDepth 100000 in
theorem mX2_readMap (l : Launch) (hlt : l.stackTraces = false) (D : va_G) (K : Nat → ClassId) (aL : Nat → Nat) (aS : Nat → Nat) (sz : Nat) (L : S2) (S : S4) (p2 : Int32) (r : (String × (S2 × S4)) ⊕ (Unit × (S2 × S4))) (h : fX2_readMap L S p2 = some r) : xMet l yX2_readMap cX2_readMap 5 none 7 113 D K [.ref (aL 0), .ref (aS 0), .int p2] sz (w2 aL K L ++ w4 aS K S) (oX2_readMap aL aS K r) := by
  refine xm_of _ (by decide +kernel) (Nat.le_of_ble_eq_true rfl) (fun p e s m args below meth c A C hP hD ls hl => ?_)
  have hl : lv_has ls 5 [(0, .ref (aL 0)), (1, .ref (aS 0)), (2, .int p2)] := hl
  have hS : va_S A s.heap s.heap [] := va_S.rf
  obtain ⟨hx, hb, hr, hml, hown, hK, hts, hA, hG, hlk, hte, hnm⟩ := id C
  replace h : fX2_readMap_10 xF L S p2 (L.2.2.2.2.2.2.2.2.1 * (4 : Int32)) (0 : Int32) = some r := h
  refine lv_aload_n hx hb dX2_readMap_0 rfl (lv_at hl 0 rfl) ?_
  refine va_get (D := D) (ci := 2) (v := .int L.2.2.2.2.2.2.2.2.1) (C := RX2) (T := TX2) (N := 9) hx hb hts xu_X2 hown hK hP 0 rfl rfl 5 (by decide) (hts _ xw_112) (fun _ h9 => h9) rfl dX2_readMap_1 ?_
  refine lv_iconst (v := (4 : Int32)) hx hb dX2_readMap_4 (by decide) ?_
  refine lv_imul hx hb dX2_readMap_5 ?_
  refine lv_istore_n (lv' := [(3, .int (L.2.2.2.2.2.2.2.2.1 * (4 : Int32))), (0, .ref (aL 0)), (1, .ref (aS 0)), (2, .int p2)]) hx hb dX2_readMap_6 rfl hl (by decide) rfl (fun ls hl => ?_)
  refine lv_iconst (v := (0 : Int32)) hx hb dX2_readMap_7 (by decide) ?_
  refine lv_istore (lv' := [(4, .int (0 : Int32)), (3, .int (L.2.2.2.2.2.2.2.2.1 * (4 : Int32))), (0, .ref (aL 0)), (1, .ref (aS 0)), (2, .int p2)]) hx hb dX2_readMap_8 hl (by decide) rfl (fun ls hl => ?_)
  exact kX2_readMap_10 C hlt _ _ _ _ _ _ _ h _ _ _ hP hD hS (lv_sub hl [2, 3, 4, 1, 0] rfl)
