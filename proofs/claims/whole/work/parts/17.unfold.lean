abbrev oX5_unfold (aU : Nat → Nat) (aX : Nat → Nat) (aY : Nat → Nat) (K : Nat → ClassId) (r : (String × (S5 × S3 × S3)) ⊕ (Int32 × (S5 × S3 × S3))) : xO := match r with
  | .inl q => .inl (q.1, w5 aU aX aY K q.2.1 ++ (w3 aX K q.2.2.1 ++ w3 aY K q.2.2.2))
  | .inr q => .inr ((some (.int q.1)), w5 aU aY aX K q.2.1 ++ (w3 aX K q.2.2.1 ++ w3 aY K q.2.2.2))
def fX5_unfold_52 (U : S5) (X : S3) (Y : S3) : Option ((String × (S5 × S3 × S3)) ⊕ (Int32 × (S5 × S3 × S3))) := some (.inr (Y.2.2, (U, X, Y)))
def fX5_unfold_19 : Nat → S5 → S3 → S3 → Int32 → Int32 → Option ((String × (S5 × S3 × S3)) ⊕ (Int32 × (S5 × S3 × S3)))
  | 0 => fun _ _ _ _ _ => none
  | fu + 1 => fun U X Y x1 x2 => (if (401 : Int32) ≤ x2 then fX5_unfold_52 U X Y else (if x1 = 0 then xbnd (fX0_readBlock U.2 U.1 Y) (fun E9 s_4 => .inl (E9, ((s_4.2.1, s_4.1), X, s_4.2.2))) (fun v_3 s_4 => fX5_unfold_19 fu (s_4.2.1, s_4.1) X s_4.2.2 v_3 (x2 + (1 : Int32))) else fX5_unfold_52 U X Y))
def fX5_unfold (U : S5) (X : S3) (Y : S3) : Option ((String × (S5 × S3 × S3)) ⊕ (Int32 × (S5 × S3 × S3))) := xbnd0 (fX3_clear Y) (fun v_1 s_2 => fX5_unfold_19 xF ((U.1.1, U.1.2.1, (0 : Int32)), U.2) X s_2 (0 : Int32) (0 : Int32))
set_option maxHeartbeats 4000000 in
set_option maxRecDepth 100000 in
theorem kX5_unfold_52 {p : Program} {l : Launch} {e : Env} {s : State} {m : MethodId} {args : Array Value} {below : List Frame} {meth : Method} {c : Code} {D : va_G} {K : Nat → ClassId} {A : Nat → Prop} {aU : Nat → Nat} {aX : Nat → Nat} {aY : Nat → Nat} (C : xC p s m args meth c cX5_unfold 3 (some .int) yX5_unfold D K A []) (hlt : l.stackTraces = false) : ∀ (U : S5) (X : S3) (Y : S3) (r : (String × (S5 × S3 × S3)) ⊕ (Int32 × (S5 × S3 × S3))), fX5_unfold_52  U X Y = some r → ∀ (H : Heap) (locs : List Loc) (ls : Array Slot), va_P D vwCl (w5 aU aX aY K U ++ (w3 aX K X ++ w3 aY K Y)) H → va_D A (w5 aU aX aY K U ++ (w3 aX K X ++ w3 aY K Y)) → va_S A s.heap H locs → lv_has ls 3 [(0, .ref (aU 0))] → W p l e (xR 12 243 (oX5_unfold aU aX aY K r)) s m args below meth c H locs 0 0 (xQ below args s D K A (oX5_unfold aU aX aY K r)) (F0 m 52 ls []) := by
  obtain ⟨hx, hb, hr, hml, hown, hK, hts, hA, hG, hlk, hte, hnm⟩ := id C
  intro U X Y r h H locs ls hP hD hS hl
  replace h : some (.inr (Y.2.2, (U, X, Y))) = some r := h
  refine lv_aload_n hx hb dX5_unfold_52 rfl (lv_at hl 0 rfl) ?_
  refine va_get (D := D) (ci := 5) (v := .ref (aY 0)) (C := RX5) (T := TX5) (N := 4) hx hb hts xu_X5 hown hK hP 0 rfl rfl 3 (by decide) (hts _ xw_183) (fun _ h9 => h9) rfl dX5_unfold_53 ?_
  refine lv_astore_n (lv' := [(2, .ref (aY 0)), (0, .ref (aU 0))]) hx hb dX5_unfold_56 rfl hl (by decide) rfl (fun ls hl => ?_)
  refine lv_aload_n hx hb dX5_unfold_57 rfl (lv_at hl 1 rfl) ?_
  refine lv_aload_n hx hb dX5_unfold_58 rfl (lv_at hl 1 rfl) ?_
  refine va_get (D := D) (ci := 5) (v := .ref (aX 0)) (C := RX5) (T := TX5) (N := 4) hx hb hts xu_X5 hown hK hP 0 rfl rfl 2 (by decide) (hts _ xw_182) (fun _ h9 => h9) rfl dX5_unfold_59 ?_
  refine va_put (D := D) (ci := 5) (v := .ref (aX 0)) (ty := (.object "ContextUnfolder$Output")) (C := RX5) (T := TX5) (N := 4) hx hb hts xu_X5 tyX5 tyX5_ok nmX5 hown hK hP hD hS 0 rfl rfl 3 (by decide) (hts _ xw_183) (fun _ h9 => h9) rfl (by decide +kernel) rfl rfl (Nat.le_of_ble_eq_true rfl) dX5_unfold_62 (fun H locs hP hD hS => ?_)
  have hP : va_P D vwCl (w5 aU aX aX K U ++ (w3 aX K X ++ w3 aY K Y)) H := hP
  have hD : va_D A (w5 aU aX aX K U ++ (w3 aX K X ++ w3 aY K Y)) := hD
  refine lv_aload_n hx hb dX5_unfold_65 rfl (lv_at hl 1 rfl) ?_
  refine lv_aload_n hx hb dX5_unfold_66 rfl (lv_at hl 0 rfl) ?_
  refine va_put (D := D) (ci := 5) (v := .ref (aY 0)) (ty := (.object "ContextUnfolder$Output")) (C := RX5) (T := TX5) (N := 4) hx hb hts xu_X5 tyX5 tyX5_ok nmX5 hown hK hP hD hS 0 rfl rfl 2 (by decide) (hts _ xw_182) (fun _ h9 => h9) rfl (by decide +kernel) rfl rfl (Nat.le_of_ble_eq_true rfl) dX5_unfold_67 (fun H locs hP hD hS => ?_)
  have hP : va_P D vwCl (w5 aU aY aX K U ++ (w3 aX K X ++ w3 aY K Y)) H := hP
  have hD : va_D A (w5 aU aY aX K U ++ (w3 aX K X ++ w3 aY K Y)) := hD
  refine lv_aload_n hx hb dX5_unfold_70 rfl (lv_at hl 1 rfl) ?_
  refine va_get (D := D) (ci := 5) (v := .ref (aY 0)) (C := RX5) (T := TX5) (N := 4) hx hb hts xu_X5 hown hK hP 0 rfl rfl 2 (by decide) (hts _ xw_182) (fun _ h9 => h9) rfl dX5_unfold_71 ?_
  refine va_getN (D := D) (ci := 3) (v := .int Y.2.2) (C := RX3) (T := TX3) (N := 3) hx hb hts xu_X3 hown hK hP 40 rfl rfl 2 (by decide) (hts _ xw_172) (fun _ h9 => h9) rfl dX5_unfold_74 ?_
  obtain rfl := Option.some.inj h
  exact xe_i C hP hD hS dX5_unfold_77
set_option maxHeartbeats 4000000 in
set_option maxRecDepth 100000 in
theorem kX5_unfold_19 {p : Program} {l : Launch} {e : Env} {s : State} {m : MethodId} {args : Array Value} {below : List Frame} {meth : Method} {c : Code} {D : va_G} {K : Nat → ClassId} {A : Nat → Prop} {aU : Nat → Nat} {aX : Nat → Nat} {aY : Nat → Nat} (C : xC p s m args meth c cX5_unfold 3 (some .int) yX5_unfold D K A []) (hlt : l.stackTraces = false) : ∀ fu : Nat, ∀ (U : S5) (X : S3) (Y : S3) (x1 : Int32) (x2 : Int32) (r : (String × (S5 × S3 × S3)) ⊕ (Int32 × (S5 × S3 × S3))), fX5_unfold_19 fu U X Y x1 x2 = some r → ∀ (H : Heap) (locs : List Loc) (ls : Array Slot), va_P D vwCl (w5 aU aX aY K U ++ (w3 aX K X ++ w3 aY K Y)) H → va_D A (w5 aU aX aY K U ++ (w3 aX K X ++ w3 aY K Y)) → va_S A s.heap H locs → lv_has ls 3 [(0, .ref (aU 0)), (1, .int x1), (2, .int x2)] → W p l e (xR 12 243 (oX5_unfold aU aX aY K r)) s m args below meth c H locs 0 0 (xQ below args s D K A (oX5_unfold aU aX aY K r)) (F0 m 19 ls []) := by
  obtain ⟨hx, hb, hr, hml, hown, hK, hts, hA, hG, hlk, hte, hnm⟩ := id C
  intro fu
  induction fu with
  | zero =>
    intro U X Y x1 x2 r h
    exact nomatch (show (none : Option ((String × (S5 × S3 × S3)) ⊕ (Int32 × (S5 × S3 × S3)))) = some r from h)
  | succ fu ih =>
    intro U X Y x1 x2 r h H locs ls hP hD hS hl
    replace h : (if (401 : Int32) ≤ x2 then fX5_unfold_52 U X Y else (if x1 = 0 then xbnd (fX0_readBlock U.2 U.1 Y) (fun E9 s_4 => .inl (E9, ((s_4.2.1, s_4.1), X, s_4.2.2))) (fun v_3 s_4 => fX5_unfold_19 fu (s_4.2.1, s_4.1) X s_4.2.2 v_3 (x2 + (1 : Int32))) else fX5_unfold_52 U X Y)) = some r := h
    refine lv_iload_n hx hb dX5_unfold_19 rfl (lv_at hl 2 rfl) ?_
    refine lv_sipush (v := (401 : Int32)) hx hb dX5_unfold_20 (by decide) ?_
    refine lv_icmp_ge (tgt := 52) hx hb dX5_unfold_23 (by decide) (fun c9 => ?_) (fun c9 => ?_)
    · replace h := xi_t c9 h
      exact kX5_unfold_52 C hlt _ _ _ _ h _ _ _ hP hD hS (lv_sub hl [0] rfl)
    · replace h := xi_f c9 h
      refine lv_iload_n hx hb dX5_unfold_26 rfl (lv_at hl 1 rfl) ?_
      refine lv_if_ne (tgt := 52) hx hb dX5_unfold_27 (by decide) (fun c9 => ?_) (fun c9 => ?_)
      · replace h := xi_f c9 h
        exact kX5_unfold_52 C hlt _ _ _ _ h _ _ _ hP hD hS (lv_sub hl [0] rfl)
      · replace h := xi_t c9 h
        refine lv_aload_n hx hb dX5_unfold_30 rfl (lv_at hl 0 rfl) ?_
        refine va_get (D := D) (ci := 5) (v := .ref (aU 3)) (C := RX5) (T := TX5) (N := 4) hx hb hts xu_X5 hown hK hP 0 rfl rfl 1 (by decide) (hts _ xw_181) (fun _ h9 => h9) rfl dX5_unfold_31 ?_
        refine lv_aload_n hx hb dX5_unfold_34 rfl (lv_at hl 0 rfl) ?_
        refine va_get (D := D) (ci := 5) (v := .ref (aU 1)) (C := RX5) (T := TX5) (N := 4) hx hb hts xu_X5 hown hK hP 0 rfl rfl 0 (by decide) (hts _ xw_180) (fun _ h9 => h9) rfl dX5_unfold_35 ?_
        refine lv_aload_n hx hb dX5_unfold_38 rfl (lv_at hl 0 rfl) ?_
        refine va_get (D := D) (ci := 5) (v := .ref (aY 0)) (C := RX5) (T := TX5) (N := 4) hx hb hts xu_X5 hown hK hP 0 rfl rfl 3 (by decide) (hts _ xw_183) (fun _ h9 => h9) rfl dX5_unfold_39 ?_
        rcases xi_c h with ⟨E9, s_4, hc9, rfl⟩ | ⟨v_3, s_4, hc9, h⟩
        · exact xc_Vt (As := [.ref (aU 1), .ref (aY 0)]) (ws' := w5 aU aX aY K (s_4.2.1, s_4.1) ++ (w3 aX K X ++ w3 aY K s_4.2.2)) C (mX0_readBlock l hlt D K (fun i => aU (i + 3)) (fun i => aU (i + 1)) aY _ _ _ _ _ hc9) xgi_X5_72 xd_X0_readBlock ⟨Nat.le_of_ble_eq_true rfl, Nat.le_of_ble_eq_true rfl⟩ ⟨Nat.le_refl _, Nat.le_refl _⟩ hl rfl (Nat.le_of_ble_eq_true rfl) dX5_unfold_42 hP hD hS 3 0 rfl rfl rfl [3, 4, 5, 6, 7, 8, 9, 10, 11, 12, 13, 14, 15, 16, 17, 18, 19, 20, 21, 22, 23, 24, 25, 26, 27, 28, 29, 30, 31, 32, 33, 34, 35, 36, 1, 2, 40, 41, 42] rfl rfl [(3, w0 (fun i => aU (i + 3)) K s_4.1), (1, w4 (fun i => aU (i + 1)) K s_4.2.1), (40, w3 aY K s_4.2.2)] rfl rfl rfl (List.forall_mem_cons.mpr ⟨Nat.le_of_ble_eq_true rfl, (List.forall_mem_cons.mpr ⟨Nat.le_of_ble_eq_true rfl, (List.forall_mem_cons.mpr ⟨Nat.le_of_ble_eq_true rfl, (fun _ h => absurd h List.not_mem_nil)⟩)⟩)⟩)
        · refine xc_V (As := [.ref (aU 1), .ref (aY 0)]) (ws' := w5 aU aX aY K (s_4.2.1, s_4.1) ++ (w3 aX K X ++ w3 aY K s_4.2.2)) C (mX0_readBlock l hlt D K (fun i => aU (i + 3)) (fun i => aU (i + 1)) aY _ _ _ _ _ hc9) xgi_X5_72 xd_X0_readBlock ⟨Nat.le_of_ble_eq_true rfl, Nat.le_of_ble_eq_true rfl⟩ ⟨Nat.zero_le _, Nat.zero_le _⟩ hl rfl (Nat.le_of_ble_eq_true rfl) dX5_unfold_42 hP hD hS 3 0 rfl rfl rfl [3, 4, 5, 6, 7, 8, 9, 10, 11, 12, 13, 14, 15, 16, 17, 18, 19, 20, 21, 22, 23, 24, 25, 26, 27, 28, 29, 30, 31, 32, 33, 34, 35, 36, 1, 2, 40, 41, 42] rfl rfl [(3, w0 (fun i => aU (i + 3)) K s_4.1), (1, w4 (fun i => aU (i + 1)) K s_4.2.1), (40, w3 aY K s_4.2.2)] rfl rfl rfl (List.forall_mem_cons.mpr ⟨Nat.le_of_ble_eq_true rfl, (List.forall_mem_cons.mpr ⟨Nat.le_of_ble_eq_true rfl, (List.forall_mem_cons.mpr ⟨Nat.le_of_ble_eq_true rfl, (fun _ h => absurd h List.not_mem_nil)⟩)⟩)⟩) (fun H locs hP hD hS => ?_)
          refine W.eq (g2 := F0 m 45 ls [.int v_3]) rfl ?_
          refine lv_istore_n (lv' := [(1, .int v_3), (0, .ref (aU 0)), (2, .int x2)]) hx hb dX5_unfold_45 rfl hl (by decide) rfl (fun ls hl => ?_)
          refine lv_iinc (v := (x2 + (1 : Int32))) (lv' := [(2, .int (x2 + (1 : Int32))), (1, .int v_3), (0, .ref (aU 0))]) hx hb dX5_unfold_46 hl (k := 2) rfl (by rfl) (by decide) rfl (fun ls hl => ?_)
          refine lv_goto (tgt := 19) hx hb dX5_unfold_49 (by decide) ?_
          exact ih _ _ _ _ _ _ h _ _ _ hP hD hS (lv_sub hl [2, 1, 0] rfl)
set_option maxHeartbeats 4000000 in
set_option maxRecDepth 100000 in
theorem mX5_unfold (l : Launch) (hlt : l.stackTraces = false) (D : va_G) (K : Nat → ClassId) (aU : Nat → Nat) (aX : Nat → Nat) (aY : Nat → Nat) (sz : Nat) (U : S5) (X : S3) (Y : S3) (r : (String × (S5 × S3 × S3)) ⊕ (Int32 × (S5 × S3 × S3))) (h : fX5_unfold U X Y = some r) : xMet l yX5_unfold cX5_unfold 3 (some .int) 12 243 D K [.ref (aU 0)] sz (w5 aU aX aY K U ++ (w3 aX K X ++ w3 aY K Y)) (oX5_unfold aU aX aY K r) := by
  refine xm_of _ (by decide +kernel) (Nat.le_of_ble_eq_true rfl) (fun p e s m args below meth c A C hP hD ls hl => ?_)
  have hl : lv_has ls 3 [(0, .ref (aU 0))] := hl
  have hS : va_S A s.heap s.heap [] := va_S.rf
  obtain ⟨hx, hb, hr, hml, hown, hK, hts, hA, hG, hlk, hte, hnm⟩ := id C
  replace h : xbnd0 (fX3_clear Y) (fun v_1 s_2 => fX5_unfold_19 xF ((U.1.1, U.1.2.1, (0 : Int32)), U.2) X s_2 (0 : Int32) (0 : Int32)) = some r := h
  refine lv_aload_n hx hb dX5_unfold_0 rfl (lv_at hl 0 rfl) ?_
  refine va_get (D := D) (ci := 5) (v := .ref (aU 1)) (C := RX5) (T := TX5) (N := 4) hx hb hts xu_X5 hown hK hP 0 rfl rfl 0 (by decide) (hts _ xw_180) (fun _ h9 => h9) rfl dX5_unfold_1 ?_
  refine lv_iconst (v := (0 : Int32)) hx hb dX5_unfold_4 (by decide) ?_
  refine va_putN (D := D) (ci := 4) (v := .int (0 : Int32)) (ty := .int) (C := RX4) (T := TX4) (N := 3) hx hb hts xu_X4 tyX4 tyX4_ok nmX4 hown hK hP hD hS 1 rfl rfl 2 (by decide) (hts _ xw_68) (fun _ h9 => h9) rfl (by decide +kernel) rfl rfl (Nat.le_of_ble_eq_true rfl) dX5_unfold_5 (fun H locs hP hD hS => ?_)
  have hP : va_P D vwCl (w5 aU aX aY K ((U.1.1, U.1.2.1, (0 : Int32)), U.2) ++ (w3 aX K X ++ w3 aY K Y)) H := hP
  have hD : va_D A (w5 aU aX aY K ((U.1.1, U.1.2.1, (0 : Int32)), U.2) ++ (w3 aX K X ++ w3 aY K Y)) := hD
  refine lv_aload_n hx hb dX5_unfold_8 rfl (lv_at hl 0 rfl) ?_
  refine va_get (D := D) (ci := 5) (v := .ref (aY 0)) (C := RX5) (T := TX5) (N := 4) hx hb hts xu_X5 hown hK hP 0 rfl rfl 3 (by decide) (hts _ xw_183) (fun _ h9 => h9) rfl dX5_unfold_9 ?_
  obtain ⟨v_1, s_2, hc9, h⟩ := xi_d h
  refine xc_V (As := []) (ws' := w5 aU aX aY K ((U.1.1, U.1.2.1, (0 : Int32)), U.2) ++ (w3 aX K X ++ w3 aY K s_2)) C (mX3_clear l D K aY _ _ _ hc9) xgi_X5_69 xd_X3_clear ⟨Nat.le_of_ble_eq_true rfl, Nat.le_of_ble_eq_true rfl⟩ ⟨Nat.zero_le _, Nat.zero_le _⟩ hl rfl (Nat.le_of_ble_eq_true rfl) dX5_unfold_12 hP hD hS 40 3 rfl rfl rfl [40, 41, 42] rfl rfl [(40, w3 aY K s_2)] rfl rfl rfl (List.forall_mem_cons.mpr ⟨Nat.le_of_ble_eq_true rfl, (fun _ h => absurd h List.not_mem_nil)⟩) (fun H locs hP hD hS => ?_)
  refine W.eq (g2 := F0 m 15 ls []) rfl ?_
  refine lv_iconst (v := (0 : Int32)) hx hb dX5_unfold_15 (by decide) ?_
  refine lv_istore_n (lv' := [(1, .int (0 : Int32)), (0, .ref (aU 0))]) hx hb dX5_unfold_16 rfl hl (by decide) rfl (fun ls hl => ?_)
  refine lv_iconst (v := (0 : Int32)) hx hb dX5_unfold_17 (by decide) ?_
  refine lv_istore_n (lv' := [(2, .int (0 : Int32)), (1, .int (0 : Int32)), (0, .ref (aU 0))]) hx hb dX5_unfold_18 rfl hl (by decide) rfl (fun ls hl => ?_)
  exact kX5_unfold_19 C hlt _ _ _ _ _ _ _ h _ _ _ hP hD hS (lv_sub hl [2, 1, 0] rfl)
