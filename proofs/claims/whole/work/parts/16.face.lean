abbrev oX5_put (aU : Nat → Nat) (aX : Nat → Nat) (aY : Nat → Nat) (K : Nat → ClassId) (r : (String × (S5 × S3 × S3)) ⊕ (Int32 × (S5 × S3 × S3))) : xO := match r with
  | .inl q => .inl (q.1, w5 aU aX aY K q.2.1 ++ (w3 aX K q.2.2.1 ++ w3 aY K q.2.2.2))
  | .inr q => .inr ((some (.int q.1)), w5 aU aX aY K q.2.1 ++ (w3 aX K q.2.2.1 ++ w3 aY K q.2.2.2))
def fX5_put_30 (U : S5) (X : S3) (Y : S3) : Option ((String × (S5 × S3 × S3)) ⊕ (Int32 × (S5 × S3 × S3))) := some (.inl ("java/lang/IllegalArgumentException", (U, X, Y)))
def fX5_put_10 (U : S5) (X : S3) (Y : S3) : Option ((String × (S5 × S3 × S3)) ⊕ (Int32 × (S5 × S3 × S3))) := some (.inl ("java/lang/IllegalArgumentException", (U, X, Y)))
def fX5_put (U : S5) (X : S3) (Y : S3) (p1 : Int32) (p2 : Int32) : Option ((String × (S5 × S3 × S3)) ⊕ (Int32 × (S5 × S3 × S3))) := (if p2 < 0 then fX5_put_10 U X Y else (if p2 ≤ (24 : Int32) then (if p1 < 0 then fX5_put_30 U X Y else (if (p1 >>> (p2 &&& 31)) = 0 then (if p2 ≤ ((2000 : Int32) - U.1.2.1) then xbnd0 (fX4_append U.1 p1 p2) (fun v_1 s_2 => some (.inr (s_2.2.1, ((s_2, U.2), X, Y)))) else some (.inl ("java/lang/IllegalStateException", (U, X, Y)))) else fX5_put_30 U X Y)) else fX5_put_10 U X Y))
set_option maxHeartbeats 4000000 in
set_option maxRecDepth 100000 in
theorem kX5_put_30 {p : Program} {l : Launch} {e : Env} {s : State} {m : MethodId} {args : Array Value} {below : List Frame} {meth : Method} {c : Code} {D : va_G} {K : Nat → ClassId} {A : Nat → Prop} {aU : Nat → Nat} {aX : Nat → Nat} {aY : Nat → Nat} (C : xC p s m args meth c cX5_put 3 (some .int) yX5_put D K A []) (hlt : l.stackTraces = false) : ∀ (U : S5) (X : S3) (Y : S3) (r : (String × (S5 × S3 × S3)) ⊕ (Int32 × (S5 × S3 × S3))), fX5_put_30  U X Y = some r → ∀ (H : Heap) (locs : List Loc) (ls : Array Slot), va_P D vwCl (w5 aU aX aY K U ++ (w3 aX K X ++ w3 aY K Y)) H → va_D A (w5 aU aX aY K U ++ (w3 aX K X ++ w3 aY K Y)) → va_S A s.heap H locs → lv_has ls 3 [] → W p l e (xR 6 90 (oX5_put aU aX aY K r)) s m args below meth c H locs 0 0 (xQ below args s D K A (oX5_put aU aX aY K r)) (F0 m 30 ls []) := by
  obtain ⟨hx, hb, hr, hml, hown, hK, hts, hA, hG, hlk, hte, hnm⟩ := id C
  intro U X Y r h H locs ls hP hD hS hl
  replace h : some (.inl ("java/lang/IllegalArgumentException", (U, X, Y))) = some r := h
  obtain rfl := Option.some.inj h
  exact xe_throw C hlt (text := "v is not a number of n bits") xf_IllegalArgumentException xf_names xw_206 xw_44 (List.mem_of_getElem? (i := 1) rfl) xat_X5_37 xgd_X5_37 hl hP hD hS dX5_put_30 dX5_put_33 dX5_put_34 dX5_put_36 dX5_put_39 (Nat.le_of_ble_eq_true rfl) (Nat.le_of_ble_eq_true rfl)
set_option maxHeartbeats 4000000 in
set_option maxRecDepth 100000 in
theorem kX5_put_10 {p : Program} {l : Launch} {e : Env} {s : State} {m : MethodId} {args : Array Value} {below : List Frame} {meth : Method} {c : Code} {D : va_G} {K : Nat → ClassId} {A : Nat → Prop} {aU : Nat → Nat} {aX : Nat → Nat} {aY : Nat → Nat} (C : xC p s m args meth c cX5_put 3 (some .int) yX5_put D K A []) (hlt : l.stackTraces = false) : ∀ (U : S5) (X : S3) (Y : S3) (r : (String × (S5 × S3 × S3)) ⊕ (Int32 × (S5 × S3 × S3))), fX5_put_10  U X Y = some r → ∀ (H : Heap) (locs : List Loc) (ls : Array Slot), va_P D vwCl (w5 aU aX aY K U ++ (w3 aX K X ++ w3 aY K Y)) H → va_D A (w5 aU aX aY K U ++ (w3 aX K X ++ w3 aY K Y)) → va_S A s.heap H locs → lv_has ls 3 [] → W p l e (xR 6 90 (oX5_put aU aX aY K r)) s m args below meth c H locs 0 0 (xQ below args s D K A (oX5_put aU aX aY K r)) (F0 m 10 ls []) := by
  obtain ⟨hx, hb, hr, hml, hown, hK, hts, hA, hG, hlk, hte, hnm⟩ := id C
  intro U X Y r h H locs ls hP hD hS hl
  replace h : some (.inl ("java/lang/IllegalArgumentException", (U, X, Y))) = some r := h
  obtain rfl := Option.some.inj h
  exact xe_throw C hlt (text := "n is not 0 .. 24") xf_IllegalArgumentException xf_names xw_206 xw_44 (List.mem_of_getElem? (i := 0) rfl) xat_X5_37 xgd_X5_37 hl hP hD hS dX5_put_10 dX5_put_13 dX5_put_14 dX5_put_16 dX5_put_19 (Nat.le_of_ble_eq_true rfl) (Nat.le_of_ble_eq_true rfl)
set_option maxHeartbeats 4000000 in
set_option maxRecDepth 100000 in
theorem mX5_put (l : Launch) (hlt : l.stackTraces = false) (D : va_G) (K : Nat → ClassId) (aU : Nat → Nat) (aX : Nat → Nat) (aY : Nat → Nat) (sz : Nat) (U : S5) (X : S3) (Y : S3) (p1 : Int32) (p2 : Int32) (r : (String × (S5 × S3 × S3)) ⊕ (Int32 × (S5 × S3 × S3))) (h : fX5_put U X Y p1 p2 = some r) : xMet l yX5_put cX5_put 3 (some .int) 6 90 D K [.ref (aU 0), .int p1, .int p2] sz (w5 aU aX aY K U ++ (w3 aX K X ++ w3 aY K Y)) (oX5_put aU aX aY K r) := by
  refine xm_of _ (by decide +kernel) (Nat.le_of_ble_eq_true rfl) (fun p e s m args below meth c A C hP hD ls hl => ?_)
  have hl : lv_has ls 3 [(0, .ref (aU 0)), (1, .int p1), (2, .int p2)] := hl
  have hS : va_S A s.heap s.heap [] := va_S.rf
  obtain ⟨hx, hb, hr, hml, hown, hK, hts, hA, hG, hlk, hte, hnm⟩ := id C
  replace h : (if p2 < 0 then fX5_put_10 U X Y else (if p2 ≤ (24 : Int32) then (if p1 < 0 then fX5_put_30 U X Y else (if (p1 >>> (p2 &&& 31)) = 0 then (if p2 ≤ ((2000 : Int32) - U.1.2.1) then xbnd0 (fX4_append U.1 p1 p2) (fun v_1 s_2 => some (.inr (s_2.2.1, ((s_2, U.2), X, Y)))) else some (.inl ("java/lang/IllegalStateException", (U, X, Y)))) else fX5_put_30 U X Y)) else fX5_put_10 U X Y)) = some r := h
  refine lv_iload_n hx hb dX5_put_0 rfl (lv_at hl 2 rfl) ?_
  refine lv_if_lt (tgt := 10) hx hb dX5_put_1 (by decide) (fun c9 => ?_) (fun c9 => ?_)
  · replace h := xi_t c9 h
    exact kX5_put_10 C hlt _ _ _ _ h _ _ _ hP hD hS (lv_sub hl [] rfl)
  · replace h := xi_f c9 h
    refine lv_iload_n hx hb dX5_put_4 rfl (lv_at hl 2 rfl) ?_
    refine lv_bipush (v := (24 : Int32)) hx hb dX5_put_5 (by decide) ?_
    refine lv_icmp_le (tgt := 20) hx hb dX5_put_7 (by decide) (fun c9 => ?_) (fun c9 => ?_)
    · replace h := xi_t c9 h
      refine lv_iload_n hx hb dX5_put_20 rfl (lv_at hl 1 rfl) ?_
      refine lv_if_lt (tgt := 30) hx hb dX5_put_21 (by decide) (fun c9 => ?_) (fun c9 => ?_)
      · replace h := xi_t c9 h
        exact kX5_put_30 C hlt _ _ _ _ h _ _ _ hP hD hS (lv_sub hl [] rfl)
      · replace h := xi_f c9 h
        refine lv_iload_n hx hb dX5_put_24 rfl (lv_at hl 1 rfl) ?_
        refine lv_iload_n hx hb dX5_put_25 rfl (lv_at hl 2 rfl) ?_
        refine lv_ishr hx hb dX5_put_26 ?_
        refine lv_if_eq (tgt := 40) hx hb dX5_put_27 (by decide) (fun c9 => ?_) (fun c9 => ?_)
        · replace h := xi_t c9 h
          refine lv_iload_n hx hb dX5_put_40 rfl (lv_at hl 2 rfl) ?_
          refine lv_sipush (v := (2000 : Int32)) hx hb dX5_put_41 (by decide) ?_
          refine lv_aload_n hx hb dX5_put_44 rfl (lv_at hl 0 rfl) ?_
          refine va_get (D := D) (ci := 5) (v := .ref (aU 1)) (C := RX5) (T := TX5) (N := 4) hx hb hts xu_X5 hown hK hP 0 rfl rfl 0 (by decide) (hts _ xw_180) (fun _ h9 => h9) rfl dX5_put_45 ?_
          refine va_getN (D := D) (ci := 4) (v := .int U.1.2.1) (C := RX4) (T := TX4) (N := 3) hx hb hts xu_X4 hown hK hP 1 rfl rfl 1 (by decide) (hts _ xw_66) (fun _ h9 => h9) rfl dX5_put_48 ?_
          refine lv_isub hx hb dX5_put_51 ?_
          refine lv_icmp_le (tgt := 65) hx hb dX5_put_52 (by decide) (fun c9 => ?_) (fun c9 => ?_)
          · replace h := xi_t c9 h
            refine lv_aload_n hx hb dX5_put_65 rfl (lv_at hl 0 rfl) ?_
            refine va_get (D := D) (ci := 5) (v := .ref (aU 1)) (C := RX5) (T := TX5) (N := 4) hx hb hts xu_X5 hown hK hP 0 rfl rfl 0 (by decide) (hts _ xw_180) (fun _ h9 => h9) rfl dX5_put_66 ?_
            refine lv_iload_n hx hb dX5_put_69 rfl (lv_at hl 1 rfl) ?_
            refine lv_iload_n hx hb dX5_put_70 rfl (lv_at hl 2 rfl) ?_
            obtain ⟨v_1, s_2, hc9, h⟩ := xi_d h
            refine xc_V (As := [.int p1, .int p2]) (ws' := w5 aU aX aY K (s_2, U.2) ++ (w3 aX K X ++ w3 aY K Y)) C (mX4_append l D K (fun i => aU (i + 1)) _ _ _ _ _ hc9) xgi_X5_51 xd_X4_append ⟨Nat.le_of_ble_eq_true rfl, Nat.le_of_ble_eq_true rfl⟩ ⟨Nat.zero_le _, Nat.zero_le _⟩ hl rfl (Nat.le_of_ble_eq_true rfl) dX5_put_71 hP hD hS 1 4 rfl rfl rfl [1, 2] rfl rfl [(1, w4 (fun i => aU (i + 1)) K s_2)] rfl rfl rfl (List.forall_mem_cons.mpr ⟨Nat.le_of_ble_eq_true rfl, (fun _ h => absurd h List.not_mem_nil)⟩) (fun H locs hP hD hS => ?_)
            refine W.eq (g2 := F0 m 74 ls []) rfl ?_
            refine lv_aload_n hx hb dX5_put_74 rfl (lv_at hl 0 rfl) ?_
            refine va_get (D := D) (ci := 5) (v := .ref (aU 1)) (C := RX5) (T := TX5) (N := 4) hx hb hts xu_X5 hown hK hP 0 rfl rfl 0 (by decide) (hts _ xw_180) (fun _ h9 => h9) rfl dX5_put_75 ?_
            refine va_getN (D := D) (ci := 4) (v := .int s_2.2.1) (C := RX4) (T := TX4) (N := 3) hx hb hts xu_X4 hown hK hP 1 rfl rfl 1 (by decide) (hts _ xw_66) (fun _ h9 => h9) rfl dX5_put_78 ?_
            obtain rfl := Option.some.inj h
            exact xe_i C hP hD hS dX5_put_81
          · replace h := xi_f c9 h
            obtain rfl := Option.some.inj h
            exact xe_throw C hlt (text := "there would be more than 2000 bits") xf_IllegalStateException xf_names xw_275 xw_45 (List.mem_of_getElem? (i := 2) rfl) xat_X5_50 xgd_X5_50 hl hP hD hS dX5_put_55 dX5_put_58 dX5_put_59 dX5_put_61 dX5_put_64 (Nat.le_of_ble_eq_true rfl) (Nat.le_of_ble_eq_true rfl)
        · replace h := xi_f c9 h
          exact kX5_put_30 C hlt _ _ _ _ h _ _ _ hP hD hS (lv_sub hl [] rfl)
    · replace h := xi_f c9 h
      exact kX5_put_10 C hlt _ _ _ _ h _ _ _ hP hD hS (lv_sub hl [] rfl)
abbrev oX5_bit (aU : Nat → Nat) (aX : Nat → Nat) (aY : Nat → Nat) (K : Nat → ClassId) (r : (String × (S5 × S3 × S3)) ⊕ (Int32 × (S5 × S3 × S3))) : xO := match r with
  | .inl q => .inl (q.1, w5 aU aX aY K q.2.1 ++ (w3 aX K q.2.2.1 ++ w3 aY K q.2.2.2))
  | .inr q => .inr ((some (.int q.1)), w5 aU aX aY K q.2.1 ++ (w3 aX K q.2.2.1 ++ w3 aY K q.2.2.2))
def fX5_bit_15 (U : S5) (X : S3) (Y : S3) : Option ((String × (S5 × S3 × S3)) ⊕ (Int32 × (S5 × S3 × S3))) := some (.inl ("java/lang/IndexOutOfBoundsException", (U, X, Y)))
def fX5_bit (U : S5) (X : S3) (Y : S3) (p1 : Int32) : Option ((String × (S5 × S3 × S3)) ⊕ (Int32 × (S5 × S3 × S3))) := (if p1 < 0 then fX5_bit_15 U X Y else (if p1 < U.1.2.1 then (if p1 < 0 ∨ 2000 ≤ (p1).toNatClampNeg then none else (if (U.1.1 (p1).toNatClampNeg) = 0 ∨ (U.1.1 (p1).toNatClampNeg) = 1 then some (.inr ((U.1.1 (p1).toNatClampNeg), (U, X, Y))) else none)) else fX5_bit_15 U X Y))
set_option maxHeartbeats 4000000 in
set_option maxRecDepth 100000 in
theorem kX5_bit_15 {p : Program} {l : Launch} {e : Env} {s : State} {m : MethodId} {args : Array Value} {below : List Frame} {meth : Method} {c : Code} {D : va_G} {K : Nat → ClassId} {A : Nat → Prop} {aU : Nat → Nat} {aX : Nat → Nat} {aY : Nat → Nat} (C : xC p s m args meth c cX5_bit 2 (some .boolean) yX5_bit D K A []) (hlt : l.stackTraces = false) : ∀ (U : S5) (X : S3) (Y : S3) (r : (String × (S5 × S3 × S3)) ⊕ (Int32 × (S5 × S3 × S3))), fX5_bit_15  U X Y = some r → ∀ (H : Heap) (locs : List Loc) (ls : Array Slot), va_P D vwCl (w5 aU aX aY K U ++ (w3 aX K X ++ w3 aY K Y)) H → va_D A (w5 aU aX aY K U ++ (w3 aX K X ++ w3 aY K Y)) → va_S A s.heap H locs → lv_has ls 2 [] → W p l e (xR 6 90 (oX5_bit aU aX aY K r)) s m args below meth c H locs 0 0 (xQ below args s D K A (oX5_bit aU aX aY K r)) (F0 m 15 ls []) := by
  obtain ⟨hx, hb, hr, hml, hown, hK, hts, hA, hG, hlk, hte, hnm⟩ := id C
  intro U X Y r h H locs ls hP hD hS hl
  replace h : some (.inl ("java/lang/IndexOutOfBoundsException", (U, X, Y))) = some r := h
  obtain rfl := Option.some.inj h
  exact xe_throw C hlt (text := "there is no such bit") xf_IndexOutOfBoundsException xf_names xw_303 xw_46 (List.mem_of_getElem? (i := 3) rfl) xat_X5_59 xgd_X5_59 hl hP hD hS dX5_bit_15 dX5_bit_18 dX5_bit_19 dX5_bit_21 dX5_bit_24 (Nat.le_of_ble_eq_true rfl) (Nat.le_of_ble_eq_true rfl)
set_option maxHeartbeats 4000000 in
set_option maxRecDepth 100000 in
theorem mX5_bit (l : Launch) (hlt : l.stackTraces = false) (D : va_G) (K : Nat → ClassId) (aU : Nat → Nat) (aX : Nat → Nat) (aY : Nat → Nat) (sz : Nat) (U : S5) (X : S3) (Y : S3) (p1 : Int32) (r : (String × (S5 × S3 × S3)) ⊕ (Int32 × (S5 × S3 × S3))) (h : fX5_bit U X Y p1 = some r) : xMet l yX5_bit cX5_bit 2 (some .boolean) 6 90 D K [.ref (aU 0), .int p1] sz (w5 aU aX aY K U ++ (w3 aX K X ++ w3 aY K Y)) (oX5_bit aU aX aY K r) := by
  refine xm_of _ (by decide +kernel) (Nat.le_of_ble_eq_true rfl) (fun p e s m args below meth c A C hP hD ls hl => ?_)
  have hl : lv_has ls 2 [(0, .ref (aU 0)), (1, .int p1)] := hl
  have hS : va_S A s.heap s.heap [] := va_S.rf
  obtain ⟨hx, hb, hr, hml, hown, hK, hts, hA, hG, hlk, hte, hnm⟩ := id C
  replace h : (if p1 < 0 then fX5_bit_15 U X Y else (if p1 < U.1.2.1 then (if p1 < 0 ∨ 2000 ≤ (p1).toNatClampNeg then none else (if (U.1.1 (p1).toNatClampNeg) = 0 ∨ (U.1.1 (p1).toNatClampNeg) = 1 then some (.inr ((U.1.1 (p1).toNatClampNeg), (U, X, Y))) else none)) else fX5_bit_15 U X Y)) = some r := h
  refine lv_iload_n hx hb dX5_bit_0 rfl (lv_at hl 1 rfl) ?_
  refine lv_if_lt (tgt := 15) hx hb dX5_bit_1 (by decide) (fun c9 => ?_) (fun c9 => ?_)
  · replace h := xi_t c9 h
    exact kX5_bit_15 C hlt _ _ _ _ h _ _ _ hP hD hS (lv_sub hl [] rfl)
  · replace h := xi_f c9 h
    refine lv_iload_n hx hb dX5_bit_4 rfl (lv_at hl 1 rfl) ?_
    refine lv_aload_n hx hb dX5_bit_5 rfl (lv_at hl 0 rfl) ?_
    refine va_get (D := D) (ci := 5) (v := .ref (aU 1)) (C := RX5) (T := TX5) (N := 4) hx hb hts xu_X5 hown hK hP 0 rfl rfl 0 (by decide) (hts _ xw_180) (fun _ h9 => h9) rfl dX5_bit_6 ?_
    refine va_getN (D := D) (ci := 4) (v := .int U.1.2.1) (C := RX4) (T := TX4) (N := 3) hx hb hts xu_X4 hown hK hP 1 rfl rfl 1 (by decide) (hts _ xw_66) (fun _ h9 => h9) rfl dX5_bit_9 ?_
    refine lv_icmp_lt (tgt := 25) hx hb dX5_bit_12 (by decide) (fun c9 => ?_) (fun c9 => ?_)
    · replace h := xi_t c9 h
      refine lv_aload_n hx hb dX5_bit_25 rfl (lv_at hl 0 rfl) ?_
      refine va_get (D := D) (ci := 5) (v := .ref (aU 1)) (C := RX5) (T := TX5) (N := 4) hx hb hts xu_X5 hown hK hP 0 rfl rfl 0 (by decide) (hts _ xw_180) (fun _ h9 => h9) rfl dX5_bit_26 ?_
      refine va_getN (D := D) (ci := 4) (v := .ref (aU 2)) (C := RX4) (T := TX4) (N := 3) hx hb hts xu_X4 hown hK hP 1 rfl rfl 0 (by decide) (hts _ xw_64) (fun _ h9 => h9) rfl dX5_bit_29 ?_
      refine lv_iload_n hx hb dX5_bit_32 rfl (lv_at hl 1 rfl) ?_
      obtain ⟨hi9, h⟩ := xi_g h
      refine va_zald hx hb hK hP 2 1 rfl rfl hi9 dX5_bit_33 ?_
      obtain ⟨hz9, h⟩ := xi_b h
      obtain rfl := Option.some.inj h
      exact xe_z C hz9.1 hP hD hS dX5_bit_34
    · replace h := xi_f c9 h
      exact kX5_bit_15 C hlt _ _ _ _ h _ _ _ hP hD hS (lv_sub hl [] rfl)
abbrev oX5_flip (aU : Nat → Nat) (aX : Nat → Nat) (aY : Nat → Nat) (K : Nat → ClassId) (r : (String × (S5 × S3 × S3)) ⊕ (Unit × (S5 × S3 × S3))) : xO := match r with
  | .inl q => .inl (q.1, w5 aU aX aY K q.2.1 ++ (w3 aX K q.2.2.1 ++ w3 aY K q.2.2.2))
  | .inr q => .inr (none, w5 aU aX aY K q.2.1 ++ (w3 aX K q.2.2.1 ++ w3 aY K q.2.2.2))
def fX5_flip_50 (U : S5) (X : S3) (Y : S3) (t1 : Int32) (t2 : Int32) : Option ((String × (S5 × S3 × S3)) ⊕ (Unit × (S5 × S3 × S3))) := (if t1 < 0 ∨ 2000 ≤ (t1).toNatClampNeg then none else some (.inr ((), ((((upd U.1.1 (t1).toNatClampNeg (vp_nar .boolean t2)), U.1.2.1, U.1.2.2), U.2), X, Y))))
def fX5_flip_15 (U : S5) (X : S3) (Y : S3) : Option ((String × (S5 × S3 × S3)) ⊕ (Unit × (S5 × S3 × S3))) := some (.inl ("java/lang/IndexOutOfBoundsException", (U, X, Y)))
def fX5_flip (U : S5) (X : S3) (Y : S3) (p1 : Int32) : Option ((String × (S5 × S3 × S3)) ⊕ (Unit × (S5 × S3 × S3))) := (if p1 < 0 then fX5_flip_15 U X Y else (if p1 < U.1.2.1 then (if p1 < 0 ∨ 2000 ≤ (p1).toNatClampNeg then none else (if (U.1.1 (p1).toNatClampNeg) = 0 then fX5_flip_50 U X Y p1 (1 : Int32) else fX5_flip_50 U X Y p1 (0 : Int32))) else fX5_flip_15 U X Y))
set_option maxHeartbeats 4000000 in
set_option maxRecDepth 100000 in
theorem kX5_flip_50 {p : Program} {l : Launch} {e : Env} {s : State} {m : MethodId} {args : Array Value} {below : List Frame} {meth : Method} {c : Code} {D : va_G} {K : Nat → ClassId} {A : Nat → Prop} {aU : Nat → Nat} {aX : Nat → Nat} {aY : Nat → Nat} (C : xC p s m args meth c cX5_flip 2 none yX5_flip D K A []) (hlt : l.stackTraces = false) : ∀ (U : S5) (X : S3) (Y : S3) (t1 : Int32) (t2 : Int32) (r : (String × (S5 × S3 × S3)) ⊕ (Unit × (S5 × S3 × S3))), fX5_flip_50  U X Y t1 t2 = some r → ∀ (H : Heap) (locs : List Loc) (ls : Array Slot), va_P D vwCl (w5 aU aX aY K U ++ (w3 aX K X ++ w3 aY K Y)) H → va_D A (w5 aU aX aY K U ++ (w3 aX K X ++ w3 aY K Y)) → va_S A s.heap H locs → lv_has ls 2 [] → W p l e (xR 6 90 (oX5_flip aU aX aY K r)) s m args below meth c H locs 0 0 (xQ below args s D K A (oX5_flip aU aX aY K r)) (F0 m 50 ls [.int t2, .int t1, .ref (aU 2)]) := by
  obtain ⟨hx, hb, hr, hml, hown, hK, hts, hA, hG, hlk, hte, hnm⟩ := id C
  intro U X Y t1 t2 r h H locs ls hP hD hS hl
  replace h : (if t1 < 0 ∨ 2000 ≤ (t1).toNatClampNeg then none else some (.inr ((), ((((upd U.1.1 (t1).toNatClampNeg (vp_nar .boolean t2)), U.1.2.1, U.1.2.2), U.2), X, Y)))) = some r := h
  obtain ⟨hi9, h⟩ := xi_g h
  refine va_zast hx hb hK hP hD hS 2 1 rfl rfl hi9 dX5_flip_50 (fun H locs hP hD hS => ?_)
  have hP : va_P D vwCl (w5 aU aX aY K (((upd U.1.1 (t1).toNatClampNeg (vp_nar .boolean t2)), U.1.2.1, U.1.2.2), U.2) ++ (w3 aX K X ++ w3 aY K Y)) H := hP
  have hD : va_D A (w5 aU aX aY K (((upd U.1.1 (t1).toNatClampNeg (vp_nar .boolean t2)), U.1.2.1, U.1.2.2), U.2) ++ (w3 aX K X ++ w3 aY K Y)) := hD
  obtain rfl := Option.some.inj h
  exact xe_v C hP hD hS dX5_flip_51
set_option maxHeartbeats 4000000 in
set_option maxRecDepth 100000 in
theorem kX5_flip_15 {p : Program} {l : Launch} {e : Env} {s : State} {m : MethodId} {args : Array Value} {below : List Frame} {meth : Method} {c : Code} {D : va_G} {K : Nat → ClassId} {A : Nat → Prop} {aU : Nat → Nat} {aX : Nat → Nat} {aY : Nat → Nat} (C : xC p s m args meth c cX5_flip 2 none yX5_flip D K A []) (hlt : l.stackTraces = false) : ∀ (U : S5) (X : S3) (Y : S3) (r : (String × (S5 × S3 × S3)) ⊕ (Unit × (S5 × S3 × S3))), fX5_flip_15  U X Y = some r → ∀ (H : Heap) (locs : List Loc) (ls : Array Slot), va_P D vwCl (w5 aU aX aY K U ++ (w3 aX K X ++ w3 aY K Y)) H → va_D A (w5 aU aX aY K U ++ (w3 aX K X ++ w3 aY K Y)) → va_S A s.heap H locs → lv_has ls 2 [] → W p l e (xR 6 90 (oX5_flip aU aX aY K r)) s m args below meth c H locs 0 0 (xQ below args s D K A (oX5_flip aU aX aY K r)) (F0 m 15 ls []) := by
  obtain ⟨hx, hb, hr, hml, hown, hK, hts, hA, hG, hlk, hte, hnm⟩ := id C
  intro U X Y r h H locs ls hP hD hS hl
  replace h : some (.inl ("java/lang/IndexOutOfBoundsException", (U, X, Y))) = some r := h
  obtain rfl := Option.some.inj h
  exact xe_throw C hlt (text := "there is no such bit") xf_IndexOutOfBoundsException xf_names xw_303 xw_46 (List.mem_of_getElem? (i := 3) rfl) xat_X5_59 xgd_X5_59 hl hP hD hS dX5_flip_15 dX5_flip_18 dX5_flip_19 dX5_flip_21 dX5_flip_24 (Nat.le_of_ble_eq_true rfl) (Nat.le_of_ble_eq_true rfl)
set_option maxHeartbeats 4000000 in
set_option maxRecDepth 100000 in
theorem mX5_flip (l : Launch) (hlt : l.stackTraces = false) (D : va_G) (K : Nat → ClassId) (aU : Nat → Nat) (aX : Nat → Nat) (aY : Nat → Nat) (sz : Nat) (U : S5) (X : S3) (Y : S3) (p1 : Int32) (r : (String × (S5 × S3 × S3)) ⊕ (Unit × (S5 × S3 × S3))) (h : fX5_flip U X Y p1 = some r) : xMet l yX5_flip cX5_flip 2 none 6 90 D K [.ref (aU 0), .int p1] sz (w5 aU aX aY K U ++ (w3 aX K X ++ w3 aY K Y)) (oX5_flip aU aX aY K r) := by
  refine xm_of _ (by decide +kernel) (Nat.le_of_ble_eq_true rfl) (fun p e s m args below meth c A C hP hD ls hl => ?_)
  have hl : lv_has ls 2 [(0, .ref (aU 0)), (1, .int p1)] := hl
  have hS : va_S A s.heap s.heap [] := va_S.rf
  obtain ⟨hx, hb, hr, hml, hown, hK, hts, hA, hG, hlk, hte, hnm⟩ := id C
  replace h : (if p1 < 0 then fX5_flip_15 U X Y else (if p1 < U.1.2.1 then (if p1 < 0 ∨ 2000 ≤ (p1).toNatClampNeg then none else (if (U.1.1 (p1).toNatClampNeg) = 0 then fX5_flip_50 U X Y p1 (1 : Int32) else fX5_flip_50 U X Y p1 (0 : Int32))) else fX5_flip_15 U X Y)) = some r := h
  refine lv_iload_n hx hb dX5_flip_0 rfl (lv_at hl 1 rfl) ?_
  refine lv_if_lt (tgt := 15) hx hb dX5_flip_1 (by decide) (fun c9 => ?_) (fun c9 => ?_)
  · replace h := xi_t c9 h
    exact kX5_flip_15 C hlt _ _ _ _ h _ _ _ hP hD hS (lv_sub hl [] rfl)
  · replace h := xi_f c9 h
    refine lv_iload_n hx hb dX5_flip_4 rfl (lv_at hl 1 rfl) ?_
    refine lv_aload_n hx hb dX5_flip_5 rfl (lv_at hl 0 rfl) ?_
    refine va_get (D := D) (ci := 5) (v := .ref (aU 1)) (C := RX5) (T := TX5) (N := 4) hx hb hts xu_X5 hown hK hP 0 rfl rfl 0 (by decide) (hts _ xw_180) (fun _ h9 => h9) rfl dX5_flip_6 ?_
    refine va_getN (D := D) (ci := 4) (v := .int U.1.2.1) (C := RX4) (T := TX4) (N := 3) hx hb hts xu_X4 hown hK hP 1 rfl rfl 1 (by decide) (hts _ xw_66) (fun _ h9 => h9) rfl dX5_flip_9 ?_
    refine lv_icmp_lt (tgt := 25) hx hb dX5_flip_12 (by decide) (fun c9 => ?_) (fun c9 => ?_)
    · replace h := xi_t c9 h
      refine lv_aload_n hx hb dX5_flip_25 rfl (lv_at hl 0 rfl) ?_
      refine va_get (D := D) (ci := 5) (v := .ref (aU 1)) (C := RX5) (T := TX5) (N := 4) hx hb hts xu_X5 hown hK hP 0 rfl rfl 0 (by decide) (hts _ xw_180) (fun _ h9 => h9) rfl dX5_flip_26 ?_
      refine va_getN (D := D) (ci := 4) (v := .ref (aU 2)) (C := RX4) (T := TX4) (N := 3) hx hb hts xu_X4 hown hK hP 1 rfl rfl 0 (by decide) (hts _ xw_64) (fun _ h9 => h9) rfl dX5_flip_29 ?_
      refine lv_iload_n hx hb dX5_flip_32 rfl (lv_at hl 1 rfl) ?_
      refine lv_aload_n hx hb dX5_flip_33 rfl (lv_at hl 0 rfl) ?_
      refine va_get (D := D) (ci := 5) (v := .ref (aU 1)) (C := RX5) (T := TX5) (N := 4) hx hb hts xu_X5 hown hK hP 0 rfl rfl 0 (by decide) (hts _ xw_180) (fun _ h9 => h9) rfl dX5_flip_34 ?_
      refine va_getN (D := D) (ci := 4) (v := .ref (aU 2)) (C := RX4) (T := TX4) (N := 3) hx hb hts xu_X4 hown hK hP 1 rfl rfl 0 (by decide) (hts _ xw_64) (fun _ h9 => h9) rfl dX5_flip_37 ?_
      refine lv_iload_n hx hb dX5_flip_40 rfl (lv_at hl 1 rfl) ?_
      obtain ⟨hi9, h⟩ := xi_g h
      refine va_zald hx hb hK hP 2 1 rfl rfl hi9 dX5_flip_41 ?_
      refine lv_if_ne (tgt := 49) hx hb dX5_flip_42 (by decide) (fun c9 => ?_) (fun c9 => ?_)
      · replace h := xi_f c9 h
        refine lv_iconst (v := (0 : Int32)) hx hb dX5_flip_49 (by decide) ?_
        exact kX5_flip_50 C hlt _ _ _ _ _ _ h _ _ _ hP hD hS (lv_sub hl [] rfl)
      · replace h := xi_t c9 h
        refine lv_iconst (v := (1 : Int32)) hx hb dX5_flip_45 (by decide) ?_
        refine lv_goto (tgt := 50) hx hb dX5_flip_46 (by decide) ?_
        exact kX5_flip_50 C hlt _ _ _ _ _ _ h _ _ _ hP hD hS (lv_sub hl [] rfl)
    · replace h := xi_f c9 h
      exact kX5_flip_15 C hlt _ _ _ _ h _ _ _ hP hD hS (lv_sub hl [] rfl)
abbrev oX5_cut (aU : Nat → Nat) (aX : Nat → Nat) (aY : Nat → Nat) (K : Nat → ClassId) (r : (String × (S5 × S3 × S3)) ⊕ (Int32 × (S5 × S3 × S3))) : xO := match r with
  | .inl q => .inl (q.1, w5 aU aX aY K q.2.1 ++ (w3 aX K q.2.2.1 ++ w3 aY K q.2.2.2))
  | .inr q => .inr ((some (.int q.1)), w5 aU aX aY K q.2.1 ++ (w3 aX K q.2.2.1 ++ w3 aY K q.2.2.2))
def fX5_cut_15 (U : S5) (X : S3) (Y : S3) : Option ((String × (S5 × S3 × S3)) ⊕ (Int32 × (S5 × S3 × S3))) := some (.inl ("java/lang/IllegalArgumentException", (U, X, Y)))
def fX5_cut (U : S5) (X : S3) (Y : S3) (p1 : Int32) : Option ((String × (S5 × S3 × S3)) ⊕ (Int32 × (S5 × S3 × S3))) := (if p1 < 0 then fX5_cut_15 U X Y else (if p1 ≤ U.1.2.1 then some (.inr ((U.1.2.1 - p1), (((U.1.1, p1, U.1.2.2), U.2), X, Y))) else fX5_cut_15 U X Y))
set_option maxHeartbeats 4000000 in
set_option maxRecDepth 100000 in
theorem kX5_cut_15 {p : Program} {l : Launch} {e : Env} {s : State} {m : MethodId} {args : Array Value} {below : List Frame} {meth : Method} {c : Code} {D : va_G} {K : Nat → ClassId} {A : Nat → Prop} {aU : Nat → Nat} {aX : Nat → Nat} {aY : Nat → Nat} (C : xC p s m args meth c cX5_cut 3 (some .int) yX5_cut D K A []) (hlt : l.stackTraces = false) : ∀ (U : S5) (X : S3) (Y : S3) (r : (String × (S5 × S3 × S3)) ⊕ (Int32 × (S5 × S3 × S3))), fX5_cut_15  U X Y = some r → ∀ (H : Heap) (locs : List Loc) (ls : Array Slot), va_P D vwCl (w5 aU aX aY K U ++ (w3 aX K X ++ w3 aY K Y)) H → va_D A (w5 aU aX aY K U ++ (w3 aX K X ++ w3 aY K Y)) → va_S A s.heap H locs → lv_has ls 3 [] → W p l e (xR 6 90 (oX5_cut aU aX aY K r)) s m args below meth c H locs 0 0 (xQ below args s D K A (oX5_cut aU aX aY K r)) (F0 m 15 ls []) := by
  obtain ⟨hx, hb, hr, hml, hown, hK, hts, hA, hG, hlk, hte, hnm⟩ := id C
  intro U X Y r h H locs ls hP hD hS hl
  replace h : some (.inl ("java/lang/IllegalArgumentException", (U, X, Y))) = some r := h
  obtain rfl := Option.some.inj h
  exact xe_throw C hlt (text := "the stream has no first n bits") xf_IllegalArgumentException xf_names xw_206 xw_44 (List.mem_of_getElem? (i := 4) rfl) xat_X5_37 xgd_X5_37 hl hP hD hS dX5_cut_15 dX5_cut_18 dX5_cut_19 dX5_cut_21 dX5_cut_24 (Nat.le_of_ble_eq_true rfl) (Nat.le_of_ble_eq_true rfl)
set_option maxHeartbeats 4000000 in
set_option maxRecDepth 100000 in
theorem mX5_cut (l : Launch) (hlt : l.stackTraces = false) (D : va_G) (K : Nat → ClassId) (aU : Nat → Nat) (aX : Nat → Nat) (aY : Nat → Nat) (sz : Nat) (U : S5) (X : S3) (Y : S3) (p1 : Int32) (r : (String × (S5 × S3 × S3)) ⊕ (Int32 × (S5 × S3 × S3))) (h : fX5_cut U X Y p1 = some r) : xMet l yX5_cut cX5_cut 3 (some .int) 6 90 D K [.ref (aU 0), .int p1] sz (w5 aU aX aY K U ++ (w3 aX K X ++ w3 aY K Y)) (oX5_cut aU aX aY K r) := by
  refine xm_of _ (by decide +kernel) (Nat.le_of_ble_eq_true rfl) (fun p e s m args below meth c A C hP hD ls hl => ?_)
  have hl : lv_has ls 3 [(0, .ref (aU 0)), (1, .int p1)] := hl
  have hS : va_S A s.heap s.heap [] := va_S.rf
  obtain ⟨hx, hb, hr, hml, hown, hK, hts, hA, hG, hlk, hte, hnm⟩ := id C
  replace h : (if p1 < 0 then fX5_cut_15 U X Y else (if p1 ≤ U.1.2.1 then some (.inr ((U.1.2.1 - p1), (((U.1.1, p1, U.1.2.2), U.2), X, Y))) else fX5_cut_15 U X Y)) = some r := h
  refine lv_iload_n hx hb dX5_cut_0 rfl (lv_at hl 1 rfl) ?_
  refine lv_if_lt (tgt := 15) hx hb dX5_cut_1 (by decide) (fun c9 => ?_) (fun c9 => ?_)
  · replace h := xi_t c9 h
    exact kX5_cut_15 C hlt _ _ _ _ h _ _ _ hP hD hS (lv_sub hl [] rfl)
  · replace h := xi_f c9 h
    refine lv_iload_n hx hb dX5_cut_4 rfl (lv_at hl 1 rfl) ?_
    refine lv_aload_n hx hb dX5_cut_5 rfl (lv_at hl 0 rfl) ?_
    refine va_get (D := D) (ci := 5) (v := .ref (aU 1)) (C := RX5) (T := TX5) (N := 4) hx hb hts xu_X5 hown hK hP 0 rfl rfl 0 (by decide) (hts _ xw_180) (fun _ h9 => h9) rfl dX5_cut_6 ?_
    refine va_getN (D := D) (ci := 4) (v := .int U.1.2.1) (C := RX4) (T := TX4) (N := 3) hx hb hts xu_X4 hown hK hP 1 rfl rfl 1 (by decide) (hts _ xw_66) (fun _ h9 => h9) rfl dX5_cut_9 ?_
    refine lv_icmp_le (tgt := 25) hx hb dX5_cut_12 (by decide) (fun c9 => ?_) (fun c9 => ?_)
    · replace h := xi_t c9 h
      refine lv_aload_n hx hb dX5_cut_25 rfl (lv_at hl 0 rfl) ?_
      refine va_get (D := D) (ci := 5) (v := .ref (aU 1)) (C := RX5) (T := TX5) (N := 4) hx hb hts xu_X5 hown hK hP 0 rfl rfl 0 (by decide) (hts _ xw_180) (fun _ h9 => h9) rfl dX5_cut_26 ?_
      refine va_getN (D := D) (ci := 4) (v := .int U.1.2.1) (C := RX4) (T := TX4) (N := 3) hx hb hts xu_X4 hown hK hP 1 rfl rfl 1 (by decide) (hts _ xw_66) (fun _ h9 => h9) rfl dX5_cut_29 ?_
      refine lv_iload_n hx hb dX5_cut_32 rfl (lv_at hl 1 rfl) ?_
      refine lv_isub hx hb dX5_cut_33 ?_
      refine lv_istore_n (lv' := [(2, .int (U.1.2.1 - p1)), (0, .ref (aU 0)), (1, .int p1)]) hx hb dX5_cut_34 rfl hl (by decide) rfl (fun ls hl => ?_)
      refine lv_aload_n hx hb dX5_cut_35 rfl (lv_at hl 1 rfl) ?_
      refine va_get (D := D) (ci := 5) (v := .ref (aU 1)) (C := RX5) (T := TX5) (N := 4) hx hb hts xu_X5 hown hK hP 0 rfl rfl 0 (by decide) (hts _ xw_180) (fun _ h9 => h9) rfl dX5_cut_36 ?_
      refine lv_iload_n hx hb dX5_cut_39 rfl (lv_at hl 2 rfl) ?_
      refine va_putN (D := D) (ci := 4) (v := .int p1) (ty := .int) (C := RX4) (T := TX4) (N := 3) hx hb hts xu_X4 tyX4 tyX4_ok nmX4 hown hK hP hD hS 1 rfl rfl 1 (by decide) (hts _ xw_66) (fun _ h9 => h9) rfl (by decide +kernel) rfl rfl (Nat.le_of_ble_eq_true rfl) dX5_cut_40 (fun H locs hP hD hS => ?_)
      have hP : va_P D vwCl (w5 aU aX aY K ((U.1.1, p1, U.1.2.2), U.2) ++ (w3 aX K X ++ w3 aY K Y)) H := hP
      have hD : va_D A (w5 aU aX aY K ((U.1.1, p1, U.1.2.2), U.2) ++ (w3 aX K X ++ w3 aY K Y)) := hD
      refine lv_iload_n hx hb dX5_cut_43 rfl (lv_at hl 0 rfl) ?_
      obtain rfl := Option.some.inj h
      exact xe_i C hP hD hS dX5_cut_44
    · replace h := xi_f c9 h
      exact kX5_cut_15 C hlt _ _ _ _ h _ _ _ hP hD hS (lv_sub hl [] rfl)
abbrev oX5_taken (aU : Nat → Nat) (aX : Nat → Nat) (aY : Nat → Nat) (K : Nat → ClassId) (q : Int32 × (S5 × S3 × S3)) : xO := .inr ((some (.int q.1)), w5 aU aX aY K q.2.1 ++ (w3 aX K q.2.2.1 ++ w3 aY K q.2.2.2))
def fX5_taken (U : S5) (X : S3) (Y : S3) : Option (Int32 × (S5 × S3 × S3)) := some (U.1.2.2, (U, X, Y))
set_option maxHeartbeats 4000000 in
set_option maxRecDepth 100000 in
theorem mX5_taken (l : Launch) (D : va_G) (K : Nat → ClassId) (aU : Nat → Nat) (aX : Nat → Nat) (aY : Nat → Nat) (sz : Nat) (U : S5) (X : S3) (Y : S3) (r : Int32 × (S5 × S3 × S3)) (h : fX5_taken U X Y = some r) : xMet l yX5_taken cX5_taken 1 (some .int) 0 0 D K [.ref (aU 0)] sz (w5 aU aX aY K U ++ (w3 aX K X ++ w3 aY K Y)) (oX5_taken aU aX aY K r) := by
  refine xm_of _ (by decide +kernel) (Nat.le_of_ble_eq_true rfl) (fun p e s m args below meth c A C hP hD ls hl => ?_)
  have hl : lv_has ls 1 [(0, .ref (aU 0))] := hl
  have hS : va_S A s.heap s.heap [] := va_S.rf
  obtain ⟨hx, hb, hr, hml, hown, hK, hts, hA, hG, hlk, hte, hnm⟩ := id C
  replace h : some (U.1.2.2, (U, X, Y)) = some r := h
  refine lv_aload_n hx hb dX5_taken_0 rfl (lv_at hl 0 rfl) ?_
  refine va_get (D := D) (ci := 5) (v := .ref (aU 1)) (C := RX5) (T := TX5) (N := 4) hx hb hts xu_X5 hown hK hP 0 rfl rfl 0 (by decide) (hts _ xw_180) (fun _ h9 => h9) rfl dX5_taken_1 ?_
  refine va_getN (D := D) (ci := 4) (v := .int U.1.2.2) (C := RX4) (T := TX4) (N := 3) hx hb hts xu_X4 hown hK hP 1 rfl rfl 2 (by decide) (hts _ xw_68) (fun _ h9 => h9) rfl dX5_taken_4 ?_
  obtain rfl := Option.some.inj h
  exact xe_i C hP hD hS dX5_taken_7
abbrev oX5_letter (aU : Nat → Nat) (aX : Nat → Nat) (aY : Nat → Nat) (K : Nat → ClassId) (r : (String × (S5 × S3 × S3)) ⊕ (Int32 × (S5 × S3 × S3))) : xO := match r with
  | .inl q => .inl (q.1, w5 aU aX aY K q.2.1 ++ (w3 aX K q.2.2.1 ++ w3 aY K q.2.2.2))
  | .inr q => .inr ((some (.int q.1)), w5 aU aX aY K q.2.1 ++ (w3 aX K q.2.2.1 ++ w3 aY K q.2.2.2))
def fX5_letter_15 (U : S5) (X : S3) (Y : S3) : Option ((String × (S5 × S3 × S3)) ⊕ (Int32 × (S5 × S3 × S3))) := some (.inl ("java/lang/IndexOutOfBoundsException", (U, X, Y)))
def fX5_letter (U : S5) (X : S3) (Y : S3) (p1 : Int32) : Option ((String × (S5 × S3 × S3)) ⊕ (Int32 × (S5 × S3 × S3))) := (if p1 < 0 then fX5_letter_15 U X Y else (if p1 < X.2.2 then (if p1 < 0 ∨ 400 ≤ (p1).toNatClampNeg then none else some (.inr ((X.1 (p1).toNatClampNeg), (U, X, Y)))) else fX5_letter_15 U X Y))
set_option maxHeartbeats 4000000 in
set_option maxRecDepth 100000 in
theorem kX5_letter_15 {p : Program} {l : Launch} {e : Env} {s : State} {m : MethodId} {args : Array Value} {below : List Frame} {meth : Method} {c : Code} {D : va_G} {K : Nat → ClassId} {A : Nat → Prop} {aU : Nat → Nat} {aX : Nat → Nat} {aY : Nat → Nat} (C : xC p s m args meth c cX5_letter 2 (some .int) yX5_letter D K A []) (hlt : l.stackTraces = false) : ∀ (U : S5) (X : S3) (Y : S3) (r : (String × (S5 × S3 × S3)) ⊕ (Int32 × (S5 × S3 × S3))), fX5_letter_15  U X Y = some r → ∀ (H : Heap) (locs : List Loc) (ls : Array Slot), va_P D vwCl (w5 aU aX aY K U ++ (w3 aX K X ++ w3 aY K Y)) H → va_D A (w5 aU aX aY K U ++ (w3 aX K X ++ w3 aY K Y)) → va_S A s.heap H locs → lv_has ls 2 [] → W p l e (xR 6 90 (oX5_letter aU aX aY K r)) s m args below meth c H locs 0 0 (xQ below args s D K A (oX5_letter aU aX aY K r)) (F0 m 15 ls []) := by
  obtain ⟨hx, hb, hr, hml, hown, hK, hts, hA, hG, hlk, hte, hnm⟩ := id C
  intro U X Y r h H locs ls hP hD hS hl
  replace h : some (.inl ("java/lang/IndexOutOfBoundsException", (U, X, Y))) = some r := h
  obtain rfl := Option.some.inj h
  exact xe_throw C hlt (text := "there is no such letter") xf_IndexOutOfBoundsException xf_names xw_303 xw_46 (List.mem_of_getElem? (i := 15) rfl) xat_X5_59 xgd_X5_59 hl hP hD hS dX5_letter_15 dX5_letter_18 dX5_letter_19 dX5_letter_21 dX5_letter_24 (Nat.le_of_ble_eq_true rfl) (Nat.le_of_ble_eq_true rfl)
set_option maxHeartbeats 4000000 in
set_option maxRecDepth 100000 in
theorem mX5_letter (l : Launch) (hlt : l.stackTraces = false) (D : va_G) (K : Nat → ClassId) (aU : Nat → Nat) (aX : Nat → Nat) (aY : Nat → Nat) (sz : Nat) (U : S5) (X : S3) (Y : S3) (p1 : Int32) (r : (String × (S5 × S3 × S3)) ⊕ (Int32 × (S5 × S3 × S3))) (h : fX5_letter U X Y p1 = some r) : xMet l yX5_letter cX5_letter 2 (some .int) 6 90 D K [.ref (aU 0), .int p1] sz (w5 aU aX aY K U ++ (w3 aX K X ++ w3 aY K Y)) (oX5_letter aU aX aY K r) := by
  refine xm_of _ (by decide +kernel) (Nat.le_of_ble_eq_true rfl) (fun p e s m args below meth c A C hP hD ls hl => ?_)
  have hl : lv_has ls 2 [(0, .ref (aU 0)), (1, .int p1)] := hl
  have hS : va_S A s.heap s.heap [] := va_S.rf
  obtain ⟨hx, hb, hr, hml, hown, hK, hts, hA, hG, hlk, hte, hnm⟩ := id C
  replace h : (if p1 < 0 then fX5_letter_15 U X Y else (if p1 < X.2.2 then (if p1 < 0 ∨ 400 ≤ (p1).toNatClampNeg then none else some (.inr ((X.1 (p1).toNatClampNeg), (U, X, Y)))) else fX5_letter_15 U X Y)) = some r := h
  refine lv_iload_n hx hb dX5_letter_0 rfl (lv_at hl 1 rfl) ?_
  refine lv_if_lt (tgt := 15) hx hb dX5_letter_1 (by decide) (fun c9 => ?_) (fun c9 => ?_)
  · replace h := xi_t c9 h
    exact kX5_letter_15 C hlt _ _ _ _ h _ _ _ hP hD hS (lv_sub hl [] rfl)
  · replace h := xi_f c9 h
    refine lv_iload_n hx hb dX5_letter_4 rfl (lv_at hl 1 rfl) ?_
    refine lv_aload_n hx hb dX5_letter_5 rfl (lv_at hl 0 rfl) ?_
    refine va_get (D := D) (ci := 5) (v := .ref (aX 0)) (C := RX5) (T := TX5) (N := 4) hx hb hts xu_X5 hown hK hP 0 rfl rfl 2 (by decide) (hts _ xw_182) (fun _ h9 => h9) rfl dX5_letter_6 ?_
    refine va_getN (D := D) (ci := 3) (v := .int X.2.2) (C := RX3) (T := TX3) (N := 3) hx hb hts xu_X3 hown hK hP 37 rfl rfl 2 (by decide) (hts _ xw_172) (fun _ h9 => h9) rfl dX5_letter_9 ?_
    refine lv_icmp_lt (tgt := 25) hx hb dX5_letter_12 (by decide) (fun c9 => ?_) (fun c9 => ?_)
    · replace h := xi_t c9 h
      refine lv_aload_n hx hb dX5_letter_25 rfl (lv_at hl 0 rfl) ?_
      refine va_get (D := D) (ci := 5) (v := .ref (aX 0)) (C := RX5) (T := TX5) (N := 4) hx hb hts xu_X5 hown hK hP 0 rfl rfl 2 (by decide) (hts _ xw_182) (fun _ h9 => h9) rfl dX5_letter_26 ?_
      refine va_getN (D := D) (ci := 3) (v := .ref (aX 1)) (C := RX3) (T := TX3) (N := 3) hx hb hts xu_X3 hown hK hP 37 rfl rfl 0 (by decide) (hts _ xw_166) (fun _ h9 => h9) rfl dX5_letter_29 ?_
      refine lv_iload_n hx hb dX5_letter_32 rfl (lv_at hl 1 rfl) ?_
      obtain ⟨hi9, h⟩ := xi_g h
      refine va_iald hx hb hK hP 38 0 rfl rfl hi9 dX5_letter_33 ?_
      obtain rfl := Option.some.inj h
      exact xe_i C hP hD hS dX5_letter_34
    · replace h := xi_f c9 h
      exact kX5_letter_15 C hlt _ _ _ _ h _ _ _ hP hD hS (lv_sub hl [] rfl)
abbrev oX5_count (aU : Nat → Nat) (aX : Nat → Nat) (aY : Nat → Nat) (K : Nat → ClassId) (r : (String × (S5 × S3 × S3)) ⊕ (Int32 × (S5 × S3 × S3))) : xO := match r with
  | .inl q => .inl (q.1, w5 aU aX aY K q.2.1 ++ (w3 aX K q.2.2.1 ++ w3 aY K q.2.2.2))
  | .inr q => .inr ((some (.int q.1)), w5 aU aX aY K q.2.1 ++ (w3 aX K q.2.2.1 ++ w3 aY K q.2.2.2))
def fX5_count_10 (U : S5) (X : S3) (Y : S3) : Option ((String × (S5 × S3 × S3)) ⊕ (Int32 × (S5 × S3 × S3))) := some (.inl ("java/lang/IllegalArgumentException", (U, X, Y)))
def fX5_count (U : S5) (X : S3) (Y : S3) (p1 : Int32) : Option ((String × (S5 × S3 × S3)) ⊕ (Int32 × (S5 × S3 × S3))) := (if p1 < 0 then fX5_count_10 U X Y else (if p1 < (9 : Int32) then (if p1 < 0 ∨ 9 ≤ (p1).toNatClampNeg then none else some (.inr ((X.2.1 (p1).toNatClampNeg), (U, X, Y)))) else fX5_count_10 U X Y))
set_option maxHeartbeats 4000000 in
set_option maxRecDepth 100000 in
theorem kX5_count_10 {p : Program} {l : Launch} {e : Env} {s : State} {m : MethodId} {args : Array Value} {below : List Frame} {meth : Method} {c : Code} {D : va_G} {K : Nat → ClassId} {A : Nat → Prop} {aU : Nat → Nat} {aX : Nat → Nat} {aY : Nat → Nat} (C : xC p s m args meth c cX5_count 2 (some .int) yX5_count D K A []) (hlt : l.stackTraces = false) : ∀ (U : S5) (X : S3) (Y : S3) (r : (String × (S5 × S3 × S3)) ⊕ (Int32 × (S5 × S3 × S3))), fX5_count_10  U X Y = some r → ∀ (H : Heap) (locs : List Loc) (ls : Array Slot), va_P D vwCl (w5 aU aX aY K U ++ (w3 aX K X ++ w3 aY K Y)) H → va_D A (w5 aU aX aY K U ++ (w3 aX K X ++ w3 aY K Y)) → va_S A s.heap H locs → lv_has ls 2 [] → W p l e (xR 6 90 (oX5_count aU aX aY K r)) s m args below meth c H locs 0 0 (xQ below args s D K A (oX5_count aU aX aY K r)) (F0 m 10 ls []) := by
  obtain ⟨hx, hb, hr, hml, hown, hK, hts, hA, hG, hlk, hte, hnm⟩ := id C
  intro U X Y r h H locs ls hP hD hS hl
  replace h : some (.inl ("java/lang/IllegalArgumentException", (U, X, Y))) = some r := h
  obtain rfl := Option.some.inj h
  exact xe_throw C hlt (text := "there is no such number") xf_IllegalArgumentException xf_names xw_206 xw_44 (List.mem_of_getElem? (i := 16) rfl) xat_X5_37 xgd_X5_37 hl hP hD hS dX5_count_10 dX5_count_13 dX5_count_14 dX5_count_16 dX5_count_19 (Nat.le_of_ble_eq_true rfl) (Nat.le_of_ble_eq_true rfl)
set_option maxHeartbeats 4000000 in
set_option maxRecDepth 100000 in
theorem mX5_count (l : Launch) (hlt : l.stackTraces = false) (D : va_G) (K : Nat → ClassId) (aU : Nat → Nat) (aX : Nat → Nat) (aY : Nat → Nat) (sz : Nat) (U : S5) (X : S3) (Y : S3) (p1 : Int32) (r : (String × (S5 × S3 × S3)) ⊕ (Int32 × (S5 × S3 × S3))) (h : fX5_count U X Y p1 = some r) : xMet l yX5_count cX5_count 2 (some .int) 6 90 D K [.ref (aU 0), .int p1] sz (w5 aU aX aY K U ++ (w3 aX K X ++ w3 aY K Y)) (oX5_count aU aX aY K r) := by
  refine xm_of _ (by decide +kernel) (Nat.le_of_ble_eq_true rfl) (fun p e s m args below meth c A C hP hD ls hl => ?_)
  have hl : lv_has ls 2 [(0, .ref (aU 0)), (1, .int p1)] := hl
  have hS : va_S A s.heap s.heap [] := va_S.rf
  obtain ⟨hx, hb, hr, hml, hown, hK, hts, hA, hG, hlk, hte, hnm⟩ := id C
  replace h : (if p1 < 0 then fX5_count_10 U X Y else (if p1 < (9 : Int32) then (if p1 < 0 ∨ 9 ≤ (p1).toNatClampNeg then none else some (.inr ((X.2.1 (p1).toNatClampNeg), (U, X, Y)))) else fX5_count_10 U X Y)) = some r := h
  refine lv_iload_n hx hb dX5_count_0 rfl (lv_at hl 1 rfl) ?_
  refine lv_if_lt (tgt := 10) hx hb dX5_count_1 (by decide) (fun c9 => ?_) (fun c9 => ?_)
  · replace h := xi_t c9 h
    exact kX5_count_10 C hlt _ _ _ _ h _ _ _ hP hD hS (lv_sub hl [] rfl)
  · replace h := xi_f c9 h
    refine lv_iload_n hx hb dX5_count_4 rfl (lv_at hl 1 rfl) ?_
    refine lv_bipush (v := (9 : Int32)) hx hb dX5_count_5 (by decide) ?_
    refine lv_icmp_lt (tgt := 20) hx hb dX5_count_7 (by decide) (fun c9 => ?_) (fun c9 => ?_)
    · replace h := xi_t c9 h
      refine lv_aload_n hx hb dX5_count_20 rfl (lv_at hl 0 rfl) ?_
      refine va_get (D := D) (ci := 5) (v := .ref (aX 0)) (C := RX5) (T := TX5) (N := 4) hx hb hts xu_X5 hown hK hP 0 rfl rfl 2 (by decide) (hts _ xw_182) (fun _ h9 => h9) rfl dX5_count_21 ?_
      refine va_getN (D := D) (ci := 3) (v := .ref (aX 2)) (C := RX3) (T := TX3) (N := 3) hx hb hts xu_X3 hown hK hP 37 rfl rfl 1 (by decide) (hts _ xw_169) (fun _ h9 => h9) rfl dX5_count_24 ?_
      refine lv_iload_n hx hb dX5_count_27 rfl (lv_at hl 1 rfl) ?_
      obtain ⟨hi9, h⟩ := xi_g h
      refine va_iald hx hb hK hP 39 0 rfl rfl hi9 dX5_count_28 ?_
      obtain rfl := Option.some.inj h
      exact xe_i C hP hD hS dX5_count_29
    · replace h := xi_f c9 h
      exact kX5_count_10 C hlt _ _ _ _ h _ _ _ hP hD hS (lv_sub hl [] rfl)
