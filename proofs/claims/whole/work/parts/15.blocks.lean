abbrev oX0_refuseBeyondEnd (aB : Nat → Nat) (aO : Nat → Nat) (K : Nat → ClassId) (r : (String × (S0 × S3)) ⊕ (Unit × (S0 × S3))) : xO := match r with
  | .inl q => .inl (q.1, w0 aB K q.2.1 ++ w3 aO K q.2.2)
  | .inr q => .inr (none, w0 aB K q.2.1 ++ w3 aO K q.2.2)
def fX0_refuseBeyondEnd (B : S0) (O : S3) (p2 : Int32) : Option ((String × (S0 × S3)) ⊕ (Unit × (S0 × S3))) := (if p2 ≤ (B.2.2.2 - O.2.2) then some (.inr ((), (B, O))) else some (.inl ("java/lang/IllegalArgumentException", (B, O))))
set_option maxHeartbeats 4000000 in
set_option maxRecDepth 100000 in
theorem mX0_refuseBeyondEnd (l : Launch) (hlt : l.stackTraces = false) (D : va_G) (K : Nat → ClassId) (aB : Nat → Nat) (aO : Nat → Nat) (sz : Nat) (B : S0) (O : S3) (p2 : Int32) (r : (String × (S0 × S3)) ⊕ (Unit × (S0 × S3))) (h : fX0_refuseBeyondEnd B O p2 = some r) : xMet l yX0_refuseBeyondEnd cX0_refuseBeyondEnd 3 none 6 90 D K [.ref (aB 0), .ref (aO 0), .int p2] sz (w0 aB K B ++ w3 aO K O) (oX0_refuseBeyondEnd aB aO K r) := by
  refine xm_of _ (by decide +kernel) (Nat.le_of_ble_eq_true rfl) (fun p e s m args below meth c A C hP hD ls hl => ?_)
  have hl : lv_has ls 3 [(0, .ref (aB 0)), (1, .ref (aO 0)), (2, .int p2)] := hl
  have hS : va_S A s.heap s.heap [] := va_S.rf
  obtain ⟨hx, hb, hr, hml, hown, hK, hts, hA, hG, hlk, hte, hnm⟩ := id C
  replace h : (if p2 ≤ (B.2.2.2 - O.2.2) then some (.inr ((), (B, O))) else some (.inl ("java/lang/IllegalArgumentException", (B, O)))) = some r := h
  refine lv_iload_n hx hb dX0_refuseBeyondEnd_0 rfl (lv_at hl 2 rfl) ?_
  refine lv_aload_n hx hb dX0_refuseBeyondEnd_1 rfl (lv_at hl 0 rfl) ?_
  refine va_get (D := D) (ci := 0) (v := .int B.2.2.2) (C := RX0) (T := TX0) (N := 4) hx hb hts xu_X0 hown hK hP 0 rfl rfl 3 (by decide) (hts _ xw_140) (fun _ h9 => h9) rfl dX0_refuseBeyondEnd_2 ?_
  refine lv_aload_n hx hb dX0_refuseBeyondEnd_5 rfl (lv_at hl 1 rfl) ?_
  refine va_getN (D := D) (ci := 3) (v := .int O.2.2) (C := RX3) (T := TX3) (N := 3) hx hb hts xu_X3 hown hK hP 34 rfl rfl 2 (by decide) (hts _ xw_171) (fun _ h9 => h9) rfl dX0_refuseBeyondEnd_6 ?_
  refine lv_isub hx hb dX0_refuseBeyondEnd_9 ?_
  refine lv_icmp_le (tgt := 23) hx hb dX0_refuseBeyondEnd_10 (by decide) (fun c9 => ?_) (fun c9 => ?_)
  · replace h := xi_t c9 h
    obtain rfl := Option.some.inj h
    exact xe_v C hP hD hS dX0_refuseBeyondEnd_23
  · replace h := xi_f c9 h
    obtain rfl := Option.some.inj h
    exact xe_throw C hlt (text := "the block would have more than its length") xf_IllegalArgumentException xf_names xw_359 xw_44 (List.mem_of_getElem? (i := 13) rfl) xat_X0_51 xgd_X0_51 hl hP hD hS dX0_refuseBeyondEnd_13 dX0_refuseBeyondEnd_16 dX0_refuseBeyondEnd_17 dX0_refuseBeyondEnd_19 dX0_refuseBeyondEnd_22 (Nat.le_of_ble_eq_true rfl) (Nat.le_of_ble_eq_true rfl)
abbrev oX0_readDistance (aS : Nat → Nat) (K : Nat → ClassId) (r : (String × (S4)) ⊕ (Int32 × (S4))) : xO := match r with
  | .inl q => .inl (q.1, w4 aS K q.2)
  | .inr q => .inr ((some (.int q.1)), w4 aS K q.2)
def fX0_readDistance (S : S4) (p1 : Int32) : Option ((String × (S4)) ⊕ (Int32 × (S4))) := xbnd (fX4_readNumber S ((1 : Int32) + (p1 / (2 : Int32)))) (fun E9 s_2 => .inl (E9, s_2)) (fun v_1 s_2 => some (.inr ((((((2 : Int32) + (p1 - p1 / (2 : Int32) * (2 : Int32))) <<< (((1 : Int32) + (p1 / (2 : Int32))) &&& 31)) - (3 : Int32)) + v_1), s_2)))
set_option maxHeartbeats 4000000 in
set_option maxRecDepth 100000 in
theorem mX0_readDistance (l : Launch) (hlt : l.stackTraces = false) (D : va_G) (K : Nat → ClassId) (aS : Nat → Nat) (sz : Nat) (S : S4) (p1 : Int32) (r : (String × (S4)) ⊕ (Int32 × (S4))) (h : fX0_readDistance S p1 = some r) : xMet l yX0_readDistance cX0_readDistance 3 (some .int) 7 113 D K [.ref (aS 0), .int p1] sz (w4 aS K S) (oX0_readDistance aS K r) := by
  refine xm_of _ (by decide +kernel) (Nat.le_of_ble_eq_true rfl) (fun p e s m args below meth c A C hP hD ls hl => ?_)
  have hl : lv_has ls 3 [(0, .ref (aS 0)), (1, .int p1)] := hl
  have hS : va_S A s.heap s.heap [] := va_S.rf
  obtain ⟨hx, hb, hr, hml, hown, hK, hts, hA, hG, hlk, hte, hnm⟩ := id C
  replace h : xbnd (fX4_readNumber S ((1 : Int32) + (p1 / (2 : Int32)))) (fun E9 s_2 => .inl (E9, s_2)) (fun v_1 s_2 => some (.inr ((((((2 : Int32) + (p1 - p1 / (2 : Int32) * (2 : Int32))) <<< (((1 : Int32) + (p1 / (2 : Int32))) &&& 31)) - (3 : Int32)) + v_1), s_2))) = some r := h
  refine lv_iconst (v := (1 : Int32)) hx hb dX0_readDistance_0 (by decide) ?_
  refine lv_iload_n hx hb dX0_readDistance_1 rfl (lv_at hl 1 rfl) ?_
  refine lv_iconst (v := (2 : Int32)) hx hb dX0_readDistance_2 (by decide) ?_
  refine lv_idiv hx hb dX0_readDistance_3 (by decide) ?_
  refine lv_iadd hx hb dX0_readDistance_4 ?_
  refine lv_istore_n (lv' := [(2, .int ((1 : Int32) + (p1 / (2 : Int32)))), (0, .ref (aS 0)), (1, .int p1)]) hx hb dX0_readDistance_5 rfl hl (by decide) rfl (fun ls hl => ?_)
  refine lv_iconst (v := (2 : Int32)) hx hb dX0_readDistance_6 (by decide) ?_
  refine lv_iload_n hx hb dX0_readDistance_7 rfl (lv_at hl 2 rfl) ?_
  refine lv_iconst (v := (2 : Int32)) hx hb dX0_readDistance_8 (by decide) ?_
  refine lv_irem hx hb dX0_readDistance_9 (by decide) ?_
  refine lv_iadd hx hb dX0_readDistance_10 ?_
  refine lv_iload_n hx hb dX0_readDistance_11 rfl (lv_at hl 0 rfl) ?_
  refine lv_ishl hx hb dX0_readDistance_12 ?_
  refine lv_iconst (v := (3 : Int32)) hx hb dX0_readDistance_13 (by decide) ?_
  refine lv_isub hx hb dX0_readDistance_14 ?_
  refine lv_aload_n hx hb dX0_readDistance_15 rfl (lv_at hl 1 rfl) ?_
  refine lv_iload_n hx hb dX0_readDistance_16 rfl (lv_at hl 0 rfl) ?_
  rcases xi_c h with ⟨E9, s_2, hc9, rfl⟩ | ⟨v_1, s_2, hc9, h⟩
  · exact xc_Vt (As := [.int ((1 : Int32) + (p1 / (2 : Int32)))]) (ws' := w4 aS K s_2) C (mX4_readNumber l hlt D K aS _ _ _ _ hc9) xgi_X0_28 xd_X4_readNumber ⟨Nat.le_of_ble_eq_true rfl, Nat.le_of_ble_eq_true rfl⟩ ⟨Nat.le_refl _, Nat.le_refl _⟩ hl rfl (Nat.le_of_ble_eq_true rfl) dX0_readDistance_17 hP hD hS 0 4 rfl rfl rfl [0, 1] rfl rfl [(0, w4 aS K s_2)] rfl rfl rfl (List.forall_mem_cons.mpr ⟨Nat.le_of_ble_eq_true rfl, (fun _ h => absurd h List.not_mem_nil)⟩)
  · refine xc_V (As := [.int ((1 : Int32) + (p1 / (2 : Int32)))]) (ws' := w4 aS K s_2) C (mX4_readNumber l hlt D K aS _ _ _ _ hc9) xgi_X0_28 xd_X4_readNumber ⟨Nat.le_of_ble_eq_true rfl, Nat.le_of_ble_eq_true rfl⟩ ⟨Nat.zero_le _, Nat.zero_le _⟩ hl rfl (Nat.le_of_ble_eq_true rfl) dX0_readDistance_17 hP hD hS 0 4 rfl rfl rfl [0, 1] rfl rfl [(0, w4 aS K s_2)] rfl rfl rfl (List.forall_mem_cons.mpr ⟨Nat.le_of_ble_eq_true rfl, (fun _ h => absurd h List.not_mem_nil)⟩) (fun H locs hP hD hS => ?_)
    refine W.eq (g2 := F0 m 20 ls [.int v_1, .int ((((2 : Int32) + (p1 - p1 / (2 : Int32) * (2 : Int32))) <<< (((1 : Int32) + (p1 / (2 : Int32))) &&& 31)) - (3 : Int32))]) rfl ?_
    refine lv_iadd hx hb dX0_readDistance_20 ?_
    obtain rfl := Option.some.inj h
    exact xe_i C hP hD hS dX0_readDistance_21
abbrev oX0_addWord (aB : Nat → Nat) (aO : Nat → Nat) (K : Nat → ClassId) (r : (String × (S0 × S3)) ⊕ (Unit × (S0 × S3))) : xO := match r with
  | .inl q => .inl (q.1, w0 aB K q.2.1 ++ w3 aO K q.2.2)
  | .inr q => .inr (none, w0 aB K q.2.1 ++ w3 aO K q.2.2)
def fX0_addWord_161 (rec93 : S0 → S3 → Int32 → Int32 → Int32 → Int32 → Int32 → Option ((String × (S0 × S3)) ⊕ (Unit × (S0 × S3)))) (B : S0) (O : S3) (x3 : Int32) (x4 : Int32) (x5 : Int32) (x7 : Int32) (x8 : Int32) (t1 : Int32) : Option ((String × (S0 × S3)) ⊕ (Unit × (S0 × S3))) := xbnd0 (fX3_add O t1 (3 : Int32)) (fun v_5 s_6 => rec93 B s_6 x3 x4 x5 x7 (x8 + (1 : Int32)))
def fX0_addWord_144 (rec93 : S0 → S3 → Int32 → Int32 → Int32 → Int32 → Int32 → Option ((String × (S0 × S3)) ⊕ (Unit × (S0 × S3)))) (B : S0) (O : S3) (x3 : Int32) (x4 : Int32) (x5 : Int32) (x7 : Int32) (x8 : Int32) (x9 : Int32) (t0 : Int32) : Option ((String × (S0 × S3)) ⊕ (Unit × (S0 × S3))) := (if t0 = 0 then fX0_addWord_161 rec93 B O x3 x4 x5 x7 x8 x9 else fX0_addWord_161 rec93 B O x3 x4 x5 x7 x8 (x9 ^^^ (1 : Int32)))
def fX0_addWord_143 (rec93 : S0 → S3 → Int32 → Int32 → Int32 → Int32 → Int32 → Option ((String × (S0 × S3)) ⊕ (Unit × (S0 × S3)))) (B : S0) (O : S3) (x3 : Int32) (x4 : Int32) (x5 : Int32) (x7 : Int32) (x8 : Int32) (x9 : Int32) : Option ((String × (S0 × S3)) ⊕ (Unit × (S0 × S3))) := fX0_addWord_144 rec93 B O x3 x4 x5 x7 x8 x9 (0 : Int32)
def fX0_addWord_93 : Nat → S0 → S3 → Int32 → Int32 → Int32 → Int32 → Int32 → Option ((String × (S0 × S3)) ⊕ (Unit × (S0 × S3)))
  | 0 => fun _ _ _ _ _ _ _ => none
  | fu + 1 => fun B O x3 x4 x5 x7 x8 => (if x7 ≤ x8 then (if x5 = (4 : Int32) then xbnd0 (fX3_add O (0 : Int32) (3 : Int32)) (fun v_3 s_4 => some (.inr ((), (B, s_4)))) else some (.inr ((), (B, O)))) else (if x5 = (1 : Int32) then (if x8 = 0 then fX0_addWord_144 (fX0_addWord_93 fu) B O x3 x4 x5 x7 x8 ((((((7 : Int32) * x4) + ((5 : Int32) * x3)) + (((3 : Int32) * x8) * x8)) + (x8 * x4)) - (((((7 : Int32) * x4) + ((5 : Int32) * x3)) + (((3 : Int32) * x8) * x8)) + (x8 * x4)) / (32 : Int32) * (32 : Int32)) (1 : Int32) else fX0_addWord_143 (fX0_addWord_93 fu) B O x3 x4 x5 x7 x8 ((((((7 : Int32) * x4) + ((5 : Int32) * x3)) + (((3 : Int32) * x8) * x8)) + (x8 * x4)) - (((((7 : Int32) * x4) + ((5 : Int32) * x3)) + (((3 : Int32) * x8) * x8)) + (x8 * x4)) / (32 : Int32) * (32 : Int32))) else fX0_addWord_143 (fX0_addWord_93 fu) B O x3 x4 x5 x7 x8 ((((((7 : Int32) * x4) + ((5 : Int32) * x3)) + (((3 : Int32) * x8) * x8)) + (x8 * x4)) - (((((7 : Int32) * x4) + ((5 : Int32) * x3)) + (((3 : Int32) * x8) * x8)) + (x8 * x4)) / (32 : Int32) * (32 : Int32))))
def fX0_addWord_86 (B : S0) (O : S3) (x3 : Int32) (x4 : Int32) (x5 : Int32) (x6 : Int32) (x7 : Int32) (t2 : Int32) : Option ((String × (S0 × S3)) ⊕ (Unit × (S0 × S3))) := xbnd (fX0_refuseBeyondEnd B O t2) (fun E9 s_2 => .inl (E9, (s_2.1, s_2.2))) (fun v_1 s_2 => fX0_addWord_93 xF s_2.1 s_2.2 x3 x4 x5 x7 x6)
def fX0_addWord_65 (B : S0) (O : S3) (x3 : Int32) (x4 : Int32) (x5 : Int32) (x6 : Int32) (t0 : Int32) : Option ((String × (S0 × S3)) ⊕ (Unit × (S0 × S3))) := (if x5 = (4 : Int32) then fX0_addWord_86 B O x3 x4 x5 x6 t0 (x3 + (1 : Int32)) else fX0_addWord_86 B O x3 x4 x5 x6 t0 (t0 - x6))
def fX0_addWord_50 (B : S0) (O : S3) (x3 : Int32) (x4 : Int32) (x5 : Int32) (t0 : Int32) : Option ((String × (S0 × S3)) ⊕ (Unit × (S0 × S3))) := (if x5 = (3 : Int32) then fX0_addWord_65 B O x3 x4 x5 t0 (x3 - (1 : Int32)) else fX0_addWord_65 B O x3 x4 x5 t0 x3)
def fX0_addWord_29 (B : S0) (O : S3) : Option ((String × (S0 × S3)) ⊕ (Unit × (S0 × S3))) := some (.inl ("java/lang/IllegalArgumentException", (B, O)))
def fX0_addWord (B : S0) (O : S3) (p2 : Int32) (p3 : Int32) : Option ((String × (S0 × S3)) ⊕ (Unit × (S0 × S3))) := (if p3 < (3 : Int32) then fX0_addWord_29 B O else (if (6 : Int32) < p3 then fX0_addWord_29 B O else (if (p2 / (8 : Int32)) ≤ (4 : Int32) then (if (p2 / (8 : Int32)) = (2 : Int32) then fX0_addWord_50 B O p3 (p2 - p2 / (8 : Int32) * (8 : Int32)) (p2 / (8 : Int32)) (1 : Int32) else fX0_addWord_50 B O p3 (p2 - p2 / (8 : Int32) * (8 : Int32)) (p2 / (8 : Int32)) (0 : Int32)) else fX0_addWord_29 B O)))
set_option maxHeartbeats 4000000 in
set_option maxRecDepth 100000 in
theorem kX0_addWord_161 {p : Program} {l : Launch} {e : Env} {s : State} {m : MethodId} {args : Array Value} {below : List Frame} {meth : Method} {c : Code} {D : va_G} {K : Nat → ClassId} {A : Nat → Prop} {aB : Nat → Nat} {aO : Nat → Nat} (C : xC p s m args meth c cX0_addWord 11 none yX0_addWord D K A []) (hlt : l.stackTraces = false) (rec93 : S0 → S3 → Int32 → Int32 → Int32 → Int32 → Int32 → Option ((String × (S0 × S3)) ⊕ (Unit × (S0 × S3)))) (hrec93 : ∀ (B : S0) (O : S3) (x3 : Int32) (x4 : Int32) (x5 : Int32) (x7 : Int32) (x8 : Int32) (r : (String × (S0 × S3)) ⊕ (Unit × (S0 × S3))), rec93 B O x3 x4 x5 x7 x8 = some r → ∀ (H : Heap) (locs : List Loc) (ls : Array Slot), va_P D vwCl (w0 aB K B ++ w3 aO K O) H → va_D A (w0 aB K B ++ w3 aO K O) → va_S A s.heap H locs → lv_has ls 11 [(1, .ref (aO 0)), (3, .int x3), (4, .int x4), (5, .int x5), (7, .int x7), (8, .int x8)] → W p l e (xR 7 112 (oX0_addWord aB aO K r)) s m args below meth c H locs 0 0 (xQ below args s D K A (oX0_addWord aB aO K r)) (F0 m 93 ls [])) : ∀ (B : S0) (O : S3) (x3 : Int32) (x4 : Int32) (x5 : Int32) (x7 : Int32) (x8 : Int32) (t1 : Int32) (r : (String × (S0 × S3)) ⊕ (Unit × (S0 × S3))), fX0_addWord_161  rec93 B O x3 x4 x5 x7 x8 t1 = some r → ∀ (H : Heap) (locs : List Loc) (ls : Array Slot), va_P D vwCl (w0 aB K B ++ w3 aO K O) H → va_D A (w0 aB K B ++ w3 aO K O) → va_S A s.heap H locs → lv_has ls 11 [(1, .ref (aO 0)), (3, .int x3), (4, .int x4), (5, .int x5), (7, .int x7), (8, .int x8)] → W p l e (xR 7 112 (oX0_addWord aB aO K r)) s m args below meth c H locs 0 0 (xQ below args s D K A (oX0_addWord aB aO K r)) (F0 m 161 ls [.int t1, .ref (aO 0)]) := by
  obtain ⟨hx, hb, hr, hml, hown, hK, hts, hA, hG, hlk, hte, hnm⟩ := id C
  intro B O x3 x4 x5 x7 x8 t1 r h H locs ls hP hD hS hl
  replace h : xbnd0 (fX3_add O t1 (3 : Int32)) (fun v_5 s_6 => rec93 B s_6 x3 x4 x5 x7 (x8 + (1 : Int32))) = some r := h
  refine lv_iconst (v := (3 : Int32)) hx hb dX0_addWord_161 (by decide) ?_
  obtain ⟨v_5, s_6, hc9, h⟩ := xi_d h
  refine xc_V (As := [.int t1, .int (3 : Int32)]) (ws' := w0 aB K B ++ w3 aO K s_6) C (mX3_add l D K aO _ _ _ _ _ hc9) xgi_X0_61 xd_X3_add ⟨Nat.le_of_ble_eq_true rfl, Nat.le_of_ble_eq_true rfl⟩ ⟨Nat.zero_le _, Nat.zero_le _⟩ hl rfl (Nat.le_of_ble_eq_true rfl) dX0_addWord_162 hP hD hS 34 3 rfl rfl rfl [34, 35, 36] rfl rfl [(34, w3 aO K s_6)] rfl rfl rfl (List.forall_mem_cons.mpr ⟨Nat.le_of_ble_eq_true rfl, (fun _ h => absurd h List.not_mem_nil)⟩) (fun H locs hP hD hS => ?_)
  refine W.eq (g2 := F0 m 165 ls []) rfl ?_
  refine lv_iinc (v := (x8 + (1 : Int32))) (lv' := [(8, .int (x8 + (1 : Int32))), (1, .ref (aO 0)), (3, .int x3), (4, .int x4), (5, .int x5), (7, .int x7)]) hx hb dX0_addWord_165 hl (k := 5) rfl (by rfl) (by decide) rfl (fun ls hl => ?_)
  refine lv_goto (tgt := 93) hx hb dX0_addWord_168 (by decide) ?_
  exact hrec93 _ _ _ _ _ _ _ _ h _ _ _ hP hD hS (lv_sub hl [1, 2, 3, 4, 5, 0] rfl)
set_option maxHeartbeats 4000000 in
set_option maxRecDepth 100000 in
theorem kX0_addWord_144 {p : Program} {l : Launch} {e : Env} {s : State} {m : MethodId} {args : Array Value} {below : List Frame} {meth : Method} {c : Code} {D : va_G} {K : Nat → ClassId} {A : Nat → Prop} {aB : Nat → Nat} {aO : Nat → Nat} (C : xC p s m args meth c cX0_addWord 11 none yX0_addWord D K A []) (hlt : l.stackTraces = false) (rec93 : S0 → S3 → Int32 → Int32 → Int32 → Int32 → Int32 → Option ((String × (S0 × S3)) ⊕ (Unit × (S0 × S3)))) (hrec93 : ∀ (B : S0) (O : S3) (x3 : Int32) (x4 : Int32) (x5 : Int32) (x7 : Int32) (x8 : Int32) (r : (String × (S0 × S3)) ⊕ (Unit × (S0 × S3))), rec93 B O x3 x4 x5 x7 x8 = some r → ∀ (H : Heap) (locs : List Loc) (ls : Array Slot), va_P D vwCl (w0 aB K B ++ w3 aO K O) H → va_D A (w0 aB K B ++ w3 aO K O) → va_S A s.heap H locs → lv_has ls 11 [(1, .ref (aO 0)), (3, .int x3), (4, .int x4), (5, .int x5), (7, .int x7), (8, .int x8)] → W p l e (xR 7 112 (oX0_addWord aB aO K r)) s m args below meth c H locs 0 0 (xQ below args s D K A (oX0_addWord aB aO K r)) (F0 m 93 ls [])) : ∀ (B : S0) (O : S3) (x3 : Int32) (x4 : Int32) (x5 : Int32) (x7 : Int32) (x8 : Int32) (x9 : Int32) (t0 : Int32) (r : (String × (S0 × S3)) ⊕ (Unit × (S0 × S3))), fX0_addWord_144  rec93 B O x3 x4 x5 x7 x8 x9 t0 = some r → ∀ (H : Heap) (locs : List Loc) (ls : Array Slot), va_P D vwCl (w0 aB K B ++ w3 aO K O) H → va_D A (w0 aB K B ++ w3 aO K O) → va_S A s.heap H locs → lv_has ls 11 [(1, .ref (aO 0)), (3, .int x3), (4, .int x4), (5, .int x5), (7, .int x7), (8, .int x8), (9, .int x9)] → W p l e (xR 7 112 (oX0_addWord aB aO K r)) s m args below meth c H locs 0 0 (xQ below args s D K A (oX0_addWord aB aO K r)) (F0 m 144 ls [.int t0]) := by
  obtain ⟨hx, hb, hr, hml, hown, hK, hts, hA, hG, hlk, hte, hnm⟩ := id C
  intro B O x3 x4 x5 x7 x8 x9 t0 r h H locs ls hP hD hS hl
  replace h : (if t0 = 0 then fX0_addWord_161 rec93 B O x3 x4 x5 x7 x8 x9 else fX0_addWord_161 rec93 B O x3 x4 x5 x7 x8 (x9 ^^^ (1 : Int32))) = some r := h
  refine lv_istore (lv' := [(10, .int t0), (1, .ref (aO 0)), (3, .int x3), (4, .int x4), (5, .int x5), (7, .int x7), (8, .int x8), (9, .int x9)]) hx hb dX0_addWord_144 hl (by decide) rfl (fun ls hl => ?_)
  refine lv_aload_n hx hb dX0_addWord_146 rfl (lv_at hl 1 rfl) ?_
  refine lv_iload hx hb dX0_addWord_147 (lv_at hl 0 rfl) ?_
  refine lv_if_eq (tgt := 159) hx hb dX0_addWord_149 (by decide) (fun c9 => ?_) (fun c9 => ?_)
  · replace h := xi_t c9 h
    refine lv_iload hx hb dX0_addWord_159 (lv_at hl 7 rfl) ?_
    exact kX0_addWord_161 C hlt _ hrec93 _ _ _ _ _ _ _ _ _ h _ _ _ hP hD hS (lv_sub hl [1, 2, 3, 4, 5, 6] rfl)
  · replace h := xi_f c9 h
    refine lv_iload hx hb dX0_addWord_152 (lv_at hl 7 rfl) ?_
    refine lv_iconst (v := (1 : Int32)) hx hb dX0_addWord_154 (by decide) ?_
    refine lv_ixor hx hb dX0_addWord_155 ?_
    refine lv_goto (tgt := 161) hx hb dX0_addWord_156 (by decide) ?_
    exact kX0_addWord_161 C hlt _ hrec93 _ _ _ _ _ _ _ _ _ h _ _ _ hP hD hS (lv_sub hl [1, 2, 3, 4, 5, 6] rfl)
set_option maxHeartbeats 4000000 in
set_option maxRecDepth 100000 in
theorem kX0_addWord_143 {p : Program} {l : Launch} {e : Env} {s : State} {m : MethodId} {args : Array Value} {below : List Frame} {meth : Method} {c : Code} {D : va_G} {K : Nat → ClassId} {A : Nat → Prop} {aB : Nat → Nat} {aO : Nat → Nat} (C : xC p s m args meth c cX0_addWord 11 none yX0_addWord D K A []) (hlt : l.stackTraces = false) (rec93 : S0 → S3 → Int32 → Int32 → Int32 → Int32 → Int32 → Option ((String × (S0 × S3)) ⊕ (Unit × (S0 × S3)))) (hrec93 : ∀ (B : S0) (O : S3) (x3 : Int32) (x4 : Int32) (x5 : Int32) (x7 : Int32) (x8 : Int32) (r : (String × (S0 × S3)) ⊕ (Unit × (S0 × S3))), rec93 B O x3 x4 x5 x7 x8 = some r → ∀ (H : Heap) (locs : List Loc) (ls : Array Slot), va_P D vwCl (w0 aB K B ++ w3 aO K O) H → va_D A (w0 aB K B ++ w3 aO K O) → va_S A s.heap H locs → lv_has ls 11 [(1, .ref (aO 0)), (3, .int x3), (4, .int x4), (5, .int x5), (7, .int x7), (8, .int x8)] → W p l e (xR 7 112 (oX0_addWord aB aO K r)) s m args below meth c H locs 0 0 (xQ below args s D K A (oX0_addWord aB aO K r)) (F0 m 93 ls [])) : ∀ (B : S0) (O : S3) (x3 : Int32) (x4 : Int32) (x5 : Int32) (x7 : Int32) (x8 : Int32) (x9 : Int32) (r : (String × (S0 × S3)) ⊕ (Unit × (S0 × S3))), fX0_addWord_143  rec93 B O x3 x4 x5 x7 x8 x9 = some r → ∀ (H : Heap) (locs : List Loc) (ls : Array Slot), va_P D vwCl (w0 aB K B ++ w3 aO K O) H → va_D A (w0 aB K B ++ w3 aO K O) → va_S A s.heap H locs → lv_has ls 11 [(1, .ref (aO 0)), (3, .int x3), (4, .int x4), (5, .int x5), (7, .int x7), (8, .int x8), (9, .int x9)] → W p l e (xR 7 112 (oX0_addWord aB aO K r)) s m args below meth c H locs 0 0 (xQ below args s D K A (oX0_addWord aB aO K r)) (F0 m 143 ls []) := by
  obtain ⟨hx, hb, hr, hml, hown, hK, hts, hA, hG, hlk, hte, hnm⟩ := id C
  intro B O x3 x4 x5 x7 x8 x9 r h H locs ls hP hD hS hl
  replace h : fX0_addWord_144 rec93 B O x3 x4 x5 x7 x8 x9 (0 : Int32) = some r := h
  refine lv_iconst (v := (0 : Int32)) hx hb dX0_addWord_143 (by decide) ?_
  exact kX0_addWord_144 C hlt _ hrec93 _ _ _ _ _ _ _ _ _ _ h _ _ _ hP hD hS (lv_sub hl [0, 1, 2, 3, 4, 5, 6] rfl)
set_option maxHeartbeats 4000000 in
set_option maxRecDepth 100000 in
theorem kX0_addWord_93 {p : Program} {l : Launch} {e : Env} {s : State} {m : MethodId} {args : Array Value} {below : List Frame} {meth : Method} {c : Code} {D : va_G} {K : Nat → ClassId} {A : Nat → Prop} {aB : Nat → Nat} {aO : Nat → Nat} (C : xC p s m args meth c cX0_addWord 11 none yX0_addWord D K A []) (hlt : l.stackTraces = false) : ∀ fu : Nat, ∀ (B : S0) (O : S3) (x3 : Int32) (x4 : Int32) (x5 : Int32) (x7 : Int32) (x8 : Int32) (r : (String × (S0 × S3)) ⊕ (Unit × (S0 × S3))), fX0_addWord_93 fu B O x3 x4 x5 x7 x8 = some r → ∀ (H : Heap) (locs : List Loc) (ls : Array Slot), va_P D vwCl (w0 aB K B ++ w3 aO K O) H → va_D A (w0 aB K B ++ w3 aO K O) → va_S A s.heap H locs → lv_has ls 11 [(1, .ref (aO 0)), (3, .int x3), (4, .int x4), (5, .int x5), (7, .int x7), (8, .int x8)] → W p l e (xR 7 112 (oX0_addWord aB aO K r)) s m args below meth c H locs 0 0 (xQ below args s D K A (oX0_addWord aB aO K r)) (F0 m 93 ls []) := by
  obtain ⟨hx, hb, hr, hml, hown, hK, hts, hA, hG, hlk, hte, hnm⟩ := id C
  intro fu
  induction fu with
  | zero =>
    intro B O x3 x4 x5 x7 x8 r h
    exact nomatch (show (none : Option ((String × (S0 × S3)) ⊕ (Unit × (S0 × S3)))) = some r from h)
  | succ fu ih =>
    intro B O x3 x4 x5 x7 x8 r h H locs ls hP hD hS hl
    replace h : (if x7 ≤ x8 then (if x5 = (4 : Int32) then xbnd0 (fX3_add O (0 : Int32) (3 : Int32)) (fun v_3 s_4 => some (.inr ((), (B, s_4)))) else some (.inr ((), (B, O)))) else (if x5 = (1 : Int32) then (if x8 = 0 then fX0_addWord_144 (fX0_addWord_93 fu) B O x3 x4 x5 x7 x8 ((((((7 : Int32) * x4) + ((5 : Int32) * x3)) + (((3 : Int32) * x8) * x8)) + (x8 * x4)) - (((((7 : Int32) * x4) + ((5 : Int32) * x3)) + (((3 : Int32) * x8) * x8)) + (x8 * x4)) / (32 : Int32) * (32 : Int32)) (1 : Int32) else fX0_addWord_143 (fX0_addWord_93 fu) B O x3 x4 x5 x7 x8 ((((((7 : Int32) * x4) + ((5 : Int32) * x3)) + (((3 : Int32) * x8) * x8)) + (x8 * x4)) - (((((7 : Int32) * x4) + ((5 : Int32) * x3)) + (((3 : Int32) * x8) * x8)) + (x8 * x4)) / (32 : Int32) * (32 : Int32))) else fX0_addWord_143 (fX0_addWord_93 fu) B O x3 x4 x5 x7 x8 ((((((7 : Int32) * x4) + ((5 : Int32) * x3)) + (((3 : Int32) * x8) * x8)) + (x8 * x4)) - (((((7 : Int32) * x4) + ((5 : Int32) * x3)) + (((3 : Int32) * x8) * x8)) + (x8 * x4)) / (32 : Int32) * (32 : Int32)))) = some r := h
    refine lv_iload hx hb dX0_addWord_93 (lv_at hl 5 rfl) ?_
    refine lv_iload hx hb dX0_addWord_95 (lv_at hl 4 rfl) ?_
    refine lv_icmp_ge (tgt := 171) hx hb dX0_addWord_97 (by decide) (fun c9 => ?_) (fun c9 => ?_)
    · replace h := xi_t c9 h
      refine lv_iload hx hb dX0_addWord_171 (lv_at hl 3 rfl) ?_
      refine lv_iconst (v := (4 : Int32)) hx hb dX0_addWord_173 (by decide) ?_
      refine lv_icmp_ne (tgt := 183) hx hb dX0_addWord_174 (by decide) (fun c9 => ?_) (fun c9 => ?_)
      · replace h := xi_f c9 h
        obtain rfl := Option.some.inj h
        exact xe_v C hP hD hS dX0_addWord_183
      · replace h := xi_t c9 h
        refine lv_aload_n hx hb dX0_addWord_177 rfl (lv_at hl 0 rfl) ?_
        refine lv_iconst (v := (0 : Int32)) hx hb dX0_addWord_178 (by decide) ?_
        refine lv_iconst (v := (3 : Int32)) hx hb dX0_addWord_179 (by decide) ?_
        obtain ⟨v_3, s_4, hc9, h⟩ := xi_d h
        refine xc_V (As := [.int (0 : Int32), .int (3 : Int32)]) (ws' := w0 aB K B ++ w3 aO K s_4) C (mX3_add l D K aO _ _ _ _ _ hc9) xgi_X0_61 xd_X3_add ⟨Nat.le_of_ble_eq_true rfl, Nat.le_of_ble_eq_true rfl⟩ ⟨Nat.zero_le _, Nat.zero_le _⟩ hl rfl (Nat.le_of_ble_eq_true rfl) dX0_addWord_180 hP hD hS 34 3 rfl rfl rfl [34, 35, 36] rfl rfl [(34, w3 aO K s_4)] rfl rfl rfl (List.forall_mem_cons.mpr ⟨Nat.le_of_ble_eq_true rfl, (fun _ h => absurd h List.not_mem_nil)⟩) (fun H locs hP hD hS => ?_)
        refine W.eq (g2 := F0 m 183 ls []) rfl ?_
        obtain rfl := Option.some.inj h
        exact xe_v C hP hD hS dX0_addWord_183
    · replace h := xi_f c9 h
      refine lv_bipush (v := (7 : Int32)) hx hb dX0_addWord_100 (by decide) ?_
      refine lv_iload hx hb dX0_addWord_102 (lv_at hl 2 rfl) ?_
      refine lv_imul hx hb dX0_addWord_104 ?_
      refine lv_iconst (v := (5 : Int32)) hx hb dX0_addWord_105 (by decide) ?_
      refine lv_iload_n hx hb dX0_addWord_106 rfl (lv_at hl 1 rfl) ?_
      refine lv_imul hx hb dX0_addWord_107 ?_
      refine lv_iadd hx hb dX0_addWord_108 ?_
      refine lv_iconst (v := (3 : Int32)) hx hb dX0_addWord_109 (by decide) ?_
      refine lv_iload hx hb dX0_addWord_110 (lv_at hl 5 rfl) ?_
      refine lv_imul hx hb dX0_addWord_112 ?_
      refine lv_iload hx hb dX0_addWord_113 (lv_at hl 5 rfl) ?_
      refine lv_imul hx hb dX0_addWord_115 ?_
      refine lv_iadd hx hb dX0_addWord_116 ?_
      refine lv_iload hx hb dX0_addWord_117 (lv_at hl 5 rfl) ?_
      refine lv_iload hx hb dX0_addWord_119 (lv_at hl 2 rfl) ?_
      refine lv_imul hx hb dX0_addWord_121 ?_
      refine lv_iadd hx hb dX0_addWord_122 ?_
      refine lv_bipush (v := (32 : Int32)) hx hb dX0_addWord_123 (by decide) ?_
      refine lv_irem hx hb dX0_addWord_125 (by decide) ?_
      refine lv_istore (lv' := [(9, .int ((((((7 : Int32) * x4) + ((5 : Int32) * x3)) + (((3 : Int32) * x8) * x8)) + (x8 * x4)) - (((((7 : Int32) * x4) + ((5 : Int32) * x3)) + (((3 : Int32) * x8) * x8)) + (x8 * x4)) / (32 : Int32) * (32 : Int32))), (1, .ref (aO 0)), (3, .int x3), (4, .int x4), (5, .int x5), (7, .int x7), (8, .int x8)]) hx hb dX0_addWord_126 hl (by decide) rfl (fun ls hl => ?_)
      refine lv_iload hx hb dX0_addWord_128 (lv_at hl 4 rfl) ?_
      refine lv_iconst (v := (1 : Int32)) hx hb dX0_addWord_130 (by decide) ?_
      refine lv_icmp_ne (tgt := 143) hx hb dX0_addWord_131 (by decide) (fun c9 => ?_) (fun c9 => ?_)
      · replace h := xi_f c9 h
        exact kX0_addWord_143 C hlt _ ih _ _ _ _ _ _ _ _ _ h _ _ _ hP hD hS (lv_sub hl [1, 2, 3, 4, 5, 6, 0] rfl)
      · replace h := xi_t c9 h
        refine lv_iload hx hb dX0_addWord_134 (lv_at hl 6 rfl) ?_
        refine lv_if_ne (tgt := 143) hx hb dX0_addWord_136 (by decide) (fun c9 => ?_) (fun c9 => ?_)
        · replace h := xi_f c9 h
          exact kX0_addWord_143 C hlt _ ih _ _ _ _ _ _ _ _ _ h _ _ _ hP hD hS (lv_sub hl [1, 2, 3, 4, 5, 6, 0] rfl)
        · replace h := xi_t c9 h
          refine lv_iconst (v := (1 : Int32)) hx hb dX0_addWord_139 (by decide) ?_
          refine lv_goto (tgt := 144) hx hb dX0_addWord_140 (by decide) ?_
          exact kX0_addWord_144 C hlt _ ih _ _ _ _ _ _ _ _ _ _ h _ _ _ hP hD hS (lv_sub hl [1, 2, 3, 4, 5, 6, 0] rfl)
set_option maxHeartbeats 4000000 in
set_option maxRecDepth 100000 in
theorem kX0_addWord_86 {p : Program} {l : Launch} {e : Env} {s : State} {m : MethodId} {args : Array Value} {below : List Frame} {meth : Method} {c : Code} {D : va_G} {K : Nat → ClassId} {A : Nat → Prop} {aB : Nat → Nat} {aO : Nat → Nat} (C : xC p s m args meth c cX0_addWord 11 none yX0_addWord D K A []) (hlt : l.stackTraces = false) : ∀ (B : S0) (O : S3) (x3 : Int32) (x4 : Int32) (x5 : Int32) (x6 : Int32) (x7 : Int32) (t2 : Int32) (r : (String × (S0 × S3)) ⊕ (Unit × (S0 × S3))), fX0_addWord_86  B O x3 x4 x5 x6 x7 t2 = some r → ∀ (H : Heap) (locs : List Loc) (ls : Array Slot), va_P D vwCl (w0 aB K B ++ w3 aO K O) H → va_D A (w0 aB K B ++ w3 aO K O) → va_S A s.heap H locs → lv_has ls 11 [(1, .ref (aO 0)), (3, .int x3), (4, .int x4), (5, .int x5), (6, .int x6), (7, .int x7)] → W p l e (xR 7 112 (oX0_addWord aB aO K r)) s m args below meth c H locs 0 0 (xQ below args s D K A (oX0_addWord aB aO K r)) (F0 m 86 ls [.int t2, .ref (aO 0), .ref (aB 0)]) := by
  obtain ⟨hx, hb, hr, hml, hown, hK, hts, hA, hG, hlk, hte, hnm⟩ := id C
  intro B O x3 x4 x5 x6 x7 t2 r h H locs ls hP hD hS hl
  replace h : xbnd (fX0_refuseBeyondEnd B O t2) (fun E9 s_2 => .inl (E9, (s_2.1, s_2.2))) (fun v_1 s_2 => fX0_addWord_93 xF s_2.1 s_2.2 x3 x4 x5 x7 x6) = some r := h
  rcases xi_c h with ⟨E9, s_2, hc9, rfl⟩ | ⟨v_1, s_2, hc9, h⟩
  · exact xc_Vt (As := [.ref (aO 0), .int t2]) (ws' := w0 aB K s_2.1 ++ w3 aO K s_2.2) C (mX0_refuseBeyondEnd l hlt D K aB aO _ _ _ _ _ hc9) xgi_X0_89 xd_X0_refuseBeyondEnd ⟨Nat.le_of_ble_eq_true rfl, Nat.le_of_ble_eq_true rfl⟩ ⟨Nat.le_refl _, Nat.le_refl _⟩ hl rfl (Nat.le_of_ble_eq_true rfl) dX0_addWord_86 hP hD hS 0 0 rfl rfl rfl [0, 1, 2, 3, 4, 5, 6, 7, 8, 9, 10, 11, 12, 13, 14, 15, 16, 17, 18, 19, 20, 21, 22, 23, 24, 25, 26, 27, 28, 29, 30, 31, 32, 33, 34, 35, 36] rfl rfl [(0, w0 aB K s_2.1), (34, w3 aO K s_2.2)] rfl rfl rfl (List.forall_mem_cons.mpr ⟨Nat.le_of_ble_eq_true rfl, (List.forall_mem_cons.mpr ⟨Nat.le_of_ble_eq_true rfl, (fun _ h => absurd h List.not_mem_nil)⟩)⟩)
  · refine xc_V (As := [.ref (aO 0), .int t2]) (ws' := w0 aB K s_2.1 ++ w3 aO K s_2.2) C (mX0_refuseBeyondEnd l hlt D K aB aO _ _ _ _ _ hc9) xgi_X0_89 xd_X0_refuseBeyondEnd ⟨Nat.le_of_ble_eq_true rfl, Nat.le_of_ble_eq_true rfl⟩ ⟨Nat.zero_le _, Nat.zero_le _⟩ hl rfl (Nat.le_of_ble_eq_true rfl) dX0_addWord_86 hP hD hS 0 0 rfl rfl rfl [0, 1, 2, 3, 4, 5, 6, 7, 8, 9, 10, 11, 12, 13, 14, 15, 16, 17, 18, 19, 20, 21, 22, 23, 24, 25, 26, 27, 28, 29, 30, 31, 32, 33, 34, 35, 36] rfl rfl [(0, w0 aB K s_2.1), (34, w3 aO K s_2.2)] rfl rfl rfl (List.forall_mem_cons.mpr ⟨Nat.le_of_ble_eq_true rfl, (List.forall_mem_cons.mpr ⟨Nat.le_of_ble_eq_true rfl, (fun _ h => absurd h List.not_mem_nil)⟩)⟩) (fun H locs hP hD hS => ?_)
    refine W.eq (g2 := F0 m 89 ls []) rfl ?_
    refine lv_iload hx hb dX0_addWord_89 (lv_at hl 4 rfl) ?_
    refine lv_istore (lv' := [(8, .int x6), (1, .ref (aO 0)), (3, .int x3), (4, .int x4), (5, .int x5), (6, .int x6), (7, .int x7)]) hx hb dX0_addWord_91 hl (by decide) rfl (fun ls hl => ?_)
    exact kX0_addWord_93 C hlt _ _ _ _ _ _ _ _ _ h _ _ _ hP hD hS (lv_sub hl [1, 2, 3, 4, 6, 0] rfl)
set_option maxHeartbeats 4000000 in
set_option maxRecDepth 100000 in
theorem kX0_addWord_65 {p : Program} {l : Launch} {e : Env} {s : State} {m : MethodId} {args : Array Value} {below : List Frame} {meth : Method} {c : Code} {D : va_G} {K : Nat → ClassId} {A : Nat → Prop} {aB : Nat → Nat} {aO : Nat → Nat} (C : xC p s m args meth c cX0_addWord 11 none yX0_addWord D K A []) (hlt : l.stackTraces = false) : ∀ (B : S0) (O : S3) (x3 : Int32) (x4 : Int32) (x5 : Int32) (x6 : Int32) (t0 : Int32) (r : (String × (S0 × S3)) ⊕ (Unit × (S0 × S3))), fX0_addWord_65  B O x3 x4 x5 x6 t0 = some r → ∀ (H : Heap) (locs : List Loc) (ls : Array Slot), va_P D vwCl (w0 aB K B ++ w3 aO K O) H → va_D A (w0 aB K B ++ w3 aO K O) → va_S A s.heap H locs → lv_has ls 11 [(0, .ref (aB 0)), (1, .ref (aO 0)), (3, .int x3), (4, .int x4), (5, .int x5), (6, .int x6)] → W p l e (xR 7 112 (oX0_addWord aB aO K r)) s m args below meth c H locs 0 0 (xQ below args s D K A (oX0_addWord aB aO K r)) (F0 m 65 ls [.int t0]) := by
  obtain ⟨hx, hb, hr, hml, hown, hK, hts, hA, hG, hlk, hte, hnm⟩ := id C
  intro B O x3 x4 x5 x6 t0 r h H locs ls hP hD hS hl
  replace h : (if x5 = (4 : Int32) then fX0_addWord_86 B O x3 x4 x5 x6 t0 (x3 + (1 : Int32)) else fX0_addWord_86 B O x3 x4 x5 x6 t0 (t0 - x6)) = some r := h
  refine lv_istore (lv' := [(7, .int t0), (0, .ref (aB 0)), (1, .ref (aO 0)), (3, .int x3), (4, .int x4), (5, .int x5), (6, .int x6)]) hx hb dX0_addWord_65 hl (by decide) rfl (fun ls hl => ?_)
  refine lv_aload_n hx hb dX0_addWord_67 rfl (lv_at hl 1 rfl) ?_
  refine lv_aload_n hx hb dX0_addWord_68 rfl (lv_at hl 2 rfl) ?_
  refine lv_iload hx hb dX0_addWord_69 (lv_at hl 5 rfl) ?_
  refine lv_iconst (v := (4 : Int32)) hx hb dX0_addWord_71 (by decide) ?_
  refine lv_icmp_ne (tgt := 81) hx hb dX0_addWord_72 (by decide) (fun c9 => ?_) (fun c9 => ?_)
  · replace h := xi_f c9 h
    refine lv_iload hx hb dX0_addWord_81 (lv_at hl 0 rfl) ?_
    refine lv_iload hx hb dX0_addWord_83 (lv_at hl 6 rfl) ?_
    refine lv_isub hx hb dX0_addWord_85 ?_
    exact kX0_addWord_86 C hlt _ _ _ _ _ _ _ _ _ h _ _ _ hP hD hS (lv_sub hl [2, 3, 4, 5, 6, 0] rfl)
  · replace h := xi_t c9 h
    refine lv_iload_n hx hb dX0_addWord_75 rfl (lv_at hl 3 rfl) ?_
    refine lv_iconst (v := (1 : Int32)) hx hb dX0_addWord_76 (by decide) ?_
    refine lv_iadd hx hb dX0_addWord_77 ?_
    refine lv_goto (tgt := 86) hx hb dX0_addWord_78 (by decide) ?_
    exact kX0_addWord_86 C hlt _ _ _ _ _ _ _ _ _ h _ _ _ hP hD hS (lv_sub hl [2, 3, 4, 5, 6, 0] rfl)
set_option maxHeartbeats 4000000 in
set_option maxRecDepth 100000 in
theorem kX0_addWord_50 {p : Program} {l : Launch} {e : Env} {s : State} {m : MethodId} {args : Array Value} {below : List Frame} {meth : Method} {c : Code} {D : va_G} {K : Nat → ClassId} {A : Nat → Prop} {aB : Nat → Nat} {aO : Nat → Nat} (C : xC p s m args meth c cX0_addWord 11 none yX0_addWord D K A []) (hlt : l.stackTraces = false) : ∀ (B : S0) (O : S3) (x3 : Int32) (x4 : Int32) (x5 : Int32) (t0 : Int32) (r : (String × (S0 × S3)) ⊕ (Unit × (S0 × S3))), fX0_addWord_50  B O x3 x4 x5 t0 = some r → ∀ (H : Heap) (locs : List Loc) (ls : Array Slot), va_P D vwCl (w0 aB K B ++ w3 aO K O) H → va_D A (w0 aB K B ++ w3 aO K O) → va_S A s.heap H locs → lv_has ls 11 [(0, .ref (aB 0)), (1, .ref (aO 0)), (3, .int x3), (4, .int x4), (5, .int x5)] → W p l e (xR 7 112 (oX0_addWord aB aO K r)) s m args below meth c H locs 0 0 (xQ below args s D K A (oX0_addWord aB aO K r)) (F0 m 50 ls [.int t0]) := by
  obtain ⟨hx, hb, hr, hml, hown, hK, hts, hA, hG, hlk, hte, hnm⟩ := id C
  intro B O x3 x4 x5 t0 r h H locs ls hP hD hS hl
  replace h : (if x5 = (3 : Int32) then fX0_addWord_65 B O x3 x4 x5 t0 (x3 - (1 : Int32)) else fX0_addWord_65 B O x3 x4 x5 t0 x3) = some r := h
  refine lv_istore (lv' := [(6, .int t0), (0, .ref (aB 0)), (1, .ref (aO 0)), (3, .int x3), (4, .int x4), (5, .int x5)]) hx hb dX0_addWord_50 hl (by decide) rfl (fun ls hl => ?_)
  refine lv_iload hx hb dX0_addWord_52 (lv_at hl 5 rfl) ?_
  refine lv_iconst (v := (3 : Int32)) hx hb dX0_addWord_54 (by decide) ?_
  refine lv_icmp_ne (tgt := 64) hx hb dX0_addWord_55 (by decide) (fun c9 => ?_) (fun c9 => ?_)
  · replace h := xi_f c9 h
    refine lv_iload_n hx hb dX0_addWord_64 rfl (lv_at hl 3 rfl) ?_
    exact kX0_addWord_65 C hlt _ _ _ _ _ _ _ _ h _ _ _ hP hD hS (lv_sub hl [1, 2, 3, 4, 5, 0] rfl)
  · replace h := xi_t c9 h
    refine lv_iload_n hx hb dX0_addWord_58 rfl (lv_at hl 3 rfl) ?_
    refine lv_iconst (v := (1 : Int32)) hx hb dX0_addWord_59 (by decide) ?_
    refine lv_isub hx hb dX0_addWord_60 ?_
    refine lv_goto (tgt := 65) hx hb dX0_addWord_61 (by decide) ?_
    exact kX0_addWord_65 C hlt _ _ _ _ _ _ _ _ h _ _ _ hP hD hS (lv_sub hl [1, 2, 3, 4, 5, 0] rfl)
set_option maxHeartbeats 4000000 in
set_option maxRecDepth 100000 in
theorem kX0_addWord_29 {p : Program} {l : Launch} {e : Env} {s : State} {m : MethodId} {args : Array Value} {below : List Frame} {meth : Method} {c : Code} {D : va_G} {K : Nat → ClassId} {A : Nat → Prop} {aB : Nat → Nat} {aO : Nat → Nat} (C : xC p s m args meth c cX0_addWord 11 none yX0_addWord D K A []) (hlt : l.stackTraces = false) : ∀ (B : S0) (O : S3) (r : (String × (S0 × S3)) ⊕ (Unit × (S0 × S3))), fX0_addWord_29  B O = some r → ∀ (H : Heap) (locs : List Loc) (ls : Array Slot), va_P D vwCl (w0 aB K B ++ w3 aO K O) H → va_D A (w0 aB K B ++ w3 aO K O) → va_S A s.heap H locs → lv_has ls 11 [] → W p l e (xR 7 112 (oX0_addWord aB aO K r)) s m args below meth c H locs 0 0 (xQ below args s D K A (oX0_addWord aB aO K r)) (F0 m 29 ls []) := by
  obtain ⟨hx, hb, hr, hml, hown, hK, hts, hA, hG, hlk, hte, hnm⟩ := id C
  intro B O r h H locs ls hP hD hS hl
  replace h : some (.inl ("java/lang/IllegalArgumentException", (B, O))) = some r := h
  obtain rfl := Option.some.inj h
  exact xe_throw C hlt (text := "there is no such word") xf_IllegalArgumentException xf_names xw_359 xw_44 (List.mem_of_getElem? (i := 14) rfl) xat_X0_51 xgd_X0_51 hl hP hD hS dX0_addWord_29 dX0_addWord_32 dX0_addWord_33 dX0_addWord_35 dX0_addWord_38 (Nat.le_of_ble_eq_true rfl) (Nat.le_of_ble_eq_true rfl)
set_option maxHeartbeats 4000000 in
set_option maxRecDepth 100000 in
theorem mX0_addWord (l : Launch) (hlt : l.stackTraces = false) (D : va_G) (K : Nat → ClassId) (aB : Nat → Nat) (aO : Nat → Nat) (sz : Nat) (B : S0) (O : S3) (p2 : Int32) (p3 : Int32) (r : (String × (S0 × S3)) ⊕ (Unit × (S0 × S3))) (h : fX0_addWord B O p2 p3 = some r) : xMet l yX0_addWord cX0_addWord 11 none 7 112 D K [.ref (aB 0), .ref (aO 0), .int p2, .int p3] sz (w0 aB K B ++ w3 aO K O) (oX0_addWord aB aO K r) := by
  refine xm_of _ (by decide +kernel) (Nat.le_of_ble_eq_true rfl) (fun p e s m args below meth c A C hP hD ls hl => ?_)
  have hl : lv_has ls 11 [(0, .ref (aB 0)), (1, .ref (aO 0)), (2, .int p2), (3, .int p3)] := hl
  have hS : va_S A s.heap s.heap [] := va_S.rf
  obtain ⟨hx, hb, hr, hml, hown, hK, hts, hA, hG, hlk, hte, hnm⟩ := id C
  replace h : (if p3 < (3 : Int32) then fX0_addWord_29 B O else (if (6 : Int32) < p3 then fX0_addWord_29 B O else (if (p2 / (8 : Int32)) ≤ (4 : Int32) then (if (p2 / (8 : Int32)) = (2 : Int32) then fX0_addWord_50 B O p3 (p2 - p2 / (8 : Int32) * (8 : Int32)) (p2 / (8 : Int32)) (1 : Int32) else fX0_addWord_50 B O p3 (p2 - p2 / (8 : Int32) * (8 : Int32)) (p2 / (8 : Int32)) (0 : Int32)) else fX0_addWord_29 B O))) = some r := h
  refine lv_iload_n hx hb dX0_addWord_0 rfl (lv_at hl 2 rfl) ?_
  refine lv_bipush (v := (8 : Int32)) hx hb dX0_addWord_1 (by decide) ?_
  refine lv_irem hx hb dX0_addWord_3 (by decide) ?_
  refine lv_istore (lv' := [(4, .int (p2 - p2 / (8 : Int32) * (8 : Int32))), (0, .ref (aB 0)), (1, .ref (aO 0)), (2, .int p2), (3, .int p3)]) hx hb dX0_addWord_4 hl (by decide) rfl (fun ls hl => ?_)
  refine lv_iload_n hx hb dX0_addWord_6 rfl (lv_at hl 3 rfl) ?_
  refine lv_bipush (v := (8 : Int32)) hx hb dX0_addWord_7 (by decide) ?_
  refine lv_idiv hx hb dX0_addWord_9 (by decide) ?_
  refine lv_istore (lv' := [(5, .int (p2 / (8 : Int32))), (4, .int (p2 - p2 / (8 : Int32) * (8 : Int32))), (0, .ref (aB 0)), (1, .ref (aO 0)), (2, .int p2), (3, .int p3)]) hx hb dX0_addWord_10 hl (by decide) rfl (fun ls hl => ?_)
  refine lv_iload_n hx hb dX0_addWord_12 rfl (lv_at hl 5 rfl) ?_
  refine lv_iconst (v := (3 : Int32)) hx hb dX0_addWord_13 (by decide) ?_
  refine lv_icmp_lt (tgt := 29) hx hb dX0_addWord_14 (by decide) (fun c9 => ?_) (fun c9 => ?_)
  · replace h := xi_t c9 h
    exact kX0_addWord_29 C hlt _ _ _ h _ _ _ hP hD hS (lv_sub hl [] rfl)
  · replace h := xi_f c9 h
    refine lv_iload_n hx hb dX0_addWord_17 rfl (lv_at hl 5 rfl) ?_
    refine lv_bipush (v := (6 : Int32)) hx hb dX0_addWord_18 (by decide) ?_
    refine lv_icmp_gt (tgt := 29) hx hb dX0_addWord_20 (by decide) (fun c9 => ?_) (fun c9 => ?_)
    · replace h := xi_t c9 h
      exact kX0_addWord_29 C hlt _ _ _ h _ _ _ hP hD hS (lv_sub hl [] rfl)
    · replace h := xi_f c9 h
      refine lv_iload hx hb dX0_addWord_23 (lv_at hl 0 rfl) ?_
      refine lv_iconst (v := (4 : Int32)) hx hb dX0_addWord_25 (by decide) ?_
      refine lv_icmp_le (tgt := 39) hx hb dX0_addWord_26 (by decide) (fun c9 => ?_) (fun c9 => ?_)
      · replace h := xi_t c9 h
        refine lv_iload hx hb dX0_addWord_39 (lv_at hl 0 rfl) ?_
        refine lv_iconst (v := (2 : Int32)) hx hb dX0_addWord_41 (by decide) ?_
        refine lv_icmp_ne (tgt := 49) hx hb dX0_addWord_42 (by decide) (fun c9 => ?_) (fun c9 => ?_)
        · replace h := xi_f c9 h
          refine lv_iconst (v := (0 : Int32)) hx hb dX0_addWord_49 (by decide) ?_
          exact kX0_addWord_50 C hlt _ _ _ _ _ _ _ h _ _ _ hP hD hS (lv_sub hl [2, 3, 5, 1, 0] rfl)
        · replace h := xi_t c9 h
          refine lv_iconst (v := (1 : Int32)) hx hb dX0_addWord_45 (by decide) ?_
          refine lv_goto (tgt := 50) hx hb dX0_addWord_46 (by decide) ?_
          exact kX0_addWord_50 C hlt _ _ _ _ _ _ _ h _ _ _ hP hD hS (lv_sub hl [2, 3, 5, 1, 0] rfl)
      · replace h := xi_f c9 h
        exact kX0_addWord_29 C hlt _ _ _ h _ _ _ hP hD hS (lv_sub hl [] rfl)
abbrev oX0_readPiece (aB : Nat → Nat) (aS : Nat → Nat) (aO : Nat → Nat) (K : Nat → ClassId) (r : (String × (S0 × S4 × S3)) ⊕ (Unit × (S0 × S4 × S3))) : xO := match r with
  | .inl q => .inl (q.1, w0 aB K q.2.1 ++ (w4 aS K q.2.2.1 ++ w3 aO K q.2.2.2))
  | .inr q => .inr (none, w0 aB K q.2.1 ++ (w4 aS K q.2.2.1 ++ w3 aO K q.2.2.2))
def fX0_readPiece_72 : Nat → S0 → S4 → S3 → Int32 → Int32 → Int32 → Int32 → Option ((String × (S0 × S4 × S3)) ⊕ (Unit × (S0 × S4 × S3)))
  | 0 => fun _ _ _ _ _ _ _ => none
  | fu + 1 => fun B S O x3 x4 x5 x6 => (if x3 ≤ x6 then (if x4 = 0 then some (.inr ((), (B, S, O))) else xbnd0 (fX3_remember O x5) (fun v_9 s_10 => some (.inr ((), (B, S, s_10))))) else xbnd0 (fX3_back O x5) (fun v_11 s_12 => xbnd0 (fX3_add s_12 v_11 (2 : Int32)) (fun v_13 s_14 => fX0_readPiece_72 fu B S s_14 x3 x4 x5 (x6 + (1 : Int32)))))
def fX0_readPiece_36 (B : S0) (S : S4) (O : S3) (x3 : Int32) (x4 : Int32) (t0 : Int32) : Option ((String × (S0 × S4 × S3)) ⊕ (Unit × (S0 × S4 × S3))) := (if t0 ≤ O.2.2 then xbnd (fX0_refuseBeyondEnd B O x3) (fun E9 s_6 => .inl (E9, (s_6.1, S, s_6.2))) (fun v_5 s_6 => fX0_readPiece_72 xF s_6.1 S s_6.2 x3 x4 t0 (0 : Int32)) else xbnd (fX0_addWord B O ((t0 - O.2.2) - (1 : Int32)) x3) (fun E9 s_8 => .inl (E9, (s_8.1, S, s_8.2))) (fun v_7 s_8 => some (.inr ((), (s_8.1, S, s_8.2)))))
def fX0_readPiece (B : S0) (S : S4) (O : S3) (p3 : Int32) : Option ((String × (S0 × S4 × S3)) ⊕ (Unit × (S0 × S4 × S3))) := xbnd (fX1_readSymbol B.2.2.1 S) (fun E9 s_2 => .inl (E9, ((B.1, B.2.1, s_2.1, B.2.2.2), s_2.2, O))) (fun v_1 s_2 => (if (4 : Int32) ≤ v_1 then xbnd (fX0_readDistance s_2.2 (v_1 - (4 : Int32))) (fun E9 s_4 => .inl (E9, ((B.1, B.2.1, s_2.1, B.2.2.2), s_4, O))) (fun v_3 s_4 => fX0_readPiece_36 (B.1, B.2.1, s_2.1, B.2.2.2) s_4 O p3 v_1 v_3) else (if ((5 : Int32) + v_1) < 0 ∨ 9 ≤ (((5 : Int32) + v_1)).toNatClampNeg then none else fX0_readPiece_36 (B.1, B.2.1, s_2.1, B.2.2.2) s_2.2 O p3 v_1 (O.2.1 (((5 : Int32) + v_1)).toNatClampNeg))))
set_option maxHeartbeats 4000000 in
set_option maxRecDepth 100000 in
theorem kX0_readPiece_72 {p : Program} {l : Launch} {e : Env} {s : State} {m : MethodId} {args : Array Value} {below : List Frame} {meth : Method} {c : Code} {D : va_G} {K : Nat → ClassId} {A : Nat → Prop} {aB : Nat → Nat} {aS : Nat → Nat} {aO : Nat → Nat} (C : xC p s m args meth c cX0_readPiece 7 none yX0_readPiece D K A []) (hlt : l.stackTraces = false) : ∀ fu : Nat, ∀ (B : S0) (S : S4) (O : S3) (x3 : Int32) (x4 : Int32) (x5 : Int32) (x6 : Int32) (r : (String × (S0 × S4 × S3)) ⊕ (Unit × (S0 × S4 × S3))), fX0_readPiece_72 fu B S O x3 x4 x5 x6 = some r → ∀ (H : Heap) (locs : List Loc) (ls : Array Slot), va_P D vwCl (w0 aB K B ++ (w4 aS K S ++ w3 aO K O)) H → va_D A (w0 aB K B ++ (w4 aS K S ++ w3 aO K O)) → va_S A s.heap H locs → lv_has ls 7 [(2, .ref (aO 0)), (3, .int x3), (4, .int x4), (5, .int x5), (6, .int x6)] → W p l e (xR 8 142 (oX0_readPiece aB aS aO K r)) s m args below meth c H locs 0 0 (xQ below args s D K A (oX0_readPiece aB aS aO K r)) (F0 m 72 ls []) := by
  obtain ⟨hx, hb, hr, hml, hown, hK, hts, hA, hG, hlk, hte, hnm⟩ := id C
  intro fu
  induction fu with
  | zero =>
    intro B S O x3 x4 x5 x6 r h
    exact nomatch (show (none : Option ((String × (S0 × S4 × S3)) ⊕ (Unit × (S0 × S4 × S3)))) = some r from h)
  | succ fu ih =>
    intro B S O x3 x4 x5 x6 r h H locs ls hP hD hS hl
    replace h : (if x3 ≤ x6 then (if x4 = 0 then some (.inr ((), (B, S, O))) else xbnd0 (fX3_remember O x5) (fun v_9 s_10 => some (.inr ((), (B, S, s_10))))) else xbnd0 (fX3_back O x5) (fun v_11 s_12 => xbnd0 (fX3_add s_12 v_11 (2 : Int32)) (fun v_13 s_14 => fX0_readPiece_72 fu B S s_14 x3 x4 x5 (x6 + (1 : Int32))))) = some r := h
    refine lv_iload hx hb dX0_readPiece_72 (lv_at hl 4 rfl) ?_
    refine lv_iload_n hx hb dX0_readPiece_74 rfl (lv_at hl 1 rfl) ?_
    refine lv_icmp_ge (tgt := 95) hx hb dX0_readPiece_75 (by decide) (fun c9 => ?_) (fun c9 => ?_)
    · replace h := xi_t c9 h
      refine lv_iload hx hb dX0_readPiece_95 (lv_at hl 2 rfl) ?_
      refine lv_if_eq (tgt := 106) hx hb dX0_readPiece_97 (by decide) (fun c9 => ?_) (fun c9 => ?_)
      · replace h := xi_t c9 h
        obtain rfl := Option.some.inj h
        exact xe_v C hP hD hS dX0_readPiece_106
      · replace h := xi_f c9 h
        refine lv_aload_n hx hb dX0_readPiece_100 rfl (lv_at hl 0 rfl) ?_
        refine lv_iload hx hb dX0_readPiece_101 (lv_at hl 3 rfl) ?_
        obtain ⟨v_9, s_10, hc9, h⟩ := xi_d h
        refine xc_V (As := [.int x5]) (ws' := w0 aB K B ++ (w4 aS K S ++ w3 aO K s_10)) C (mX3_remember l D K aO _ _ _ _ hc9) xgi_X0_119 xd_X3_remember ⟨Nat.le_of_ble_eq_true rfl, Nat.le_of_ble_eq_true rfl⟩ ⟨Nat.zero_le _, Nat.zero_le _⟩ hl rfl (Nat.le_of_ble_eq_true rfl) dX0_readPiece_103 hP hD hS 36 3 rfl rfl rfl [36, 37, 38] rfl rfl [(36, w3 aO K s_10)] rfl rfl rfl (List.forall_mem_cons.mpr ⟨Nat.le_of_ble_eq_true rfl, (fun _ h => absurd h List.not_mem_nil)⟩) (fun H locs hP hD hS => ?_)
        refine W.eq (g2 := F0 m 106 ls []) rfl ?_
        obtain rfl := Option.some.inj h
        exact xe_v C hP hD hS dX0_readPiece_106
    · replace h := xi_f c9 h
      refine lv_aload_n hx hb dX0_readPiece_78 rfl (lv_at hl 0 rfl) ?_
      refine lv_aload_n hx hb dX0_readPiece_79 rfl (lv_at hl 0 rfl) ?_
      refine lv_iload hx hb dX0_readPiece_80 (lv_at hl 3 rfl) ?_
      obtain ⟨v_11, s_12, hc9, h⟩ := xi_d h
      refine xc_V (As := [.int x5]) (ws' := w0 aB K B ++ (w4 aS K S ++ w3 aO K s_12)) C (mX3_back l D K aO _ _ _ _ hc9) xgi_X0_100 xd_X3_back ⟨Nat.le_of_ble_eq_true rfl, Nat.le_of_ble_eq_true rfl⟩ ⟨Nat.zero_le _, Nat.zero_le _⟩ hl rfl (Nat.le_of_ble_eq_true rfl) dX0_readPiece_82 hP hD hS 36 3 rfl rfl rfl [36, 37, 38] rfl rfl [(36, w3 aO K s_12)] rfl rfl rfl (List.forall_mem_cons.mpr ⟨Nat.le_of_ble_eq_true rfl, (fun _ h => absurd h List.not_mem_nil)⟩) (fun H locs hP hD hS => ?_)
      refine W.eq (g2 := F0 m 85 ls [.int v_11, .ref (aO 0)]) rfl ?_
      refine lv_iconst (v := (2 : Int32)) hx hb dX0_readPiece_85 (by decide) ?_
      obtain ⟨v_13, s_14, hc9, h⟩ := xi_d h
      refine xc_V (As := [.int v_11, .int (2 : Int32)]) (ws' := w0 aB K B ++ (w4 aS K S ++ w3 aO K s_14)) C (mX3_add l D K aO _ _ _ _ _ hc9) xgi_X0_61 xd_X3_add ⟨Nat.le_of_ble_eq_true rfl, Nat.le_of_ble_eq_true rfl⟩ ⟨Nat.zero_le _, Nat.zero_le _⟩ hl rfl (Nat.le_of_ble_eq_true rfl) dX0_readPiece_86 hP hD hS 36 3 rfl rfl rfl [36, 37, 38] rfl rfl [(36, w3 aO K s_14)] rfl rfl rfl (List.forall_mem_cons.mpr ⟨Nat.le_of_ble_eq_true rfl, (fun _ h => absurd h List.not_mem_nil)⟩) (fun H locs hP hD hS => ?_)
      refine W.eq (g2 := F0 m 89 ls []) rfl ?_
      refine lv_iinc (v := (x6 + (1 : Int32))) (lv' := [(6, .int (x6 + (1 : Int32))), (2, .ref (aO 0)), (3, .int x3), (4, .int x4), (5, .int x5)]) hx hb dX0_readPiece_89 hl (k := 4) rfl (by rfl) (by decide) rfl (fun ls hl => ?_)
      refine lv_goto (tgt := 72) hx hb dX0_readPiece_92 (by decide) ?_
      exact ih _ _ _ _ _ _ _ _ h _ _ _ hP hD hS (lv_sub hl [1, 2, 3, 4, 0] rfl)
set_option maxHeartbeats 4000000 in
set_option maxRecDepth 100000 in
theorem kX0_readPiece_36 {p : Program} {l : Launch} {e : Env} {s : State} {m : MethodId} {args : Array Value} {below : List Frame} {meth : Method} {c : Code} {D : va_G} {K : Nat → ClassId} {A : Nat → Prop} {aB : Nat → Nat} {aS : Nat → Nat} {aO : Nat → Nat} (C : xC p s m args meth c cX0_readPiece 7 none yX0_readPiece D K A []) (hlt : l.stackTraces = false) : ∀ (B : S0) (S : S4) (O : S3) (x3 : Int32) (x4 : Int32) (t0 : Int32) (r : (String × (S0 × S4 × S3)) ⊕ (Unit × (S0 × S4 × S3))), fX0_readPiece_36  B S O x3 x4 t0 = some r → ∀ (H : Heap) (locs : List Loc) (ls : Array Slot), va_P D vwCl (w0 aB K B ++ (w4 aS K S ++ w3 aO K O)) H → va_D A (w0 aB K B ++ (w4 aS K S ++ w3 aO K O)) → va_S A s.heap H locs → lv_has ls 7 [(0, .ref (aB 0)), (2, .ref (aO 0)), (3, .int x3), (4, .int x4)] → W p l e (xR 8 142 (oX0_readPiece aB aS aO K r)) s m args below meth c H locs 0 0 (xQ below args s D K A (oX0_readPiece aB aS aO K r)) (F0 m 36 ls [.int t0]) := by
  obtain ⟨hx, hb, hr, hml, hown, hK, hts, hA, hG, hlk, hte, hnm⟩ := id C
  intro B S O x3 x4 t0 r h H locs ls hP hD hS hl
  replace h : (if t0 ≤ O.2.2 then xbnd (fX0_refuseBeyondEnd B O x3) (fun E9 s_6 => .inl (E9, (s_6.1, S, s_6.2))) (fun v_5 s_6 => fX0_readPiece_72 xF s_6.1 S s_6.2 x3 x4 t0 (0 : Int32)) else xbnd (fX0_addWord B O ((t0 - O.2.2) - (1 : Int32)) x3) (fun E9 s_8 => .inl (E9, (s_8.1, S, s_8.2))) (fun v_7 s_8 => some (.inr ((), (s_8.1, S, s_8.2))))) = some r := h
  refine lv_istore (lv' := [(5, .int t0), (0, .ref (aB 0)), (2, .ref (aO 0)), (3, .int x3), (4, .int x4)]) hx hb dX0_readPiece_36 hl (by decide) rfl (fun ls hl => ?_)
  refine lv_iload hx hb dX0_readPiece_38 (lv_at hl 0 rfl) ?_
  refine lv_aload_n hx hb dX0_readPiece_40 rfl (lv_at hl 2 rfl) ?_
  refine va_getN (D := D) (ci := 3) (v := .int O.2.2) (C := RX3) (T := TX3) (N := 3) hx hb hts xu_X3 hown hK hP 36 rfl rfl 2 (by decide) (hts _ xw_171) (fun _ h9 => h9) rfl dX0_readPiece_41 ?_
  refine lv_icmp_le (tgt := 63) hx hb dX0_readPiece_44 (by decide) (fun c9 => ?_) (fun c9 => ?_)
  · replace h := xi_t c9 h
    refine lv_aload_n hx hb dX0_readPiece_63 rfl (lv_at hl 1 rfl) ?_
    refine lv_aload_n hx hb dX0_readPiece_64 rfl (lv_at hl 2 rfl) ?_
    refine lv_iload_n hx hb dX0_readPiece_65 rfl (lv_at hl 3 rfl) ?_
    rcases xi_c h with ⟨E9, s_6, hc9, rfl⟩ | ⟨v_5, s_6, hc9, h⟩
    · exact xc_Vt (As := [.ref (aO 0), .int x3]) (ws' := w0 aB K s_6.1 ++ (w4 aS K S ++ w3 aO K s_6.2)) C (mX0_refuseBeyondEnd l hlt D K aB aO _ _ _ _ _ hc9) xgi_X0_89 xd_X0_refuseBeyondEnd ⟨Nat.le_of_ble_eq_true rfl, Nat.le_of_ble_eq_true rfl⟩ ⟨Nat.le_refl _, Nat.le_refl _⟩ hl rfl (Nat.le_of_ble_eq_true rfl) dX0_readPiece_66 hP hD hS 0 0 rfl rfl rfl [0, 1, 2, 3, 4, 5, 6, 7, 8, 9, 10, 11, 12, 13, 14, 15, 16, 17, 18, 19, 20, 21, 22, 23, 24, 25, 26, 27, 28, 29, 30, 31, 32, 33, 36, 37, 38] rfl rfl [(0, w0 aB K s_6.1), (36, w3 aO K s_6.2)] rfl rfl rfl (List.forall_mem_cons.mpr ⟨Nat.le_of_ble_eq_true rfl, (List.forall_mem_cons.mpr ⟨Nat.le_of_ble_eq_true rfl, (fun _ h => absurd h List.not_mem_nil)⟩)⟩)
    · refine xc_V (As := [.ref (aO 0), .int x3]) (ws' := w0 aB K s_6.1 ++ (w4 aS K S ++ w3 aO K s_6.2)) C (mX0_refuseBeyondEnd l hlt D K aB aO _ _ _ _ _ hc9) xgi_X0_89 xd_X0_refuseBeyondEnd ⟨Nat.le_of_ble_eq_true rfl, Nat.le_of_ble_eq_true rfl⟩ ⟨Nat.zero_le _, Nat.zero_le _⟩ hl rfl (Nat.le_of_ble_eq_true rfl) dX0_readPiece_66 hP hD hS 0 0 rfl rfl rfl [0, 1, 2, 3, 4, 5, 6, 7, 8, 9, 10, 11, 12, 13, 14, 15, 16, 17, 18, 19, 20, 21, 22, 23, 24, 25, 26, 27, 28, 29, 30, 31, 32, 33, 36, 37, 38] rfl rfl [(0, w0 aB K s_6.1), (36, w3 aO K s_6.2)] rfl rfl rfl (List.forall_mem_cons.mpr ⟨Nat.le_of_ble_eq_true rfl, (List.forall_mem_cons.mpr ⟨Nat.le_of_ble_eq_true rfl, (fun _ h => absurd h List.not_mem_nil)⟩)⟩) (fun H locs hP hD hS => ?_)
      refine W.eq (g2 := F0 m 69 ls []) rfl ?_
      refine lv_iconst (v := (0 : Int32)) hx hb dX0_readPiece_69 (by decide) ?_
      refine lv_istore (lv' := [(6, .int (0 : Int32)), (5, .int t0), (0, .ref (aB 0)), (2, .ref (aO 0)), (3, .int x3), (4, .int x4)]) hx hb dX0_readPiece_70 hl (by decide) rfl (fun ls hl => ?_)
      exact kX0_readPiece_72 C hlt _ _ _ _ _ _ _ _ _ h _ _ _ hP hD hS (lv_sub hl [3, 4, 5, 1, 0] rfl)
  · replace h := xi_f c9 h
    refine lv_aload_n hx hb dX0_readPiece_47 rfl (lv_at hl 1 rfl) ?_
    refine lv_aload_n hx hb dX0_readPiece_48 rfl (lv_at hl 2 rfl) ?_
    refine lv_iload hx hb dX0_readPiece_49 (lv_at hl 0 rfl) ?_
    refine lv_aload_n hx hb dX0_readPiece_51 rfl (lv_at hl 2 rfl) ?_
    refine va_getN (D := D) (ci := 3) (v := .int O.2.2) (C := RX3) (T := TX3) (N := 3) hx hb hts xu_X3 hown hK hP 36 rfl rfl 2 (by decide) (hts _ xw_171) (fun _ h9 => h9) rfl dX0_readPiece_52 ?_
    refine lv_isub hx hb dX0_readPiece_55 ?_
    refine lv_iconst (v := (1 : Int32)) hx hb dX0_readPiece_56 (by decide) ?_
    refine lv_isub hx hb dX0_readPiece_57 ?_
    refine lv_iload_n hx hb dX0_readPiece_58 rfl (lv_at hl 3 rfl) ?_
    rcases xi_c h with ⟨E9, s_8, hc9, rfl⟩ | ⟨v_7, s_8, hc9, h⟩
    · exact xc_Vt (As := [.ref (aO 0), .int ((t0 - O.2.2) - (1 : Int32)), .int x3]) (ws' := w0 aB K s_8.1 ++ (w4 aS K S ++ w3 aO K s_8.2)) C (mX0_addWord l hlt D K aB aO _ _ _ _ _ _ hc9) xgi_X0_115 xd_X0_addWord ⟨Nat.le_of_ble_eq_true rfl, Nat.le_of_ble_eq_true rfl⟩ ⟨Nat.le_refl _, Nat.le_refl _⟩ hl rfl (Nat.le_of_ble_eq_true rfl) dX0_readPiece_59 hP hD hS 0 0 rfl rfl rfl [0, 1, 2, 3, 4, 5, 6, 7, 8, 9, 10, 11, 12, 13, 14, 15, 16, 17, 18, 19, 20, 21, 22, 23, 24, 25, 26, 27, 28, 29, 30, 31, 32, 33, 36, 37, 38] rfl rfl [(0, w0 aB K s_8.1), (36, w3 aO K s_8.2)] rfl rfl rfl (List.forall_mem_cons.mpr ⟨Nat.le_of_ble_eq_true rfl, (List.forall_mem_cons.mpr ⟨Nat.le_of_ble_eq_true rfl, (fun _ h => absurd h List.not_mem_nil)⟩)⟩)
    · refine xc_V (As := [.ref (aO 0), .int ((t0 - O.2.2) - (1 : Int32)), .int x3]) (ws' := w0 aB K s_8.1 ++ (w4 aS K S ++ w3 aO K s_8.2)) C (mX0_addWord l hlt D K aB aO _ _ _ _ _ _ hc9) xgi_X0_115 xd_X0_addWord ⟨Nat.le_of_ble_eq_true rfl, Nat.le_of_ble_eq_true rfl⟩ ⟨Nat.zero_le _, Nat.zero_le _⟩ hl rfl (Nat.le_of_ble_eq_true rfl) dX0_readPiece_59 hP hD hS 0 0 rfl rfl rfl [0, 1, 2, 3, 4, 5, 6, 7, 8, 9, 10, 11, 12, 13, 14, 15, 16, 17, 18, 19, 20, 21, 22, 23, 24, 25, 26, 27, 28, 29, 30, 31, 32, 33, 36, 37, 38] rfl rfl [(0, w0 aB K s_8.1), (36, w3 aO K s_8.2)] rfl rfl rfl (List.forall_mem_cons.mpr ⟨Nat.le_of_ble_eq_true rfl, (List.forall_mem_cons.mpr ⟨Nat.le_of_ble_eq_true rfl, (fun _ h => absurd h List.not_mem_nil)⟩)⟩) (fun H locs hP hD hS => ?_)
      refine W.eq (g2 := F0 m 62 ls []) rfl ?_
      obtain rfl := Option.some.inj h
      exact xe_v C hP hD hS dX0_readPiece_62
set_option maxHeartbeats 4000000 in
set_option maxRecDepth 100000 in
theorem mX0_readPiece (l : Launch) (hlt : l.stackTraces = false) (D : va_G) (K : Nat → ClassId) (aB : Nat → Nat) (aS : Nat → Nat) (aO : Nat → Nat) (sz : Nat) (B : S0) (S : S4) (O : S3) (p3 : Int32) (r : (String × (S0 × S4 × S3)) ⊕ (Unit × (S0 × S4 × S3))) (h : fX0_readPiece B S O p3 = some r) : xMet l yX0_readPiece cX0_readPiece 7 none 8 142 D K [.ref (aB 0), .ref (aS 0), .ref (aO 0), .int p3] sz (w0 aB K B ++ (w4 aS K S ++ w3 aO K O)) (oX0_readPiece aB aS aO K r) := by
  refine xm_of _ (by decide +kernel) (Nat.le_of_ble_eq_true rfl) (fun p e s m args below meth c A C hP hD ls hl => ?_)
  have hl : lv_has ls 7 [(0, .ref (aB 0)), (1, .ref (aS 0)), (2, .ref (aO 0)), (3, .int p3)] := hl
  have hS : va_S A s.heap s.heap [] := va_S.rf
  obtain ⟨hx, hb, hr, hml, hown, hK, hts, hA, hG, hlk, hte, hnm⟩ := id C
  replace h : xbnd (fX1_readSymbol B.2.2.1 S) (fun E9 s_2 => .inl (E9, ((B.1, B.2.1, s_2.1, B.2.2.2), s_2.2, O))) (fun v_1 s_2 => (if (4 : Int32) ≤ v_1 then xbnd (fX0_readDistance s_2.2 (v_1 - (4 : Int32))) (fun E9 s_4 => .inl (E9, ((B.1, B.2.1, s_2.1, B.2.2.2), s_4, O))) (fun v_3 s_4 => fX0_readPiece_36 (B.1, B.2.1, s_2.1, B.2.2.2) s_4 O p3 v_1 v_3) else (if ((5 : Int32) + v_1) < 0 ∨ 9 ≤ (((5 : Int32) + v_1)).toNatClampNeg then none else fX0_readPiece_36 (B.1, B.2.1, s_2.1, B.2.2.2) s_2.2 O p3 v_1 (O.2.1 (((5 : Int32) + v_1)).toNatClampNeg)))) = some r := h
  refine lv_aload_n hx hb dX0_readPiece_0 rfl (lv_at hl 0 rfl) ?_
  refine va_get (D := D) (ci := 0) (v := .ref (aB 30)) (C := RX0) (T := TX0) (N := 4) hx hb hts xu_X0 hown hK hP 0 rfl rfl 2 (by decide) (hts _ xw_139) (fun _ h9 => h9) rfl dX0_readPiece_1 ?_
  refine lv_aload_n hx hb dX0_readPiece_4 rfl (lv_at hl 1 rfl) ?_
  rcases xi_c h with ⟨E9, s_2, hc9, rfl⟩ | ⟨v_1, s_2, hc9, h⟩
  · exact xc_Vt (As := [.ref (aS 0)]) (ws' := w0 aB K (B.1, B.2.1, s_2.1, B.2.2.2) ++ (w4 aS K s_2.2 ++ w3 aO K O)) C (mX1_readSymbol l hlt D K (fun i => aB (i + 30)) aS _ _ _ _ hc9) xgi_X0_79 xd_X1_readSymbol ⟨Nat.le_of_ble_eq_true rfl, Nat.le_of_ble_eq_true rfl⟩ ⟨Nat.le_refl _, Nat.le_refl _⟩ hl rfl (Nat.le_of_ble_eq_true rfl) dX0_readPiece_5 hP hD hS 30 1 rfl rfl rfl [30, 31, 32, 33, 34, 35] rfl rfl [(30, w1 (fun i => aB (i + 30)) K s_2.1), (34, w4 aS K s_2.2)] rfl rfl rfl (List.forall_mem_cons.mpr ⟨Nat.le_of_ble_eq_true rfl, (List.forall_mem_cons.mpr ⟨Nat.le_of_ble_eq_true rfl, (fun _ h => absurd h List.not_mem_nil)⟩)⟩)
  · refine xc_V (As := [.ref (aS 0)]) (ws' := w0 aB K (B.1, B.2.1, s_2.1, B.2.2.2) ++ (w4 aS K s_2.2 ++ w3 aO K O)) C (mX1_readSymbol l hlt D K (fun i => aB (i + 30)) aS _ _ _ _ hc9) xgi_X0_79 xd_X1_readSymbol ⟨Nat.le_of_ble_eq_true rfl, Nat.le_of_ble_eq_true rfl⟩ ⟨Nat.zero_le _, Nat.zero_le _⟩ hl rfl (Nat.le_of_ble_eq_true rfl) dX0_readPiece_5 hP hD hS 30 1 rfl rfl rfl [30, 31, 32, 33, 34, 35] rfl rfl [(30, w1 (fun i => aB (i + 30)) K s_2.1), (34, w4 aS K s_2.2)] rfl rfl rfl (List.forall_mem_cons.mpr ⟨Nat.le_of_ble_eq_true rfl, (List.forall_mem_cons.mpr ⟨Nat.le_of_ble_eq_true rfl, (fun _ h => absurd h List.not_mem_nil)⟩)⟩) (fun H locs hP hD hS => ?_)
    refine W.eq (g2 := F0 m 8 ls [.int v_1]) rfl ?_
    refine lv_istore (lv' := [(4, .int v_1), (0, .ref (aB 0)), (1, .ref (aS 0)), (2, .ref (aO 0)), (3, .int p3)]) hx hb dX0_readPiece_8 hl (by decide) rfl (fun ls hl => ?_)
    refine lv_iload hx hb dX0_readPiece_10 (lv_at hl 0 rfl) ?_
    refine lv_iconst (v := (4 : Int32)) hx hb dX0_readPiece_12 (by decide) ?_
    refine lv_icmp_ge (tgt := 28) hx hb dX0_readPiece_13 (by decide) (fun c9 => ?_) (fun c9 => ?_)
    · replace h := xi_t c9 h
      refine lv_aload_n hx hb dX0_readPiece_28 rfl (lv_at hl 2 rfl) ?_
      refine lv_iload hx hb dX0_readPiece_29 (lv_at hl 0 rfl) ?_
      refine lv_iconst (v := (4 : Int32)) hx hb dX0_readPiece_31 (by decide) ?_
      refine lv_isub hx hb dX0_readPiece_32 ?_
      rcases xi_c h with ⟨E9, s_4, hc9, rfl⟩ | ⟨v_3, s_4, hc9, h⟩
      · exact xc_St (As := [.ref (aS 0), .int (v_1 - (4 : Int32))]) (ws' := w0 aB K (B.1, B.2.1, s_2.1, B.2.2.2) ++ (w4 aS K s_4 ++ w3 aO K O)) C (mX0_readDistance l hlt D K aS _ _ _ _ hc9) xgs_X0_111 ⟨rfl, xd_X0_readDistance⟩ ⟨Nat.le_of_ble_eq_true rfl, Nat.le_of_ble_eq_true rfl⟩ ⟨Nat.le_refl _, Nat.le_refl _⟩ hl rfl (Nat.le_of_ble_eq_true rfl) dX0_readPiece_33 hP hD hS [34, 35] rfl rfl [(34, w4 aS K s_4)] rfl rfl rfl (List.forall_mem_cons.mpr ⟨Nat.le_of_ble_eq_true rfl, (fun _ h => absurd h List.not_mem_nil)⟩)
      · refine xc_S (As := [.ref (aS 0), .int (v_1 - (4 : Int32))]) (ws' := w0 aB K (B.1, B.2.1, s_2.1, B.2.2.2) ++ (w4 aS K s_4 ++ w3 aO K O)) C (mX0_readDistance l hlt D K aS _ _ _ _ hc9) xgs_X0_111 ⟨rfl, xd_X0_readDistance⟩ ⟨Nat.le_of_ble_eq_true rfl, Nat.le_of_ble_eq_true rfl⟩ ⟨Nat.zero_le _, Nat.zero_le _⟩ hl rfl (Nat.le_of_ble_eq_true rfl) dX0_readPiece_33 hP hD hS [34, 35] rfl rfl [(34, w4 aS K s_4)] rfl rfl rfl (List.forall_mem_cons.mpr ⟨Nat.le_of_ble_eq_true rfl, (fun _ h => absurd h List.not_mem_nil)⟩) (fun H locs hP hD hS => ?_)
        refine W.eq (g2 := F0 m 36 ls [.int v_3]) rfl ?_
        exact kX0_readPiece_36 C hlt _ _ _ _ _ _ _ h _ _ _ hP hD hS (lv_sub hl [1, 3, 4, 0] rfl)
    · replace h := xi_f c9 h
      refine lv_aload_n hx hb dX0_readPiece_16 rfl (lv_at hl 3 rfl) ?_
      refine va_getN (D := D) (ci := 3) (v := .ref (aO 2)) (C := RX3) (T := TX3) (N := 3) hx hb hts xu_X3 hown hK hP 36 rfl rfl 1 (by decide) (hts _ xw_168) (fun _ h9 => h9) rfl dX0_readPiece_17 ?_
      refine lv_iconst (v := (5 : Int32)) hx hb dX0_readPiece_20 (by decide) ?_
      refine lv_iload hx hb dX0_readPiece_21 (lv_at hl 0 rfl) ?_
      refine lv_iadd hx hb dX0_readPiece_23 ?_
      obtain ⟨hi9, h⟩ := xi_g h
      refine va_iald hx hb hK hP 38 0 rfl rfl hi9 dX0_readPiece_24 ?_
      refine lv_goto (tgt := 36) hx hb dX0_readPiece_25 (by decide) ?_
      exact kX0_readPiece_36 C hlt _ _ _ _ _ _ _ h _ _ _ hP hD hS (lv_sub hl [1, 3, 4, 0] rfl)
abbrev oX0_readCommand (aB : Nat → Nat) (aS : Nat → Nat) (aO : Nat → Nat) (K : Nat → ClassId) (r : (String × (S0 × S4 × S3)) ⊕ (Unit × (S0 × S4 × S3))) : xO := match r with
  | .inl q => .inl (q.1, w0 aB K q.2.1 ++ (w4 aS K q.2.2.1 ++ w3 aO K q.2.2.2))
  | .inr q => .inr (none, w0 aB K q.2.1 ++ (w4 aS K q.2.2.1 ++ w3 aO K q.2.2.2))
def fX0_readCommand_94 (rec59 : S0 → S4 → S3 → Int32 → Int32 → Int32 → Option ((String × (S0 × S4 × S3)) ⊕ (Unit × (S0 × S4 × S3)))) (B : S0) (S : S4) (O : S3) (x6 : Int32) (x7 : Int32) (x8 : Int32) : Option ((String × (S0 × S4 × S3)) ⊕ (Unit × (S0 × S4 × S3))) := xbnd0 (fX3_back O (1 : Int32)) (fun v_15 s_16 => xbnd0 (fX3_back s_16 (2 : Int32)) (fun v_17 s_18 => xbnd (fX2_readLetter B.1 S v_15 v_17) (fun E9 s_20 => .inl (E9, ((s_20.1, B.2.1, B.2.2.1, B.2.2.2), s_20.2, s_18))) (fun v_19 s_20 => xbnd0 (fX3_add s_18 v_19 (1 : Int32)) (fun v_21 s_22 => rec59 (s_20.1, B.2.1, B.2.2.1, B.2.2.2) s_20.2 s_22 x6 x7 (x8 + (1 : Int32))))))
def fX0_readCommand_59 : Nat → S0 → S4 → S3 → Int32 → Int32 → Int32 → Option ((String × (S0 × S4 × S3)) ⊕ (Unit × (S0 × S4 × S3)))
  | 0 => fun _ _ _ _ _ _ => none
  | fu + 1 => fun B S O x6 x7 x8 => (if x6 ≤ x8 then (if B.2.2.2 ≤ O.2.2 then some (.inr ((), (B, S, O))) else xbnd (fX0_readPiece B S O x7) (fun E9 s_10 => .inl (E9, (s_10.1, s_10.2.1, s_10.2.2))) (fun v_9 s_10 => some (.inr ((), (s_10.1, s_10.2.1, s_10.2.2))))) else xbnd0 (fX2_stretchIsOver B.1) (fun v_11 s_12 => (if v_11 = 0 then fX0_readCommand_94 (fX0_readCommand_59 fu) (s_12, B.2.1, B.2.2.1, B.2.2.2) S O x6 x7 x8 else xbnd (fX2_readStretch s_12 S) (fun E9 s_14 => .inl (E9, ((s_14.1, B.2.1, B.2.2.1, B.2.2.2), s_14.2, O))) (fun v_13 s_14 => (if (4 : Int32) < 0 ∨ 9 ≤ ((4 : Int32)).toNatClampNeg then none else (if (4 : Int32) < 0 ∨ 9 ≤ ((4 : Int32)).toNatClampNeg then none else fX0_readCommand_94 (fX0_readCommand_59 fu) (s_14.1, B.2.1, B.2.2.1, B.2.2.2) s_14.2 (O.1, (upd O.2.1 ((4 : Int32)).toNatClampNeg ((O.2.1 ((4 : Int32)).toNatClampNeg) + (1 : Int32))), O.2.2) x6 x7 x8))))))
def fX0_readCommand (B : S0) (S : S4) (O : S3) : Option ((String × (S0 × S4 × S3)) ⊕ (Unit × (S0 × S4 × S3))) := xbnd (fX1_readSymbol B.2.1 S) (fun E9 s_2 => .inl (E9, ((B.1, s_2.1, B.2.2.1, B.2.2.2), s_2.2, O))) (fun v_1 s_2 => (if (v_1 / (4 : Int32)) < 0 ∨ 4 ≤ ((v_1 / (4 : Int32))).toNatClampNeg then none else xbnd (fX4_readNumber s_2.2 (v_1 / (4 : Int32))) (fun E9 s_4 => .inl (E9, ((B.1, s_2.1, B.2.2.1, B.2.2.2), s_4, O))) (fun v_3 s_4 => (if (v_1 - v_1 / (4 : Int32) * (4 : Int32)) < 0 ∨ 4 ≤ ((v_1 - v_1 / (4 : Int32) * (4 : Int32))).toNatClampNeg then none else xbnd (fX4_readNumber s_4 (v_1 - v_1 / (4 : Int32) * (4 : Int32))) (fun E9 s_6 => .inl (E9, ((B.1, s_2.1, B.2.2.1, B.2.2.2), s_6, O))) (fun v_5 s_6 => xbnd (fX0_refuseBeyondEnd (B.1, s_2.1, B.2.2.1, B.2.2.2) O ((xs_ins ((v_1 / (4 : Int32))).toNatClampNeg) + v_3)) (fun E9 s_8 => .inl (E9, (s_8.1, s_6, s_8.2))) (fun v_7 s_8 => fX0_readCommand_59 xF s_8.1 s_6 s_8.2 ((xs_ins ((v_1 / (4 : Int32))).toNatClampNeg) + v_3) ((xs_cop ((v_1 - v_1 / (4 : Int32) * (4 : Int32))).toNatClampNeg) + v_5) (0 : Int32)))))))
set_option maxHeartbeats 4000000 in
set_option maxRecDepth 100000 in
theorem kX0_readCommand_94 {p : Program} {l : Launch} {e : Env} {s : State} {m : MethodId} {args : Array Value} {below : List Frame} {meth : Method} {c : Code} {D : va_G} {K : Nat → ClassId} {A : Nat → Prop} {aB : Nat → Nat} {aS : Nat → Nat} {aO : Nat → Nat} (C : xC p s m args meth c cX0_readCommand 10 none yX0_readCommand D K A []) (hlt : l.stackTraces = false) (rec59 : S0 → S4 → S3 → Int32 → Int32 → Int32 → Option ((String × (S0 × S4 × S3)) ⊕ (Unit × (S0 × S4 × S3)))) (hrec59 : ∀ (B : S0) (S : S4) (O : S3) (x6 : Int32) (x7 : Int32) (x8 : Int32) (r : (String × (S0 × S4 × S3)) ⊕ (Unit × (S0 × S4 × S3))), rec59 B S O x6 x7 x8 = some r → ∀ (H : Heap) (locs : List Loc) (ls : Array Slot), va_P D vwCl (w0 aB K B ++ (w4 aS K S ++ w3 aO K O)) H → va_D A (w0 aB K B ++ (w4 aS K S ++ w3 aO K O)) → va_S A s.heap H locs → lv_has ls 10 [(0, .ref (aB 0)), (1, .ref (aS 0)), (2, .ref (aO 0)), (6, .int x6), (7, .int x7), (8, .int x8)] → W p l e (xR 9 168 (oX0_readCommand aB aS aO K r)) s m args below meth c H locs 0 0 (xQ below args s D K A (oX0_readCommand aB aS aO K r)) (F0 m 59 ls [])) : ∀ (B : S0) (S : S4) (O : S3) (x6 : Int32) (x7 : Int32) (x8 : Int32) (r : (String × (S0 × S4 × S3)) ⊕ (Unit × (S0 × S4 × S3))), fX0_readCommand_94  rec59 B S O x6 x7 x8 = some r → ∀ (H : Heap) (locs : List Loc) (ls : Array Slot), va_P D vwCl (w0 aB K B ++ (w4 aS K S ++ w3 aO K O)) H → va_D A (w0 aB K B ++ (w4 aS K S ++ w3 aO K O)) → va_S A s.heap H locs → lv_has ls 10 [(0, .ref (aB 0)), (1, .ref (aS 0)), (2, .ref (aO 0)), (6, .int x6), (7, .int x7), (8, .int x8)] → W p l e (xR 9 168 (oX0_readCommand aB aS aO K r)) s m args below meth c H locs 0 0 (xQ below args s D K A (oX0_readCommand aB aS aO K r)) (F0 m 94 ls []) := by
  obtain ⟨hx, hb, hr, hml, hown, hK, hts, hA, hG, hlk, hte, hnm⟩ := id C
  intro B S O x6 x7 x8 r h H locs ls hP hD hS hl
  replace h : xbnd0 (fX3_back O (1 : Int32)) (fun v_15 s_16 => xbnd0 (fX3_back s_16 (2 : Int32)) (fun v_17 s_18 => xbnd (fX2_readLetter B.1 S v_15 v_17) (fun E9 s_20 => .inl (E9, ((s_20.1, B.2.1, B.2.2.1, B.2.2.2), s_20.2, s_18))) (fun v_19 s_20 => xbnd0 (fX3_add s_18 v_19 (1 : Int32)) (fun v_21 s_22 => rec59 (s_20.1, B.2.1, B.2.2.1, B.2.2.2) s_20.2 s_22 x6 x7 (x8 + (1 : Int32)))))) = some r := h
  refine lv_aload_n hx hb dX0_readCommand_94 rfl (lv_at hl 0 rfl) ?_
  refine va_get (D := D) (ci := 0) (v := .ref (aB 1)) (C := RX0) (T := TX0) (N := 4) hx hb hts xu_X0 hown hK hP 0 rfl rfl 0 (by decide) (hts _ xw_137) (fun _ h9 => h9) rfl dX0_readCommand_95 ?_
  refine lv_aload_n hx hb dX0_readCommand_98 rfl (lv_at hl 1 rfl) ?_
  refine lv_aload_n hx hb dX0_readCommand_99 rfl (lv_at hl 2 rfl) ?_
  refine lv_iconst (v := (1 : Int32)) hx hb dX0_readCommand_100 (by decide) ?_
  obtain ⟨v_15, s_16, hc9, h⟩ := xi_d h
  refine xc_V (As := [.int (1 : Int32)]) (ws' := w0 aB K B ++ (w4 aS K S ++ w3 aO K s_16)) C (mX3_back l D K aO _ _ _ _ hc9) xgi_X0_100 xd_X3_back ⟨Nat.le_of_ble_eq_true rfl, Nat.le_of_ble_eq_true rfl⟩ ⟨Nat.zero_le _, Nat.zero_le _⟩ hl rfl (Nat.le_of_ble_eq_true rfl) dX0_readCommand_101 hP hD hS 36 3 rfl rfl rfl [36, 37, 38] rfl rfl [(36, w3 aO K s_16)] rfl rfl rfl (List.forall_mem_cons.mpr ⟨Nat.le_of_ble_eq_true rfl, (fun _ h => absurd h List.not_mem_nil)⟩) (fun H locs hP hD hS => ?_)
  refine W.eq (g2 := F0 m 104 ls [.int v_15, .ref (aS 0), .ref (aB 1)]) rfl ?_
  refine lv_aload_n hx hb dX0_readCommand_104 rfl (lv_at hl 2 rfl) ?_
  refine lv_iconst (v := (2 : Int32)) hx hb dX0_readCommand_105 (by decide) ?_
  obtain ⟨v_17, s_18, hc9, h⟩ := xi_d h
  refine xc_V (As := [.int (2 : Int32)]) (ws' := w0 aB K B ++ (w4 aS K S ++ w3 aO K s_18)) C (mX3_back l D K aO _ _ _ _ hc9) xgi_X0_100 xd_X3_back ⟨Nat.le_of_ble_eq_true rfl, Nat.le_of_ble_eq_true rfl⟩ ⟨Nat.zero_le _, Nat.zero_le _⟩ hl rfl (Nat.le_of_ble_eq_true rfl) dX0_readCommand_106 hP hD hS 36 3 rfl rfl rfl [36, 37, 38] rfl rfl [(36, w3 aO K s_18)] rfl rfl rfl (List.forall_mem_cons.mpr ⟨Nat.le_of_ble_eq_true rfl, (fun _ h => absurd h List.not_mem_nil)⟩) (fun H locs hP hD hS => ?_)
  refine W.eq (g2 := F0 m 109 ls [.int v_17, .int v_15, .ref (aS 0), .ref (aB 1)]) rfl ?_
  rcases xi_c h with ⟨E9, s_20, hc9, rfl⟩ | ⟨v_19, s_20, hc9, h⟩
  · exact xc_Vt (As := [.ref (aS 0), .int v_15, .int v_17]) (ws' := w0 aB K (s_20.1, B.2.1, B.2.2.1, B.2.2.2) ++ (w4 aS K s_20.2 ++ w3 aO K s_18)) C (mX2_readLetter l hlt D K (fun i => aB (i + 1)) aS _ _ _ _ _ _ hc9) xgi_X0_103 xd_X2_readLetter ⟨Nat.le_of_ble_eq_true rfl, Nat.le_of_ble_eq_true rfl⟩ ⟨Nat.le_refl _, Nat.le_refl _⟩ hl rfl (Nat.le_of_ble_eq_true rfl) dX0_readCommand_109 hP hD hS 1 2 rfl rfl rfl [1, 2, 3, 4, 5, 6, 7, 8, 9, 10, 11, 12, 13, 14, 15, 16, 17, 18, 19, 20, 21, 22, 23, 24, 25, 34, 35] rfl rfl [(1, w2 (fun i => aB (i + 1)) K s_20.1), (34, w4 aS K s_20.2)] rfl rfl rfl (List.forall_mem_cons.mpr ⟨Nat.le_of_ble_eq_true rfl, (List.forall_mem_cons.mpr ⟨Nat.le_of_ble_eq_true rfl, (fun _ h => absurd h List.not_mem_nil)⟩)⟩)
  · refine xc_V (As := [.ref (aS 0), .int v_15, .int v_17]) (ws' := w0 aB K (s_20.1, B.2.1, B.2.2.1, B.2.2.2) ++ (w4 aS K s_20.2 ++ w3 aO K s_18)) C (mX2_readLetter l hlt D K (fun i => aB (i + 1)) aS _ _ _ _ _ _ hc9) xgi_X0_103 xd_X2_readLetter ⟨Nat.le_of_ble_eq_true rfl, Nat.le_of_ble_eq_true rfl⟩ ⟨Nat.zero_le _, Nat.zero_le _⟩ hl rfl (Nat.le_of_ble_eq_true rfl) dX0_readCommand_109 hP hD hS 1 2 rfl rfl rfl [1, 2, 3, 4, 5, 6, 7, 8, 9, 10, 11, 12, 13, 14, 15, 16, 17, 18, 19, 20, 21, 22, 23, 24, 25, 34, 35] rfl rfl [(1, w2 (fun i => aB (i + 1)) K s_20.1), (34, w4 aS K s_20.2)] rfl rfl rfl (List.forall_mem_cons.mpr ⟨Nat.le_of_ble_eq_true rfl, (List.forall_mem_cons.mpr ⟨Nat.le_of_ble_eq_true rfl, (fun _ h => absurd h List.not_mem_nil)⟩)⟩) (fun H locs hP hD hS => ?_)
    refine W.eq (g2 := F0 m 112 ls [.int v_19]) rfl ?_
    refine lv_istore (lv' := [(9, .int v_19), (0, .ref (aB 0)), (1, .ref (aS 0)), (2, .ref (aO 0)), (6, .int x6), (7, .int x7), (8, .int x8)]) hx hb dX0_readCommand_112 hl (by decide) rfl (fun ls hl => ?_)
    refine lv_aload_n hx hb dX0_readCommand_114 rfl (lv_at hl 3 rfl) ?_
    refine lv_iload hx hb dX0_readCommand_115 (lv_at hl 0 rfl) ?_
    refine lv_iconst (v := (1 : Int32)) hx hb dX0_readCommand_117 (by decide) ?_
    obtain ⟨v_21, s_22, hc9, h⟩ := xi_d h
    refine xc_V (As := [.int v_19, .int (1 : Int32)]) (ws' := w0 aB K (s_20.1, B.2.1, B.2.2.1, B.2.2.2) ++ (w4 aS K s_20.2 ++ w3 aO K s_22)) C (mX3_add l D K aO _ _ _ _ _ hc9) xgi_X0_61 xd_X3_add ⟨Nat.le_of_ble_eq_true rfl, Nat.le_of_ble_eq_true rfl⟩ ⟨Nat.zero_le _, Nat.zero_le _⟩ hl rfl (Nat.le_of_ble_eq_true rfl) dX0_readCommand_118 hP hD hS 36 3 rfl rfl rfl [36, 37, 38] rfl rfl [(36, w3 aO K s_22)] rfl rfl rfl (List.forall_mem_cons.mpr ⟨Nat.le_of_ble_eq_true rfl, (fun _ h => absurd h List.not_mem_nil)⟩) (fun H locs hP hD hS => ?_)
    refine W.eq (g2 := F0 m 121 ls []) rfl ?_
    refine lv_iinc (v := (x8 + (1 : Int32))) (lv' := [(8, .int (x8 + (1 : Int32))), (9, .int v_19), (0, .ref (aB 0)), (1, .ref (aS 0)), (2, .ref (aO 0)), (6, .int x6), (7, .int x7)]) hx hb dX0_readCommand_121 hl (k := 6) rfl (by rfl) (by decide) rfl (fun ls hl => ?_)
    refine lv_goto (tgt := 59) hx hb dX0_readCommand_124 (by decide) ?_
    exact hrec59 _ _ _ _ _ _ _ h _ _ _ hP hD hS (lv_sub hl [2, 3, 4, 5, 6, 0] rfl)
set_option maxHeartbeats 4000000 in
set_option maxRecDepth 100000 in
theorem kX0_readCommand_59 {p : Program} {l : Launch} {e : Env} {s : State} {m : MethodId} {args : Array Value} {below : List Frame} {meth : Method} {c : Code} {D : va_G} {K : Nat → ClassId} {A : Nat → Prop} {aB : Nat → Nat} {aS : Nat → Nat} {aO : Nat → Nat} (C : xC p s m args meth c cX0_readCommand 10 none yX0_readCommand D K A []) (hlt : l.stackTraces = false) : ∀ fu : Nat, ∀ (B : S0) (S : S4) (O : S3) (x6 : Int32) (x7 : Int32) (x8 : Int32) (r : (String × (S0 × S4 × S3)) ⊕ (Unit × (S0 × S4 × S3))), fX0_readCommand_59 fu B S O x6 x7 x8 = some r → ∀ (H : Heap) (locs : List Loc) (ls : Array Slot), va_P D vwCl (w0 aB K B ++ (w4 aS K S ++ w3 aO K O)) H → va_D A (w0 aB K B ++ (w4 aS K S ++ w3 aO K O)) → va_S A s.heap H locs → lv_has ls 10 [(0, .ref (aB 0)), (1, .ref (aS 0)), (2, .ref (aO 0)), (6, .int x6), (7, .int x7), (8, .int x8)] → W p l e (xR 9 168 (oX0_readCommand aB aS aO K r)) s m args below meth c H locs 0 0 (xQ below args s D K A (oX0_readCommand aB aS aO K r)) (F0 m 59 ls []) := by
  obtain ⟨hx, hb, hr, hml, hown, hK, hts, hA, hG, hlk, hte, hnm⟩ := id C
  intro fu
  induction fu with
  | zero =>
    intro B S O x6 x7 x8 r h
    exact nomatch (show (none : Option ((String × (S0 × S4 × S3)) ⊕ (Unit × (S0 × S4 × S3)))) = some r from h)
  | succ fu ih =>
    intro B S O x6 x7 x8 r h H locs ls hP hD hS hl
    replace h : (if x6 ≤ x8 then (if B.2.2.2 ≤ O.2.2 then some (.inr ((), (B, S, O))) else xbnd (fX0_readPiece B S O x7) (fun E9 s_10 => .inl (E9, (s_10.1, s_10.2.1, s_10.2.2))) (fun v_9 s_10 => some (.inr ((), (s_10.1, s_10.2.1, s_10.2.2))))) else xbnd0 (fX2_stretchIsOver B.1) (fun v_11 s_12 => (if v_11 = 0 then fX0_readCommand_94 (fX0_readCommand_59 fu) (s_12, B.2.1, B.2.2.1, B.2.2.2) S O x6 x7 x8 else xbnd (fX2_readStretch s_12 S) (fun E9 s_14 => .inl (E9, ((s_14.1, B.2.1, B.2.2.1, B.2.2.2), s_14.2, O))) (fun v_13 s_14 => (if (4 : Int32) < 0 ∨ 9 ≤ ((4 : Int32)).toNatClampNeg then none else (if (4 : Int32) < 0 ∨ 9 ≤ ((4 : Int32)).toNatClampNeg then none else fX0_readCommand_94 (fX0_readCommand_59 fu) (s_14.1, B.2.1, B.2.2.1, B.2.2.2) s_14.2 (O.1, (upd O.2.1 ((4 : Int32)).toNatClampNeg ((O.2.1 ((4 : Int32)).toNatClampNeg) + (1 : Int32))), O.2.2) x6 x7 x8)))))) = some r := h
    refine lv_iload hx hb dX0_readCommand_59 (lv_at hl 5 rfl) ?_
    refine lv_iload hx hb dX0_readCommand_61 (lv_at hl 3 rfl) ?_
    refine lv_icmp_ge (tgt := 127) hx hb dX0_readCommand_63 (by decide) (fun c9 => ?_) (fun c9 => ?_)
    · replace h := xi_t c9 h
      refine lv_aload_n hx hb dX0_readCommand_127 rfl (lv_at hl 2 rfl) ?_
      refine va_getN (D := D) (ci := 3) (v := .int O.2.2) (C := RX3) (T := TX3) (N := 3) hx hb hts xu_X3 hown hK hP 36 rfl rfl 2 (by decide) (hts _ xw_171) (fun _ h9 => h9) rfl dX0_readCommand_128 ?_
      refine lv_aload_n hx hb dX0_readCommand_131 rfl (lv_at hl 0 rfl) ?_
      refine va_get (D := D) (ci := 0) (v := .int B.2.2.2) (C := RX0) (T := TX0) (N := 4) hx hb hts xu_X0 hown hK hP 0 rfl rfl 3 (by decide) (hts _ xw_140) (fun _ h9 => h9) rfl dX0_readCommand_132 ?_
      refine lv_icmp_ge (tgt := 146) hx hb dX0_readCommand_135 (by decide) (fun c9 => ?_) (fun c9 => ?_)
      · replace h := xi_t c9 h
        obtain rfl := Option.some.inj h
        exact xe_v C hP hD hS dX0_readCommand_146
      · replace h := xi_f c9 h
        refine lv_aload_n hx hb dX0_readCommand_138 rfl (lv_at hl 0 rfl) ?_
        refine lv_aload_n hx hb dX0_readCommand_139 rfl (lv_at hl 1 rfl) ?_
        refine lv_aload_n hx hb dX0_readCommand_140 rfl (lv_at hl 2 rfl) ?_
        refine lv_iload hx hb dX0_readCommand_141 (lv_at hl 4 rfl) ?_
        rcases xi_c h with ⟨E9, s_10, hc9, rfl⟩ | ⟨v_9, s_10, hc9, h⟩
        · exact xc_Vt (As := [.ref (aS 0), .ref (aO 0), .int x7]) (ws' := w0 aB K s_10.1 ++ (w4 aS K s_10.2.1 ++ w3 aO K s_10.2.2)) C (mX0_readPiece l hlt D K aB aS aO _ _ _ _ _ _ hc9) xgi_X0_107 xd_X0_readPiece ⟨Nat.le_of_ble_eq_true rfl, Nat.le_of_ble_eq_true rfl⟩ ⟨Nat.le_refl _, Nat.le_refl _⟩ hl rfl (Nat.le_of_ble_eq_true rfl) dX0_readCommand_143 hP hD hS 0 0 rfl rfl rfl [0, 1, 2, 3, 4, 5, 6, 7, 8, 9, 10, 11, 12, 13, 14, 15, 16, 17, 18, 19, 20, 21, 22, 23, 24, 25, 26, 27, 28, 29, 30, 31, 32, 33, 34, 35, 36, 37, 38] rfl rfl [(0, w0 aB K s_10.1), (34, w4 aS K s_10.2.1), (36, w3 aO K s_10.2.2)] rfl rfl rfl (List.forall_mem_cons.mpr ⟨Nat.le_of_ble_eq_true rfl, (List.forall_mem_cons.mpr ⟨Nat.le_of_ble_eq_true rfl, (List.forall_mem_cons.mpr ⟨Nat.le_of_ble_eq_true rfl, (fun _ h => absurd h List.not_mem_nil)⟩)⟩)⟩)
        · refine xc_V (As := [.ref (aS 0), .ref (aO 0), .int x7]) (ws' := w0 aB K s_10.1 ++ (w4 aS K s_10.2.1 ++ w3 aO K s_10.2.2)) C (mX0_readPiece l hlt D K aB aS aO _ _ _ _ _ _ hc9) xgi_X0_107 xd_X0_readPiece ⟨Nat.le_of_ble_eq_true rfl, Nat.le_of_ble_eq_true rfl⟩ ⟨Nat.zero_le _, Nat.zero_le _⟩ hl rfl (Nat.le_of_ble_eq_true rfl) dX0_readCommand_143 hP hD hS 0 0 rfl rfl rfl [0, 1, 2, 3, 4, 5, 6, 7, 8, 9, 10, 11, 12, 13, 14, 15, 16, 17, 18, 19, 20, 21, 22, 23, 24, 25, 26, 27, 28, 29, 30, 31, 32, 33, 34, 35, 36, 37, 38] rfl rfl [(0, w0 aB K s_10.1), (34, w4 aS K s_10.2.1), (36, w3 aO K s_10.2.2)] rfl rfl rfl (List.forall_mem_cons.mpr ⟨Nat.le_of_ble_eq_true rfl, (List.forall_mem_cons.mpr ⟨Nat.le_of_ble_eq_true rfl, (List.forall_mem_cons.mpr ⟨Nat.le_of_ble_eq_true rfl, (fun _ h => absurd h List.not_mem_nil)⟩)⟩)⟩) (fun H locs hP hD hS => ?_)
          refine W.eq (g2 := F0 m 146 ls []) rfl ?_
          obtain rfl := Option.some.inj h
          exact xe_v C hP hD hS dX0_readCommand_146
    · replace h := xi_f c9 h
      refine lv_aload_n hx hb dX0_readCommand_66 rfl (lv_at hl 0 rfl) ?_
      refine va_get (D := D) (ci := 0) (v := .ref (aB 1)) (C := RX0) (T := TX0) (N := 4) hx hb hts xu_X0 hown hK hP 0 rfl rfl 0 (by decide) (hts _ xw_137) (fun _ h9 => h9) rfl dX0_readCommand_67 ?_
      obtain ⟨v_11, s_12, hc9, h⟩ := xi_d h
      refine xc_V (As := []) (ws' := w0 aB K (s_12, B.2.1, B.2.2.1, B.2.2.2) ++ (w4 aS K S ++ w3 aO K O)) C (mX2_stretchIsOver l D K (fun i => aB (i + 1)) _ _ _ hc9) xgi_X0_93 xd_X2_stretchIsOver ⟨Nat.le_of_ble_eq_true rfl, Nat.le_of_ble_eq_true rfl⟩ ⟨Nat.zero_le _, Nat.zero_le _⟩ hl rfl (Nat.le_of_ble_eq_true rfl) dX0_readCommand_70 hP hD hS 1 2 rfl rfl rfl [1, 2, 3, 4, 5, 6, 7, 8, 9, 10, 11, 12, 13, 14, 15, 16, 17, 18, 19, 20, 21, 22, 23, 24, 25] rfl rfl [(1, w2 (fun i => aB (i + 1)) K s_12)] rfl rfl rfl (List.forall_mem_cons.mpr ⟨Nat.le_of_ble_eq_true rfl, (fun _ h => absurd h List.not_mem_nil)⟩) (fun H locs hP hD hS => ?_)
      refine W.eq (g2 := F0 m 73 ls [.int v_11]) rfl ?_
      refine lv_if_eq (tgt := 94) hx hb dX0_readCommand_73 (by decide) (fun c9 => ?_) (fun c9 => ?_)
      · replace h := xi_t c9 h
        exact kX0_readCommand_94 C hlt _ ih _ _ _ _ _ _ _ h _ _ _ hP hD hS (lv_sub hl [0, 1, 2, 3, 4, 5] rfl)
      · replace h := xi_f c9 h
        refine lv_aload_n hx hb dX0_readCommand_76 rfl (lv_at hl 0 rfl) ?_
        refine va_get (D := D) (ci := 0) (v := .ref (aB 1)) (C := RX0) (T := TX0) (N := 4) hx hb hts xu_X0 hown hK hP 0 rfl rfl 0 (by decide) (hts _ xw_137) (fun _ h9 => h9) rfl dX0_readCommand_77 ?_
        refine lv_aload_n hx hb dX0_readCommand_80 rfl (lv_at hl 1 rfl) ?_
        rcases xi_c h with ⟨E9, s_14, hc9, rfl⟩ | ⟨v_13, s_14, hc9, h⟩
        · exact xc_Vt (As := [.ref (aS 0)]) (ws' := w0 aB K (s_14.1, B.2.1, B.2.2.1, B.2.2.2) ++ (w4 aS K s_14.2 ++ w3 aO K O)) C (mX2_readStretch l hlt D K (fun i => aB (i + 1)) aS _ _ _ _ hc9) xgi_X0_97 xd_X2_readStretch ⟨Nat.le_of_ble_eq_true rfl, Nat.le_of_ble_eq_true rfl⟩ ⟨Nat.le_refl _, Nat.le_refl _⟩ hl rfl (Nat.le_of_ble_eq_true rfl) dX0_readCommand_81 hP hD hS 1 2 rfl rfl rfl [1, 2, 3, 4, 5, 6, 7, 8, 9, 10, 11, 12, 13, 14, 15, 16, 17, 18, 19, 20, 21, 22, 23, 24, 25, 34, 35] rfl rfl [(1, w2 (fun i => aB (i + 1)) K s_14.1), (34, w4 aS K s_14.2)] rfl rfl rfl (List.forall_mem_cons.mpr ⟨Nat.le_of_ble_eq_true rfl, (List.forall_mem_cons.mpr ⟨Nat.le_of_ble_eq_true rfl, (fun _ h => absurd h List.not_mem_nil)⟩)⟩)
        · refine xc_V (As := [.ref (aS 0)]) (ws' := w0 aB K (s_14.1, B.2.1, B.2.2.1, B.2.2.2) ++ (w4 aS K s_14.2 ++ w3 aO K O)) C (mX2_readStretch l hlt D K (fun i => aB (i + 1)) aS _ _ _ _ hc9) xgi_X0_97 xd_X2_readStretch ⟨Nat.le_of_ble_eq_true rfl, Nat.le_of_ble_eq_true rfl⟩ ⟨Nat.zero_le _, Nat.zero_le _⟩ hl rfl (Nat.le_of_ble_eq_true rfl) dX0_readCommand_81 hP hD hS 1 2 rfl rfl rfl [1, 2, 3, 4, 5, 6, 7, 8, 9, 10, 11, 12, 13, 14, 15, 16, 17, 18, 19, 20, 21, 22, 23, 24, 25, 34, 35] rfl rfl [(1, w2 (fun i => aB (i + 1)) K s_14.1), (34, w4 aS K s_14.2)] rfl rfl rfl (List.forall_mem_cons.mpr ⟨Nat.le_of_ble_eq_true rfl, (List.forall_mem_cons.mpr ⟨Nat.le_of_ble_eq_true rfl, (fun _ h => absurd h List.not_mem_nil)⟩)⟩) (fun H locs hP hD hS => ?_)
          refine W.eq (g2 := F0 m 84 ls []) rfl ?_
          refine lv_aload_n hx hb dX0_readCommand_84 rfl (lv_at hl 2 rfl) ?_
          refine va_getN (D := D) (ci := 3) (v := .ref (aO 2)) (C := RX3) (T := TX3) (N := 3) hx hb hts xu_X3 hown hK hP 36 rfl rfl 1 (by decide) (hts _ xw_168) (fun _ h9 => h9) rfl dX0_readCommand_85 ?_
          refine lv_iconst (v := (4 : Int32)) hx hb dX0_readCommand_88 (by decide) ?_
          refine lv_dup2_11 hx hb dX0_readCommand_89 rfl rfl ?_
          obtain ⟨hi9, h⟩ := xi_g h
          refine va_iald hx hb hK hP 38 0 rfl rfl hi9 dX0_readCommand_90 ?_
          refine lv_iconst (v := (1 : Int32)) hx hb dX0_readCommand_91 (by decide) ?_
          refine lv_iadd hx hb dX0_readCommand_92 ?_
          obtain ⟨hi9, h⟩ := xi_g h
          refine va_iast hx hb hK hP hD hS 38 0 rfl rfl hi9 dX0_readCommand_93 (fun H locs hP hD hS => ?_)
          have hP : va_P D vwCl (w0 aB K (s_14.1, B.2.1, B.2.2.1, B.2.2.2) ++ (w4 aS K s_14.2 ++ w3 aO K (O.1, (upd O.2.1 ((4 : Int32)).toNatClampNeg ((O.2.1 ((4 : Int32)).toNatClampNeg) + (1 : Int32))), O.2.2))) H := hP
          have hD : va_D A (w0 aB K (s_14.1, B.2.1, B.2.2.1, B.2.2.2) ++ (w4 aS K s_14.2 ++ w3 aO K (O.1, (upd O.2.1 ((4 : Int32)).toNatClampNeg ((O.2.1 ((4 : Int32)).toNatClampNeg) + (1 : Int32))), O.2.2))) := hD
          exact kX0_readCommand_94 C hlt _ ih _ _ _ _ _ _ _ h _ _ _ hP hD hS (lv_sub hl [0, 1, 2, 3, 4, 5] rfl)
set_option maxHeartbeats 4000000 in
set_option maxRecDepth 100000 in
theorem mX0_readCommand (l : Launch) (hlt : l.stackTraces = false) (D : va_G) (K : Nat → ClassId) (aB : Nat → Nat) (aS : Nat → Nat) (aO : Nat → Nat) (sz : Nat) (B : S0) (S : S4) (O : S3) (r : (String × (S0 × S4 × S3)) ⊕ (Unit × (S0 × S4 × S3))) (h : fX0_readCommand B S O = some r) : xMet l yX0_readCommand cX0_readCommand 10 none 9 168 D K [.ref (aB 0), .ref (aS 0), .ref (aO 0)] sz (w0 aB K B ++ (w4 aS K S ++ w3 aO K O)) (oX0_readCommand aB aS aO K r) := by
  refine xm_of _ (by decide +kernel) (Nat.le_of_ble_eq_true rfl) (fun p e s m args below meth c A C hP hD ls hl => ?_)
  have hl : lv_has ls 10 [(0, .ref (aB 0)), (1, .ref (aS 0)), (2, .ref (aO 0))] := hl
  have hS : va_S A s.heap s.heap [] := va_S.rf
  obtain ⟨hx, hb, hr, hml, hown, hK, hts, hA, hG, hlk, hte, hnm⟩ := id C
  replace h : xbnd (fX1_readSymbol B.2.1 S) (fun E9 s_2 => .inl (E9, ((B.1, s_2.1, B.2.2.1, B.2.2.2), s_2.2, O))) (fun v_1 s_2 => (if (v_1 / (4 : Int32)) < 0 ∨ 4 ≤ ((v_1 / (4 : Int32))).toNatClampNeg then none else xbnd (fX4_readNumber s_2.2 (v_1 / (4 : Int32))) (fun E9 s_4 => .inl (E9, ((B.1, s_2.1, B.2.2.1, B.2.2.2), s_4, O))) (fun v_3 s_4 => (if (v_1 - v_1 / (4 : Int32) * (4 : Int32)) < 0 ∨ 4 ≤ ((v_1 - v_1 / (4 : Int32) * (4 : Int32))).toNatClampNeg then none else xbnd (fX4_readNumber s_4 (v_1 - v_1 / (4 : Int32) * (4 : Int32))) (fun E9 s_6 => .inl (E9, ((B.1, s_2.1, B.2.2.1, B.2.2.2), s_6, O))) (fun v_5 s_6 => xbnd (fX0_refuseBeyondEnd (B.1, s_2.1, B.2.2.1, B.2.2.2) O ((xs_ins ((v_1 / (4 : Int32))).toNatClampNeg) + v_3)) (fun E9 s_8 => .inl (E9, (s_8.1, s_6, s_8.2))) (fun v_7 s_8 => fX0_readCommand_59 xF s_8.1 s_6 s_8.2 ((xs_ins ((v_1 / (4 : Int32))).toNatClampNeg) + v_3) ((xs_cop ((v_1 - v_1 / (4 : Int32) * (4 : Int32))).toNatClampNeg) + v_5) (0 : Int32))))))) = some r := h
  refine lv_aload_n hx hb dX0_readCommand_0 rfl (lv_at hl 0 rfl) ?_
  refine va_get (D := D) (ci := 0) (v := .ref (aB 26)) (C := RX0) (T := TX0) (N := 4) hx hb hts xu_X0 hown hK hP 0 rfl rfl 1 (by decide) (hts _ xw_138) (fun _ h9 => h9) rfl dX0_readCommand_1 ?_
  refine lv_aload_n hx hb dX0_readCommand_4 rfl (lv_at hl 1 rfl) ?_
  rcases xi_c h with ⟨E9, s_2, hc9, rfl⟩ | ⟨v_1, s_2, hc9, h⟩
  · exact xc_Vt (As := [.ref (aS 0)]) (ws' := w0 aB K (B.1, s_2.1, B.2.2.1, B.2.2.2) ++ (w4 aS K s_2.2 ++ w3 aO K O)) C (mX1_readSymbol l hlt D K (fun i => aB (i + 26)) aS _ _ _ _ hc9) xgi_X0_79 xd_X1_readSymbol ⟨Nat.le_of_ble_eq_true rfl, Nat.le_of_ble_eq_true rfl⟩ ⟨Nat.le_refl _, Nat.le_refl _⟩ hl rfl (Nat.le_of_ble_eq_true rfl) dX0_readCommand_5 hP hD hS 26 1 rfl rfl rfl [26, 27, 28, 29, 34, 35] rfl rfl [(26, w1 (fun i => aB (i + 26)) K s_2.1), (34, w4 aS K s_2.2)] rfl rfl rfl (List.forall_mem_cons.mpr ⟨Nat.le_of_ble_eq_true rfl, (List.forall_mem_cons.mpr ⟨Nat.le_of_ble_eq_true rfl, (fun _ h => absurd h List.not_mem_nil)⟩)⟩)
  · refine xc_V (As := [.ref (aS 0)]) (ws' := w0 aB K (B.1, s_2.1, B.2.2.1, B.2.2.2) ++ (w4 aS K s_2.2 ++ w3 aO K O)) C (mX1_readSymbol l hlt D K (fun i => aB (i + 26)) aS _ _ _ _ hc9) xgi_X0_79 xd_X1_readSymbol ⟨Nat.le_of_ble_eq_true rfl, Nat.le_of_ble_eq_true rfl⟩ ⟨Nat.zero_le _, Nat.zero_le _⟩ hl rfl (Nat.le_of_ble_eq_true rfl) dX0_readCommand_5 hP hD hS 26 1 rfl rfl rfl [26, 27, 28, 29, 34, 35] rfl rfl [(26, w1 (fun i => aB (i + 26)) K s_2.1), (34, w4 aS K s_2.2)] rfl rfl rfl (List.forall_mem_cons.mpr ⟨Nat.le_of_ble_eq_true rfl, (List.forall_mem_cons.mpr ⟨Nat.le_of_ble_eq_true rfl, (fun _ h => absurd h List.not_mem_nil)⟩)⟩) (fun H locs hP hD hS => ?_)
    refine W.eq (g2 := F0 m 8 ls [.int v_1]) rfl ?_
    refine lv_istore_n (lv' := [(3, .int v_1), (0, .ref (aB 0)), (1, .ref (aS 0)), (2, .ref (aO 0))]) hx hb dX0_readCommand_8 rfl hl (by decide) rfl (fun ls hl => ?_)
    refine lv_iload_n hx hb dX0_readCommand_9 rfl (lv_at hl 0 rfl) ?_
    refine lv_iconst (v := (4 : Int32)) hx hb dX0_readCommand_10 (by decide) ?_
    refine lv_idiv hx hb dX0_readCommand_11 (by decide) ?_
    refine lv_istore (lv' := [(4, .int (v_1 / (4 : Int32))), (3, .int v_1), (0, .ref (aB 0)), (1, .ref (aS 0)), (2, .ref (aO 0))]) hx hb dX0_readCommand_12 hl (by decide) rfl (fun ls hl => ?_)
    refine lv_iload_n hx hb dX0_readCommand_14 rfl (lv_at hl 1 rfl) ?_
    refine lv_iconst (v := (4 : Int32)) hx hb dX0_readCommand_15 (by decide) ?_
    refine lv_irem hx hb dX0_readCommand_16 (by decide) ?_
    refine lv_istore (lv' := [(5, .int (v_1 - v_1 / (4 : Int32) * (4 : Int32))), (4, .int (v_1 / (4 : Int32))), (3, .int v_1), (0, .ref (aB 0)), (1, .ref (aS 0)), (2, .ref (aO 0))]) hx hb dX0_readCommand_17 hl (by decide) rfl (fun ls hl => ?_)
    obtain ⟨r_LEAST_INSERTED, hZLEAST_INSERTED, hXLEAST_INSERTED, hLLEAST_INSERTED, hNLEAST_INSERTED⟩ := hG.2.1.2.2.1
    refine va_gets hx hb hZLEAST_INSERTED hS hown (hts _ xw_436) (fun _ h9 => h9) dX0_readCommand_19 ?_
    refine lv_iload hx hb dX0_readCommand_22 (lv_at hl 1 rfl) ?_
    obtain ⟨hi9, h⟩ := xi_g h
    refine va_sld hx hb hXLEAST_INSERTED hLLEAST_INSERTED hNLEAST_INSERTED hS hi9 dX0_readCommand_24 ?_
    refine lv_aload_n hx hb dX0_readCommand_25 rfl (lv_at hl 4 rfl) ?_
    refine lv_iload hx hb dX0_readCommand_26 (lv_at hl 1 rfl) ?_
    rcases xi_c h with ⟨E9, s_4, hc9, rfl⟩ | ⟨v_3, s_4, hc9, h⟩
    · exact xc_Vt (As := [.int (v_1 / (4 : Int32))]) (ws' := w0 aB K (B.1, s_2.1, B.2.2.1, B.2.2.2) ++ (w4 aS K s_4 ++ w3 aO K O)) C (mX4_readNumber l hlt D K aS _ _ _ _ hc9) xgi_X0_28 xd_X4_readNumber ⟨Nat.le_of_ble_eq_true rfl, Nat.le_of_ble_eq_true rfl⟩ ⟨Nat.le_refl _, Nat.le_refl _⟩ hl rfl (Nat.le_of_ble_eq_true rfl) dX0_readCommand_28 hP hD hS 34 4 rfl rfl rfl [34, 35] rfl rfl [(34, w4 aS K s_4)] rfl rfl rfl (List.forall_mem_cons.mpr ⟨Nat.le_of_ble_eq_true rfl, (fun _ h => absurd h List.not_mem_nil)⟩)
    · refine xc_V (As := [.int (v_1 / (4 : Int32))]) (ws' := w0 aB K (B.1, s_2.1, B.2.2.1, B.2.2.2) ++ (w4 aS K s_4 ++ w3 aO K O)) C (mX4_readNumber l hlt D K aS _ _ _ _ hc9) xgi_X0_28 xd_X4_readNumber ⟨Nat.le_of_ble_eq_true rfl, Nat.le_of_ble_eq_true rfl⟩ ⟨Nat.zero_le _, Nat.zero_le _⟩ hl rfl (Nat.le_of_ble_eq_true rfl) dX0_readCommand_28 hP hD hS 34 4 rfl rfl rfl [34, 35] rfl rfl [(34, w4 aS K s_4)] rfl rfl rfl (List.forall_mem_cons.mpr ⟨Nat.le_of_ble_eq_true rfl, (fun _ h => absurd h List.not_mem_nil)⟩) (fun H locs hP hD hS => ?_)
      refine W.eq (g2 := F0 m 31 ls [.int v_3, .int (xs_ins ((v_1 / (4 : Int32))).toNatClampNeg)]) rfl ?_
      refine lv_iadd hx hb dX0_readCommand_31 ?_
      refine lv_istore (lv' := [(6, .int ((xs_ins ((v_1 / (4 : Int32))).toNatClampNeg) + v_3)), (5, .int (v_1 - v_1 / (4 : Int32) * (4 : Int32))), (4, .int (v_1 / (4 : Int32))), (3, .int v_1), (0, .ref (aB 0)), (1, .ref (aS 0)), (2, .ref (aO 0))]) hx hb dX0_readCommand_32 hl (by decide) rfl (fun ls hl => ?_)
      obtain ⟨r_LEAST_COPIED, hZLEAST_COPIED, hXLEAST_COPIED, hLLEAST_COPIED, hNLEAST_COPIED⟩ := hG.2.1.2.2.2
      refine va_gets hx hb hZLEAST_COPIED hS hown (hts _ xw_438) (fun _ h9 => h9) dX0_readCommand_34 ?_
      refine lv_iload hx hb dX0_readCommand_37 (lv_at hl 1 rfl) ?_
      obtain ⟨hi9, h⟩ := xi_g h
      refine va_sld hx hb hXLEAST_COPIED hLLEAST_COPIED hNLEAST_COPIED hS hi9 dX0_readCommand_39 ?_
      refine lv_aload_n hx hb dX0_readCommand_40 rfl (lv_at hl 5 rfl) ?_
      refine lv_iload hx hb dX0_readCommand_41 (lv_at hl 1 rfl) ?_
      rcases xi_c h with ⟨E9, s_6, hc9, rfl⟩ | ⟨v_5, s_6, hc9, h⟩
      · exact xc_Vt (As := [.int (v_1 - v_1 / (4 : Int32) * (4 : Int32))]) (ws' := w0 aB K (B.1, s_2.1, B.2.2.1, B.2.2.2) ++ (w4 aS K s_6 ++ w3 aO K O)) C (mX4_readNumber l hlt D K aS _ _ _ _ hc9) xgi_X0_28 xd_X4_readNumber ⟨Nat.le_of_ble_eq_true rfl, Nat.le_of_ble_eq_true rfl⟩ ⟨Nat.le_refl _, Nat.le_refl _⟩ hl rfl (Nat.le_of_ble_eq_true rfl) dX0_readCommand_43 hP hD hS 34 4 rfl rfl rfl [34, 35] rfl rfl [(34, w4 aS K s_6)] rfl rfl rfl (List.forall_mem_cons.mpr ⟨Nat.le_of_ble_eq_true rfl, (fun _ h => absurd h List.not_mem_nil)⟩)
      · refine xc_V (As := [.int (v_1 - v_1 / (4 : Int32) * (4 : Int32))]) (ws' := w0 aB K (B.1, s_2.1, B.2.2.1, B.2.2.2) ++ (w4 aS K s_6 ++ w3 aO K O)) C (mX4_readNumber l hlt D K aS _ _ _ _ hc9) xgi_X0_28 xd_X4_readNumber ⟨Nat.le_of_ble_eq_true rfl, Nat.le_of_ble_eq_true rfl⟩ ⟨Nat.zero_le _, Nat.zero_le _⟩ hl rfl (Nat.le_of_ble_eq_true rfl) dX0_readCommand_43 hP hD hS 34 4 rfl rfl rfl [34, 35] rfl rfl [(34, w4 aS K s_6)] rfl rfl rfl (List.forall_mem_cons.mpr ⟨Nat.le_of_ble_eq_true rfl, (fun _ h => absurd h List.not_mem_nil)⟩) (fun H locs hP hD hS => ?_)
        refine W.eq (g2 := F0 m 46 ls [.int v_5, .int (xs_cop ((v_1 - v_1 / (4 : Int32) * (4 : Int32))).toNatClampNeg)]) rfl ?_
        refine lv_iadd hx hb dX0_readCommand_46 ?_
        refine lv_istore (lv' := [(7, .int ((xs_cop ((v_1 - v_1 / (4 : Int32) * (4 : Int32))).toNatClampNeg) + v_5)), (6, .int ((xs_ins ((v_1 / (4 : Int32))).toNatClampNeg) + v_3)), (5, .int (v_1 - v_1 / (4 : Int32) * (4 : Int32))), (4, .int (v_1 / (4 : Int32))), (3, .int v_1), (0, .ref (aB 0)), (1, .ref (aS 0)), (2, .ref (aO 0))]) hx hb dX0_readCommand_47 hl (by decide) rfl (fun ls hl => ?_)
        refine lv_aload_n hx hb dX0_readCommand_49 rfl (lv_at hl 5 rfl) ?_
        refine lv_aload_n hx hb dX0_readCommand_50 rfl (lv_at hl 7 rfl) ?_
        refine lv_iload hx hb dX0_readCommand_51 (lv_at hl 1 rfl) ?_
        rcases xi_c h with ⟨E9, s_8, hc9, rfl⟩ | ⟨v_7, s_8, hc9, h⟩
        · exact xc_Vt (As := [.ref (aO 0), .int ((xs_ins ((v_1 / (4 : Int32))).toNatClampNeg) + v_3)]) (ws' := w0 aB K s_8.1 ++ (w4 aS K s_6 ++ w3 aO K s_8.2)) C (mX0_refuseBeyondEnd l hlt D K aB aO _ _ _ _ _ hc9) xgi_X0_89 xd_X0_refuseBeyondEnd ⟨Nat.le_of_ble_eq_true rfl, Nat.le_of_ble_eq_true rfl⟩ ⟨Nat.le_refl _, Nat.le_refl _⟩ hl rfl (Nat.le_of_ble_eq_true rfl) dX0_readCommand_53 hP hD hS 0 0 rfl rfl rfl [0, 1, 2, 3, 4, 5, 6, 7, 8, 9, 10, 11, 12, 13, 14, 15, 16, 17, 18, 19, 20, 21, 22, 23, 24, 25, 26, 27, 28, 29, 30, 31, 32, 33, 36, 37, 38] rfl rfl [(0, w0 aB K s_8.1), (36, w3 aO K s_8.2)] rfl rfl rfl (List.forall_mem_cons.mpr ⟨Nat.le_of_ble_eq_true rfl, (List.forall_mem_cons.mpr ⟨Nat.le_of_ble_eq_true rfl, (fun _ h => absurd h List.not_mem_nil)⟩)⟩)
        · refine xc_V (As := [.ref (aO 0), .int ((xs_ins ((v_1 / (4 : Int32))).toNatClampNeg) + v_3)]) (ws' := w0 aB K s_8.1 ++ (w4 aS K s_6 ++ w3 aO K s_8.2)) C (mX0_refuseBeyondEnd l hlt D K aB aO _ _ _ _ _ hc9) xgi_X0_89 xd_X0_refuseBeyondEnd ⟨Nat.le_of_ble_eq_true rfl, Nat.le_of_ble_eq_true rfl⟩ ⟨Nat.zero_le _, Nat.zero_le _⟩ hl rfl (Nat.le_of_ble_eq_true rfl) dX0_readCommand_53 hP hD hS 0 0 rfl rfl rfl [0, 1, 2, 3, 4, 5, 6, 7, 8, 9, 10, 11, 12, 13, 14, 15, 16, 17, 18, 19, 20, 21, 22, 23, 24, 25, 26, 27, 28, 29, 30, 31, 32, 33, 36, 37, 38] rfl rfl [(0, w0 aB K s_8.1), (36, w3 aO K s_8.2)] rfl rfl rfl (List.forall_mem_cons.mpr ⟨Nat.le_of_ble_eq_true rfl, (List.forall_mem_cons.mpr ⟨Nat.le_of_ble_eq_true rfl, (fun _ h => absurd h List.not_mem_nil)⟩)⟩) (fun H locs hP hD hS => ?_)
          refine W.eq (g2 := F0 m 56 ls []) rfl ?_
          refine lv_iconst (v := (0 : Int32)) hx hb dX0_readCommand_56 (by decide) ?_
          refine lv_istore (lv' := [(8, .int (0 : Int32)), (7, .int ((xs_cop ((v_1 - v_1 / (4 : Int32) * (4 : Int32))).toNatClampNeg) + v_5)), (6, .int ((xs_ins ((v_1 / (4 : Int32))).toNatClampNeg) + v_3)), (5, .int (v_1 - v_1 / (4 : Int32) * (4 : Int32))), (4, .int (v_1 / (4 : Int32))), (3, .int v_1), (0, .ref (aB 0)), (1, .ref (aS 0)), (2, .ref (aO 0))]) hx hb dX0_readCommand_57 hl (by decide) rfl (fun ls hl => ?_)
          exact kX0_readCommand_59 C hlt _ _ _ _ _ _ _ _ h _ _ _ hP hD hS (lv_sub hl [6, 7, 8, 2, 1, 0] rfl)
abbrev oX0_readPlain (aB : Nat → Nat) (aS : Nat → Nat) (aO : Nat → Nat) (K : Nat → ClassId) (r : (String × (S0 × S4 × S3)) ⊕ (Unit × (S0 × S4 × S3))) : xO := match r with
  | .inl q => .inl (q.1, w0 aB K q.2.1 ++ (w4 aS K q.2.2.1 ++ w3 aO K q.2.2.2))
  | .inr q => .inr (none, w0 aB K q.2.1 ++ (w4 aS K q.2.2.1 ++ w3 aO K q.2.2.2))
def fX0_readPlain_5 : Nat → S0 → S4 → S3 → Int32 → Option ((String × (S0 × S4 × S3)) ⊕ (Unit × (S0 × S4 × S3)))
  | 0 => fun _ _ _ _ => none
  | fu + 1 => fun B S O x3 => (if B.2.2.2 ≤ x3 then some (.inr ((), (B, S, O))) else xbnd (fX4_readNumber S (5 : Int32)) (fun E9 s_2 => .inl (E9, (B, s_2, O))) (fun v_1 s_2 => xbnd0 (fX3_add O v_1 (1 : Int32)) (fun v_3 s_4 => fX0_readPlain_5 fu B s_2 s_4 (x3 + (1 : Int32)))))
def fX0_readPlain (B : S0) (S : S4) (O : S3) : Option ((String × (S0 × S4 × S3)) ⊕ (Unit × (S0 × S4 × S3))) := fX0_readPlain_5 xF B S O O.2.2
set_option maxHeartbeats 4000000 in
set_option maxRecDepth 100000 in
theorem kX0_readPlain_5 {p : Program} {l : Launch} {e : Env} {s : State} {m : MethodId} {args : Array Value} {below : List Frame} {meth : Method} {c : Code} {D : va_G} {K : Nat → ClassId} {A : Nat → Prop} {aB : Nat → Nat} {aS : Nat → Nat} {aO : Nat → Nat} (C : xC p s m args meth c cX0_readPlain 4 none yX0_readPlain D K A []) (hlt : l.stackTraces = false) : ∀ fu : Nat, ∀ (B : S0) (S : S4) (O : S3) (x3 : Int32) (r : (String × (S0 × S4 × S3)) ⊕ (Unit × (S0 × S4 × S3))), fX0_readPlain_5 fu B S O x3 = some r → ∀ (H : Heap) (locs : List Loc) (ls : Array Slot), va_P D vwCl (w0 aB K B ++ (w4 aS K S ++ w3 aO K O)) H → va_D A (w0 aB K B ++ (w4 aS K S ++ w3 aO K O)) → va_S A s.heap H locs → lv_has ls 4 [(0, .ref (aB 0)), (1, .ref (aS 0)), (2, .ref (aO 0)), (3, .int x3)] → W p l e (xR 7 113 (oX0_readPlain aB aS aO K r)) s m args below meth c H locs 0 0 (xQ below args s D K A (oX0_readPlain aB aS aO K r)) (F0 m 5 ls []) := by
  obtain ⟨hx, hb, hr, hml, hown, hK, hts, hA, hG, hlk, hte, hnm⟩ := id C
  intro fu
  induction fu with
  | zero =>
    intro B S O x3 r h
    exact nomatch (show (none : Option ((String × (S0 × S4 × S3)) ⊕ (Unit × (S0 × S4 × S3)))) = some r from h)
  | succ fu ih =>
    intro B S O x3 r h H locs ls hP hD hS hl
    replace h : (if B.2.2.2 ≤ x3 then some (.inr ((), (B, S, O))) else xbnd (fX4_readNumber S (5 : Int32)) (fun E9 s_2 => .inl (E9, (B, s_2, O))) (fun v_1 s_2 => xbnd0 (fX3_add O v_1 (1 : Int32)) (fun v_3 s_4 => fX0_readPlain_5 fu B s_2 s_4 (x3 + (1 : Int32))))) = some r := h
    refine lv_iload_n hx hb dX0_readPlain_5 rfl (lv_at hl 3 rfl) ?_
    refine lv_aload_n hx hb dX0_readPlain_6 rfl (lv_at hl 0 rfl) ?_
    refine va_get (D := D) (ci := 0) (v := .int B.2.2.2) (C := RX0) (T := TX0) (N := 4) hx hb hts xu_X0 hown hK hP 0 rfl rfl 3 (by decide) (hts _ xw_140) (fun _ h9 => h9) rfl dX0_readPlain_7 ?_
    refine lv_icmp_ge (tgt := 29) hx hb dX0_readPlain_10 (by decide) (fun c9 => ?_) (fun c9 => ?_)
    · replace h := xi_t c9 h
      obtain rfl := Option.some.inj h
      exact xe_v C hP hD hS dX0_readPlain_29
    · replace h := xi_f c9 h
      refine lv_aload_n hx hb dX0_readPlain_13 rfl (lv_at hl 2 rfl) ?_
      refine lv_aload_n hx hb dX0_readPlain_14 rfl (lv_at hl 1 rfl) ?_
      refine lv_iconst (v := (5 : Int32)) hx hb dX0_readPlain_15 (by decide) ?_
      rcases xi_c h with ⟨E9, s_2, hc9, rfl⟩ | ⟨v_1, s_2, hc9, h⟩
      · exact xc_Vt (As := [.int (5 : Int32)]) (ws' := w0 aB K B ++ (w4 aS K s_2 ++ w3 aO K O)) C (mX4_readNumber l hlt D K aS _ _ _ _ hc9) xgi_X0_28 xd_X4_readNumber ⟨Nat.le_of_ble_eq_true rfl, Nat.le_of_ble_eq_true rfl⟩ ⟨Nat.le_refl _, Nat.le_refl _⟩ hl rfl (Nat.le_of_ble_eq_true rfl) dX0_readPlain_16 hP hD hS 34 4 rfl rfl rfl [34, 35] rfl rfl [(34, w4 aS K s_2)] rfl rfl rfl (List.forall_mem_cons.mpr ⟨Nat.le_of_ble_eq_true rfl, (fun _ h => absurd h List.not_mem_nil)⟩)
      · refine xc_V (As := [.int (5 : Int32)]) (ws' := w0 aB K B ++ (w4 aS K s_2 ++ w3 aO K O)) C (mX4_readNumber l hlt D K aS _ _ _ _ hc9) xgi_X0_28 xd_X4_readNumber ⟨Nat.le_of_ble_eq_true rfl, Nat.le_of_ble_eq_true rfl⟩ ⟨Nat.zero_le _, Nat.zero_le _⟩ hl rfl (Nat.le_of_ble_eq_true rfl) dX0_readPlain_16 hP hD hS 34 4 rfl rfl rfl [34, 35] rfl rfl [(34, w4 aS K s_2)] rfl rfl rfl (List.forall_mem_cons.mpr ⟨Nat.le_of_ble_eq_true rfl, (fun _ h => absurd h List.not_mem_nil)⟩) (fun H locs hP hD hS => ?_)
        refine W.eq (g2 := F0 m 19 ls [.int v_1, .ref (aO 0)]) rfl ?_
        refine lv_iconst (v := (1 : Int32)) hx hb dX0_readPlain_19 (by decide) ?_
        obtain ⟨v_3, s_4, hc9, h⟩ := xi_d h
        refine xc_V (As := [.int v_1, .int (1 : Int32)]) (ws' := w0 aB K B ++ (w4 aS K s_2 ++ w3 aO K s_4)) C (mX3_add l D K aO _ _ _ _ _ hc9) xgi_X0_61 xd_X3_add ⟨Nat.le_of_ble_eq_true rfl, Nat.le_of_ble_eq_true rfl⟩ ⟨Nat.zero_le _, Nat.zero_le _⟩ hl rfl (Nat.le_of_ble_eq_true rfl) dX0_readPlain_20 hP hD hS 36 3 rfl rfl rfl [36, 37, 38] rfl rfl [(36, w3 aO K s_4)] rfl rfl rfl (List.forall_mem_cons.mpr ⟨Nat.le_of_ble_eq_true rfl, (fun _ h => absurd h List.not_mem_nil)⟩) (fun H locs hP hD hS => ?_)
        refine W.eq (g2 := F0 m 23 ls []) rfl ?_
        refine lv_iinc (v := (x3 + (1 : Int32))) (lv' := [(3, .int (x3 + (1 : Int32))), (0, .ref (aB 0)), (1, .ref (aS 0)), (2, .ref (aO 0))]) hx hb dX0_readPlain_23 hl (k := 3) rfl (by rfl) (by decide) rfl (fun ls hl => ?_)
        refine lv_goto (tgt := 5) hx hb dX0_readPlain_26 (by decide) ?_
        exact ih _ _ _ _ _ h _ _ _ hP hD hS (lv_sub hl [1, 2, 3, 0] rfl)
set_option maxHeartbeats 4000000 in
set_option maxRecDepth 100000 in
theorem mX0_readPlain (l : Launch) (hlt : l.stackTraces = false) (D : va_G) (K : Nat → ClassId) (aB : Nat → Nat) (aS : Nat → Nat) (aO : Nat → Nat) (sz : Nat) (B : S0) (S : S4) (O : S3) (r : (String × (S0 × S4 × S3)) ⊕ (Unit × (S0 × S4 × S3))) (h : fX0_readPlain B S O = some r) : xMet l yX0_readPlain cX0_readPlain 4 none 7 113 D K [.ref (aB 0), .ref (aS 0), .ref (aO 0)] sz (w0 aB K B ++ (w4 aS K S ++ w3 aO K O)) (oX0_readPlain aB aS aO K r) := by
  refine xm_of _ (by decide +kernel) (Nat.le_of_ble_eq_true rfl) (fun p e s m args below meth c A C hP hD ls hl => ?_)
  have hl : lv_has ls 4 [(0, .ref (aB 0)), (1, .ref (aS 0)), (2, .ref (aO 0))] := hl
  have hS : va_S A s.heap s.heap [] := va_S.rf
  obtain ⟨hx, hb, hr, hml, hown, hK, hts, hA, hG, hlk, hte, hnm⟩ := id C
  replace h : fX0_readPlain_5 xF B S O O.2.2 = some r := h
  refine lv_aload_n hx hb dX0_readPlain_0 rfl (lv_at hl 2 rfl) ?_
  refine va_getN (D := D) (ci := 3) (v := .int O.2.2) (C := RX3) (T := TX3) (N := 3) hx hb hts xu_X3 hown hK hP 36 rfl rfl 2 (by decide) (hts _ xw_171) (fun _ h9 => h9) rfl dX0_readPlain_1 ?_
  refine lv_istore_n (lv' := [(3, .int O.2.2), (0, .ref (aB 0)), (1, .ref (aS 0)), (2, .ref (aO 0))]) hx hb dX0_readPlain_4 rfl hl (by decide) rfl (fun ls hl => ?_)
  exact kX0_readPlain_5 C hlt _ _ _ _ _ _ h _ _ _ hP hD hS (lv_sub hl [1, 2, 3, 0] rfl)
abbrev oX0_readCoded (aB : Nat → Nat) (aS : Nat → Nat) (aO : Nat → Nat) (K : Nat → ClassId) (r : (String × (S0 × S4 × S3)) ⊕ (Unit × (S0 × S4 × S3))) : xO := match r with
  | .inl q => .inl (q.1, w0 aB K q.2.1 ++ (w4 aS K q.2.2.1 ++ w3 aO K q.2.2.2))
  | .inr q => .inr (none, w0 aB K q.2.1 ++ (w4 aS K q.2.2.1 ++ w3 aO K q.2.2.2))
def fX0_readCoded_38 : Nat → S0 → S4 → S3 → Int32 → Option ((String × (S0 × S4 × S3)) ⊕ (Unit × (S0 × S4 × S3)))
  | 0 => fun _ _ _ _ => none
  | fu + 1 => fun B S O x3 => (if (400 : Int32) ≤ x3 then some (.inr ((), (B, S, O))) else (if B.2.2.2 ≤ O.2.2 then some (.inr ((), (B, S, O))) else xbnd (fX0_readCommand B S O) (fun E9 s_10 => .inl (E9, (s_10.1, s_10.2.1, s_10.2.2))) (fun v_9 s_10 => fX0_readCoded_38 fu s_10.1 s_10.2.1 s_10.2.2 (x3 + (1 : Int32)))))
def fX0_readCoded (B : S0) (S : S4) (O : S3) : Option ((String × (S0 × S4 × S3)) ⊕ (Unit × (S0 × S4 × S3))) := xbnd (fX2_readTypes B.1 S) (fun E9 s_2 => .inl (E9, ((s_2.1, B.2.1, B.2.2.1, B.2.2.2), s_2.2, O))) (fun v_1 s_2 => xbnd (fX2_readLetterCodes s_2.1 s_2.2) (fun E9 s_4 => .inl (E9, ((s_4.1, B.2.1, B.2.2.1, B.2.2.2), s_4.2, O))) (fun v_3 s_4 => xbnd (fX1_readCode B.2.1 s_4.2 (16 : Int32)) (fun E9 s_6 => .inl (E9, ((s_4.1, s_6.1, B.2.2.1, B.2.2.2), s_6.2, O))) (fun v_5 s_6 => xbnd (fX1_readCode B.2.2.1 s_6.2 (12 : Int32)) (fun E9 s_8 => .inl (E9, ((s_4.1, s_6.1, s_8.1, B.2.2.2), s_8.2, O))) (fun v_7 s_8 => fX0_readCoded_38 xF (s_4.1, s_6.1, s_8.1, B.2.2.2) s_8.2 O (0 : Int32)))))
set_option maxHeartbeats 4000000 in
set_option maxRecDepth 100000 in
theorem kX0_readCoded_38 {p : Program} {l : Launch} {e : Env} {s : State} {m : MethodId} {args : Array Value} {below : List Frame} {meth : Method} {c : Code} {D : va_G} {K : Nat → ClassId} {A : Nat → Prop} {aB : Nat → Nat} {aS : Nat → Nat} {aO : Nat → Nat} (C : xC p s m args meth c cX0_readCoded 4 none yX0_readCoded D K A []) (hlt : l.stackTraces = false) : ∀ fu : Nat, ∀ (B : S0) (S : S4) (O : S3) (x3 : Int32) (r : (String × (S0 × S4 × S3)) ⊕ (Unit × (S0 × S4 × S3))), fX0_readCoded_38 fu B S O x3 = some r → ∀ (H : Heap) (locs : List Loc) (ls : Array Slot), va_P D vwCl (w0 aB K B ++ (w4 aS K S ++ w3 aO K O)) H → va_D A (w0 aB K B ++ (w4 aS K S ++ w3 aO K O)) → va_S A s.heap H locs → lv_has ls 4 [(0, .ref (aB 0)), (1, .ref (aS 0)), (2, .ref (aO 0)), (3, .int x3)] → W p l e (xR 10 197 (oX0_readCoded aB aS aO K r)) s m args below meth c H locs 0 0 (xQ below args s D K A (oX0_readCoded aB aS aO K r)) (F0 m 38 ls []) := by
  obtain ⟨hx, hb, hr, hml, hown, hK, hts, hA, hG, hlk, hte, hnm⟩ := id C
  intro fu
  induction fu with
  | zero =>
    intro B S O x3 r h
    exact nomatch (show (none : Option ((String × (S0 × S4 × S3)) ⊕ (Unit × (S0 × S4 × S3)))) = some r from h)
  | succ fu ih =>
    intro B S O x3 r h H locs ls hP hD hS hl
    replace h : (if (400 : Int32) ≤ x3 then some (.inr ((), (B, S, O))) else (if B.2.2.2 ≤ O.2.2 then some (.inr ((), (B, S, O))) else xbnd (fX0_readCommand B S O) (fun E9 s_10 => .inl (E9, (s_10.1, s_10.2.1, s_10.2.2))) (fun v_9 s_10 => fX0_readCoded_38 fu s_10.1 s_10.2.1 s_10.2.2 (x3 + (1 : Int32))))) = some r := h
    refine lv_iload_n hx hb dX0_readCoded_38 rfl (lv_at hl 3 rfl) ?_
    refine lv_sipush (v := (400 : Int32)) hx hb dX0_readCoded_39 (by decide) ?_
    refine lv_icmp_ge (tgt := 68) hx hb dX0_readCoded_42 (by decide) (fun c9 => ?_) (fun c9 => ?_)
    · replace h := xi_t c9 h
      obtain rfl := Option.some.inj h
      exact xe_v C hP hD hS dX0_readCoded_68
    · replace h := xi_f c9 h
      refine lv_aload_n hx hb dX0_readCoded_45 rfl (lv_at hl 2 rfl) ?_
      refine va_getN (D := D) (ci := 3) (v := .int O.2.2) (C := RX3) (T := TX3) (N := 3) hx hb hts xu_X3 hown hK hP 36 rfl rfl 2 (by decide) (hts _ xw_171) (fun _ h9 => h9) rfl dX0_readCoded_46 ?_
      refine lv_aload_n hx hb dX0_readCoded_49 rfl (lv_at hl 0 rfl) ?_
      refine va_get (D := D) (ci := 0) (v := .int B.2.2.2) (C := RX0) (T := TX0) (N := 4) hx hb hts xu_X0 hown hK hP 0 rfl rfl 3 (by decide) (hts _ xw_140) (fun _ h9 => h9) rfl dX0_readCoded_50 ?_
      refine lv_icmp_ge (tgt := 68) hx hb dX0_readCoded_53 (by decide) (fun c9 => ?_) (fun c9 => ?_)
      · replace h := xi_t c9 h
        obtain rfl := Option.some.inj h
        exact xe_v C hP hD hS dX0_readCoded_68
      · replace h := xi_f c9 h
        refine lv_aload_n hx hb dX0_readCoded_56 rfl (lv_at hl 0 rfl) ?_
        refine lv_aload_n hx hb dX0_readCoded_57 rfl (lv_at hl 1 rfl) ?_
        refine lv_aload_n hx hb dX0_readCoded_58 rfl (lv_at hl 2 rfl) ?_
        rcases xi_c h with ⟨E9, s_10, hc9, rfl⟩ | ⟨v_9, s_10, hc9, h⟩
        · exact xc_Vt (As := [.ref (aS 0), .ref (aO 0)]) (ws' := w0 aB K s_10.1 ++ (w4 aS K s_10.2.1 ++ w3 aO K s_10.2.2)) C (mX0_readCommand l hlt D K aB aS aO _ _ _ _ _ hc9) xgi_X0_76 xd_X0_readCommand ⟨Nat.le_of_ble_eq_true rfl, Nat.le_of_ble_eq_true rfl⟩ ⟨Nat.le_refl _, Nat.le_refl _⟩ hl rfl (Nat.le_of_ble_eq_true rfl) dX0_readCoded_59 hP hD hS 0 0 rfl rfl rfl [0, 1, 2, 3, 4, 5, 6, 7, 8, 9, 10, 11, 12, 13, 14, 15, 16, 17, 18, 19, 20, 21, 22, 23, 24, 25, 26, 27, 28, 29, 30, 31, 32, 33, 34, 35, 36, 37, 38] rfl rfl [(0, w0 aB K s_10.1), (34, w4 aS K s_10.2.1), (36, w3 aO K s_10.2.2)] rfl rfl rfl (List.forall_mem_cons.mpr ⟨Nat.le_of_ble_eq_true rfl, (List.forall_mem_cons.mpr ⟨Nat.le_of_ble_eq_true rfl, (List.forall_mem_cons.mpr ⟨Nat.le_of_ble_eq_true rfl, (fun _ h => absurd h List.not_mem_nil)⟩)⟩)⟩)
        · refine xc_V (As := [.ref (aS 0), .ref (aO 0)]) (ws' := w0 aB K s_10.1 ++ (w4 aS K s_10.2.1 ++ w3 aO K s_10.2.2)) C (mX0_readCommand l hlt D K aB aS aO _ _ _ _ _ hc9) xgi_X0_76 xd_X0_readCommand ⟨Nat.le_of_ble_eq_true rfl, Nat.le_of_ble_eq_true rfl⟩ ⟨Nat.zero_le _, Nat.zero_le _⟩ hl rfl (Nat.le_of_ble_eq_true rfl) dX0_readCoded_59 hP hD hS 0 0 rfl rfl rfl [0, 1, 2, 3, 4, 5, 6, 7, 8, 9, 10, 11, 12, 13, 14, 15, 16, 17, 18, 19, 20, 21, 22, 23, 24, 25, 26, 27, 28, 29, 30, 31, 32, 33, 34, 35, 36, 37, 38] rfl rfl [(0, w0 aB K s_10.1), (34, w4 aS K s_10.2.1), (36, w3 aO K s_10.2.2)] rfl rfl rfl (List.forall_mem_cons.mpr ⟨Nat.le_of_ble_eq_true rfl, (List.forall_mem_cons.mpr ⟨Nat.le_of_ble_eq_true rfl, (List.forall_mem_cons.mpr ⟨Nat.le_of_ble_eq_true rfl, (fun _ h => absurd h List.not_mem_nil)⟩)⟩)⟩) (fun H locs hP hD hS => ?_)
          refine W.eq (g2 := F0 m 62 ls []) rfl ?_
          refine lv_iinc (v := (x3 + (1 : Int32))) (lv' := [(3, .int (x3 + (1 : Int32))), (0, .ref (aB 0)), (1, .ref (aS 0)), (2, .ref (aO 0))]) hx hb dX0_readCoded_62 hl (k := 3) rfl (by rfl) (by decide) rfl (fun ls hl => ?_)
          refine lv_goto (tgt := 38) hx hb dX0_readCoded_65 (by decide) ?_
          exact ih _ _ _ _ _ h _ _ _ hP hD hS (lv_sub hl [1, 2, 3, 0] rfl)
set_option maxHeartbeats 4000000 in
set_option maxRecDepth 100000 in
theorem mX0_readCoded (l : Launch) (hlt : l.stackTraces = false) (D : va_G) (K : Nat → ClassId) (aB : Nat → Nat) (aS : Nat → Nat) (aO : Nat → Nat) (sz : Nat) (B : S0) (S : S4) (O : S3) (r : (String × (S0 × S4 × S3)) ⊕ (Unit × (S0 × S4 × S3))) (h : fX0_readCoded B S O = some r) : xMet l yX0_readCoded cX0_readCoded 4 none 10 197 D K [.ref (aB 0), .ref (aS 0), .ref (aO 0)] sz (w0 aB K B ++ (w4 aS K S ++ w3 aO K O)) (oX0_readCoded aB aS aO K r) := by
  refine xm_of _ (by decide +kernel) (Nat.le_of_ble_eq_true rfl) (fun p e s m args below meth c A C hP hD ls hl => ?_)
  have hl : lv_has ls 4 [(0, .ref (aB 0)), (1, .ref (aS 0)), (2, .ref (aO 0))] := hl
  have hS : va_S A s.heap s.heap [] := va_S.rf
  obtain ⟨hx, hb, hr, hml, hown, hK, hts, hA, hG, hlk, hte, hnm⟩ := id C
  replace h : xbnd (fX2_readTypes B.1 S) (fun E9 s_2 => .inl (E9, ((s_2.1, B.2.1, B.2.2.1, B.2.2.2), s_2.2, O))) (fun v_1 s_2 => xbnd (fX2_readLetterCodes s_2.1 s_2.2) (fun E9 s_4 => .inl (E9, ((s_4.1, B.2.1, B.2.2.1, B.2.2.2), s_4.2, O))) (fun v_3 s_4 => xbnd (fX1_readCode B.2.1 s_4.2 (16 : Int32)) (fun E9 s_6 => .inl (E9, ((s_4.1, s_6.1, B.2.2.1, B.2.2.2), s_6.2, O))) (fun v_5 s_6 => xbnd (fX1_readCode B.2.2.1 s_6.2 (12 : Int32)) (fun E9 s_8 => .inl (E9, ((s_4.1, s_6.1, s_8.1, B.2.2.2), s_8.2, O))) (fun v_7 s_8 => fX0_readCoded_38 xF (s_4.1, s_6.1, s_8.1, B.2.2.2) s_8.2 O (0 : Int32))))) = some r := h
  refine lv_aload_n hx hb dX0_readCoded_0 rfl (lv_at hl 0 rfl) ?_
  refine va_get (D := D) (ci := 0) (v := .ref (aB 1)) (C := RX0) (T := TX0) (N := 4) hx hb hts xu_X0 hown hK hP 0 rfl rfl 0 (by decide) (hts _ xw_137) (fun _ h9 => h9) rfl dX0_readCoded_1 ?_
  refine lv_aload_n hx hb dX0_readCoded_4 rfl (lv_at hl 1 rfl) ?_
  rcases xi_c h with ⟨E9, s_2, hc9, rfl⟩ | ⟨v_1, s_2, hc9, h⟩
  · exact xc_Vt (As := [.ref (aS 0)]) (ws' := w0 aB K (s_2.1, B.2.1, B.2.2.1, B.2.2.2) ++ (w4 aS K s_2.2 ++ w3 aO K O)) C (mX2_readTypes l hlt D K (fun i => aB (i + 1)) aS _ _ _ _ hc9) xgi_X0_65 xd_X2_readTypes ⟨Nat.le_of_ble_eq_true rfl, Nat.le_of_ble_eq_true rfl⟩ ⟨Nat.le_refl _, Nat.le_refl _⟩ hl rfl (Nat.le_of_ble_eq_true rfl) dX0_readCoded_5 hP hD hS 1 2 rfl rfl rfl [1, 2, 3, 4, 5, 6, 7, 8, 9, 10, 11, 12, 13, 14, 15, 16, 17, 18, 19, 20, 21, 22, 23, 24, 25, 34, 35] rfl rfl [(1, w2 (fun i => aB (i + 1)) K s_2.1), (34, w4 aS K s_2.2)] rfl rfl rfl (List.forall_mem_cons.mpr ⟨Nat.le_of_ble_eq_true rfl, (List.forall_mem_cons.mpr ⟨Nat.le_of_ble_eq_true rfl, (fun _ h => absurd h List.not_mem_nil)⟩)⟩)
  · refine xc_V (As := [.ref (aS 0)]) (ws' := w0 aB K (s_2.1, B.2.1, B.2.2.1, B.2.2.2) ++ (w4 aS K s_2.2 ++ w3 aO K O)) C (mX2_readTypes l hlt D K (fun i => aB (i + 1)) aS _ _ _ _ hc9) xgi_X0_65 xd_X2_readTypes ⟨Nat.le_of_ble_eq_true rfl, Nat.le_of_ble_eq_true rfl⟩ ⟨Nat.zero_le _, Nat.zero_le _⟩ hl rfl (Nat.le_of_ble_eq_true rfl) dX0_readCoded_5 hP hD hS 1 2 rfl rfl rfl [1, 2, 3, 4, 5, 6, 7, 8, 9, 10, 11, 12, 13, 14, 15, 16, 17, 18, 19, 20, 21, 22, 23, 24, 25, 34, 35] rfl rfl [(1, w2 (fun i => aB (i + 1)) K s_2.1), (34, w4 aS K s_2.2)] rfl rfl rfl (List.forall_mem_cons.mpr ⟨Nat.le_of_ble_eq_true rfl, (List.forall_mem_cons.mpr ⟨Nat.le_of_ble_eq_true rfl, (fun _ h => absurd h List.not_mem_nil)⟩)⟩) (fun H locs hP hD hS => ?_)
    refine W.eq (g2 := F0 m 8 ls []) rfl ?_
    refine lv_aload_n hx hb dX0_readCoded_8 rfl (lv_at hl 0 rfl) ?_
    refine va_get (D := D) (ci := 0) (v := .ref (aB 1)) (C := RX0) (T := TX0) (N := 4) hx hb hts xu_X0 hown hK hP 0 rfl rfl 0 (by decide) (hts _ xw_137) (fun _ h9 => h9) rfl dX0_readCoded_9 ?_
    refine lv_aload_n hx hb dX0_readCoded_12 rfl (lv_at hl 1 rfl) ?_
    rcases xi_c h with ⟨E9, s_4, hc9, rfl⟩ | ⟨v_3, s_4, hc9, h⟩
    · exact xc_Vt (As := [.ref (aS 0)]) (ws' := w0 aB K (s_4.1, B.2.1, B.2.2.1, B.2.2.2) ++ (w4 aS K s_4.2 ++ w3 aO K O)) C (mX2_readLetterCodes l hlt D K (fun i => aB (i + 1)) aS _ _ _ _ hc9) xgi_X0_69 xd_X2_readLetterCodes ⟨Nat.le_of_ble_eq_true rfl, Nat.le_of_ble_eq_true rfl⟩ ⟨Nat.le_refl _, Nat.le_refl _⟩ hl rfl (Nat.le_of_ble_eq_true rfl) dX0_readCoded_13 hP hD hS 1 2 rfl rfl rfl [1, 2, 3, 4, 5, 6, 7, 8, 9, 10, 11, 12, 13, 14, 15, 16, 17, 18, 19, 20, 21, 22, 23, 24, 25, 34, 35] rfl rfl [(1, w2 (fun i => aB (i + 1)) K s_4.1), (34, w4 aS K s_4.2)] rfl rfl rfl (List.forall_mem_cons.mpr ⟨Nat.le_of_ble_eq_true rfl, (List.forall_mem_cons.mpr ⟨Nat.le_of_ble_eq_true rfl, (fun _ h => absurd h List.not_mem_nil)⟩)⟩)
    · refine xc_V (As := [.ref (aS 0)]) (ws' := w0 aB K (s_4.1, B.2.1, B.2.2.1, B.2.2.2) ++ (w4 aS K s_4.2 ++ w3 aO K O)) C (mX2_readLetterCodes l hlt D K (fun i => aB (i + 1)) aS _ _ _ _ hc9) xgi_X0_69 xd_X2_readLetterCodes ⟨Nat.le_of_ble_eq_true rfl, Nat.le_of_ble_eq_true rfl⟩ ⟨Nat.zero_le _, Nat.zero_le _⟩ hl rfl (Nat.le_of_ble_eq_true rfl) dX0_readCoded_13 hP hD hS 1 2 rfl rfl rfl [1, 2, 3, 4, 5, 6, 7, 8, 9, 10, 11, 12, 13, 14, 15, 16, 17, 18, 19, 20, 21, 22, 23, 24, 25, 34, 35] rfl rfl [(1, w2 (fun i => aB (i + 1)) K s_4.1), (34, w4 aS K s_4.2)] rfl rfl rfl (List.forall_mem_cons.mpr ⟨Nat.le_of_ble_eq_true rfl, (List.forall_mem_cons.mpr ⟨Nat.le_of_ble_eq_true rfl, (fun _ h => absurd h List.not_mem_nil)⟩)⟩) (fun H locs hP hD hS => ?_)
      refine W.eq (g2 := F0 m 16 ls []) rfl ?_
      refine lv_aload_n hx hb dX0_readCoded_16 rfl (lv_at hl 0 rfl) ?_
      refine va_get (D := D) (ci := 0) (v := .ref (aB 26)) (C := RX0) (T := TX0) (N := 4) hx hb hts xu_X0 hown hK hP 0 rfl rfl 1 (by decide) (hts _ xw_138) (fun _ h9 => h9) rfl dX0_readCoded_17 ?_
      refine lv_aload_n hx hb dX0_readCoded_20 rfl (lv_at hl 1 rfl) ?_
      refine lv_bipush (v := (16 : Int32)) hx hb dX0_readCoded_21 (by decide) ?_
      rcases xi_c h with ⟨E9, s_6, hc9, rfl⟩ | ⟨v_5, s_6, hc9, h⟩
      · exact xc_Vt (As := [.ref (aS 0), .int (16 : Int32)]) (ws' := w0 aB K (s_4.1, s_6.1, B.2.2.1, B.2.2.2) ++ (w4 aS K s_6.2 ++ w3 aO K O)) C (mX1_readCode l hlt D K (fun i => aB (i + 26)) aS _ _ _ _ _ hc9) xgi_X0_72 xd_X1_readCode ⟨Nat.le_of_ble_eq_true rfl, Nat.le_of_ble_eq_true rfl⟩ ⟨Nat.le_refl _, Nat.le_refl _⟩ hl rfl (Nat.le_of_ble_eq_true rfl) dX0_readCoded_23 hP hD hS 26 1 rfl rfl rfl [26, 27, 28, 29, 34, 35] rfl rfl [(26, w1 (fun i => aB (i + 26)) K s_6.1), (34, w4 aS K s_6.2)] rfl rfl rfl (List.forall_mem_cons.mpr ⟨Nat.le_of_ble_eq_true rfl, (List.forall_mem_cons.mpr ⟨Nat.le_of_ble_eq_true rfl, (fun _ h => absurd h List.not_mem_nil)⟩)⟩)
      · refine xc_V (As := [.ref (aS 0), .int (16 : Int32)]) (ws' := w0 aB K (s_4.1, s_6.1, B.2.2.1, B.2.2.2) ++ (w4 aS K s_6.2 ++ w3 aO K O)) C (mX1_readCode l hlt D K (fun i => aB (i + 26)) aS _ _ _ _ _ hc9) xgi_X0_72 xd_X1_readCode ⟨Nat.le_of_ble_eq_true rfl, Nat.le_of_ble_eq_true rfl⟩ ⟨Nat.zero_le _, Nat.zero_le _⟩ hl rfl (Nat.le_of_ble_eq_true rfl) dX0_readCoded_23 hP hD hS 26 1 rfl rfl rfl [26, 27, 28, 29, 34, 35] rfl rfl [(26, w1 (fun i => aB (i + 26)) K s_6.1), (34, w4 aS K s_6.2)] rfl rfl rfl (List.forall_mem_cons.mpr ⟨Nat.le_of_ble_eq_true rfl, (List.forall_mem_cons.mpr ⟨Nat.le_of_ble_eq_true rfl, (fun _ h => absurd h List.not_mem_nil)⟩)⟩) (fun H locs hP hD hS => ?_)
        refine W.eq (g2 := F0 m 26 ls []) rfl ?_
        refine lv_aload_n hx hb dX0_readCoded_26 rfl (lv_at hl 0 rfl) ?_
        refine va_get (D := D) (ci := 0) (v := .ref (aB 30)) (C := RX0) (T := TX0) (N := 4) hx hb hts xu_X0 hown hK hP 0 rfl rfl 2 (by decide) (hts _ xw_139) (fun _ h9 => h9) rfl dX0_readCoded_27 ?_
        refine lv_aload_n hx hb dX0_readCoded_30 rfl (lv_at hl 1 rfl) ?_
        refine lv_bipush (v := (12 : Int32)) hx hb dX0_readCoded_31 (by decide) ?_
        rcases xi_c h with ⟨E9, s_8, hc9, rfl⟩ | ⟨v_7, s_8, hc9, h⟩
        · exact xc_Vt (As := [.ref (aS 0), .int (12 : Int32)]) (ws' := w0 aB K (s_4.1, s_6.1, s_8.1, B.2.2.2) ++ (w4 aS K s_8.2 ++ w3 aO K O)) C (mX1_readCode l hlt D K (fun i => aB (i + 30)) aS _ _ _ _ _ hc9) xgi_X0_72 xd_X1_readCode ⟨Nat.le_of_ble_eq_true rfl, Nat.le_of_ble_eq_true rfl⟩ ⟨Nat.le_refl _, Nat.le_refl _⟩ hl rfl (Nat.le_of_ble_eq_true rfl) dX0_readCoded_33 hP hD hS 30 1 rfl rfl rfl [30, 31, 32, 33, 34, 35] rfl rfl [(30, w1 (fun i => aB (i + 30)) K s_8.1), (34, w4 aS K s_8.2)] rfl rfl rfl (List.forall_mem_cons.mpr ⟨Nat.le_of_ble_eq_true rfl, (List.forall_mem_cons.mpr ⟨Nat.le_of_ble_eq_true rfl, (fun _ h => absurd h List.not_mem_nil)⟩)⟩)
        · refine xc_V (As := [.ref (aS 0), .int (12 : Int32)]) (ws' := w0 aB K (s_4.1, s_6.1, s_8.1, B.2.2.2) ++ (w4 aS K s_8.2 ++ w3 aO K O)) C (mX1_readCode l hlt D K (fun i => aB (i + 30)) aS _ _ _ _ _ hc9) xgi_X0_72 xd_X1_readCode ⟨Nat.le_of_ble_eq_true rfl, Nat.le_of_ble_eq_true rfl⟩ ⟨Nat.zero_le _, Nat.zero_le _⟩ hl rfl (Nat.le_of_ble_eq_true rfl) dX0_readCoded_33 hP hD hS 30 1 rfl rfl rfl [30, 31, 32, 33, 34, 35] rfl rfl [(30, w1 (fun i => aB (i + 30)) K s_8.1), (34, w4 aS K s_8.2)] rfl rfl rfl (List.forall_mem_cons.mpr ⟨Nat.le_of_ble_eq_true rfl, (List.forall_mem_cons.mpr ⟨Nat.le_of_ble_eq_true rfl, (fun _ h => absurd h List.not_mem_nil)⟩)⟩) (fun H locs hP hD hS => ?_)
          refine W.eq (g2 := F0 m 36 ls []) rfl ?_
          refine lv_iconst (v := (0 : Int32)) hx hb dX0_readCoded_36 (by decide) ?_
          refine lv_istore_n (lv' := [(3, .int (0 : Int32)), (0, .ref (aB 0)), (1, .ref (aS 0)), (2, .ref (aO 0))]) hx hb dX0_readCoded_37 rfl hl (by decide) rfl (fun ls hl => ?_)
          exact kX0_readCoded_38 C hlt _ _ _ _ _ _ h _ _ _ hP hD hS (lv_sub hl [1, 2, 3, 0] rfl)
abbrev oX0_readBlock (aB : Nat → Nat) (aS : Nat → Nat) (aO : Nat → Nat) (K : Nat → ClassId) (r : (String × (S0 × S4 × S3)) ⊕ (Int32 × (S0 × S4 × S3))) : xO := match r with
  | .inl q => .inl (q.1, w0 aB K q.2.1 ++ (w4 aS K q.2.2.1 ++ w3 aO K q.2.2.2))
  | .inr q => .inr ((some (.int q.1)), w0 aB K q.2.1 ++ (w4 aS K q.2.2.1 ++ w3 aO K q.2.2.2))
def fX0_readBlock_99 (B : S0) (S : S4) (O : S3) (x3 : Int32) : Option ((String × (S0 × S4 × S3)) ⊕ (Int32 × (S0 × S4 × S3))) := xbnd (fX0_readCoded B S O) (fun E9 s_12 => .inl (E9, (s_12.1, s_12.2.1, s_12.2.2))) (fun v_11 s_12 => (if x3 = 0 ∨ x3 = 1 then some (.inr (x3, (s_12.1, s_12.2.1, s_12.2.2))) else none))
def fX0_readBlock_40 (B : S0) (S : S4) (O : S3) (x3 : Int32) : Option ((String × (S0 × S4 × S3)) ⊕ (Int32 × (S0 × S4 × S3))) := xbnd (fX4_readNumber S (8 : Int32)) (fun E9 s_6 => .inl (E9, (B, s_6, O))) (fun v_5 s_6 => (if ((O.2.2 + v_5) + (1 : Int32)) ≤ (400 : Int32) then (if x3 = 0 then xbnd (fX4_readNumber s_6 (1 : Int32)) (fun E9 s_8 => .inl (E9, ((B.1, B.2.1, B.2.2.1, ((O.2.2 + v_5) + (1 : Int32))), s_8, O))) (fun v_7 s_8 => (if v_7 = (1 : Int32) then xbnd (fX0_readPlain (B.1, B.2.1, B.2.2.1, ((O.2.2 + v_5) + (1 : Int32))) s_8 O) (fun E9 s_10 => .inl (E9, (s_10.1, s_10.2.1, s_10.2.2))) (fun v_9 s_10 => (if x3 = 0 ∨ x3 = 1 then some (.inr (x3, (s_10.1, s_10.2.1, s_10.2.2))) else none)) else fX0_readBlock_99 (B.1, B.2.1, B.2.2.1, ((O.2.2 + v_5) + (1 : Int32))) s_8 O x3)) else fX0_readBlock_99 (B.1, B.2.1, B.2.2.1, ((O.2.2 + v_5) + (1 : Int32))) s_6 O x3) else some (.inl ("java/lang/IllegalArgumentException", ((B.1, B.2.1, B.2.2.1, ((O.2.2 + v_5) + (1 : Int32))), s_6, O)))))
def fX0_readBlock_14 (B : S0) (S : S4) (O : S3) (t0 : Int32) : Option ((String × (S0 × S4 × S3)) ⊕ (Int32 × (S0 × S4 × S3))) := (if (0 : Int32) < 0 ∨ 9 ≤ ((0 : Int32)).toNatClampNeg then none else (if (0 : Int32) < 0 ∨ 9 ≤ ((0 : Int32)).toNatClampNeg then none else (if t0 = 0 then fX0_readBlock_40 B S (O.1, (upd O.2.1 ((0 : Int32)).toNatClampNeg ((O.2.1 ((0 : Int32)).toNatClampNeg) + (1 : Int32))), O.2.2) t0 else xbnd (fX4_readNumber S (1 : Int32)) (fun E9 s_4 => .inl (E9, (B, s_4, (O.1, (upd O.2.1 ((0 : Int32)).toNatClampNeg ((O.2.1 ((0 : Int32)).toNatClampNeg) + (1 : Int32))), O.2.2)))) (fun v_3 s_4 => (if v_3 = (1 : Int32) then some (.inr ((1 : Int32), (B, s_4, (O.1, (upd O.2.1 ((0 : Int32)).toNatClampNeg ((O.2.1 ((0 : Int32)).toNatClampNeg) + (1 : Int32))), O.2.2)))) else fX0_readBlock_40 B s_4 (O.1, (upd O.2.1 ((0 : Int32)).toNatClampNeg ((O.2.1 ((0 : Int32)).toNatClampNeg) + (1 : Int32))), O.2.2) t0)))))
def fX0_readBlock (B : S0) (S : S4) (O : S3) : Option ((String × (S0 × S4 × S3)) ⊕ (Int32 × (S0 × S4 × S3))) := xbnd (fX4_readNumber S (1 : Int32)) (fun E9 s_2 => .inl (E9, (B, s_2, O))) (fun v_1 s_2 => (if v_1 = (1 : Int32) then fX0_readBlock_14 B s_2 O (1 : Int32) else fX0_readBlock_14 B s_2 O (0 : Int32)))
set_option maxHeartbeats 4000000 in
set_option maxRecDepth 100000 in
theorem kX0_readBlock_99 {p : Program} {l : Launch} {e : Env} {s : State} {m : MethodId} {args : Array Value} {below : List Frame} {meth : Method} {c : Code} {D : va_G} {K : Nat → ClassId} {A : Nat → Prop} {aB : Nat → Nat} {aS : Nat → Nat} {aO : Nat → Nat} (C : xC p s m args meth c cX0_readBlock 4 (some .boolean) yX0_readBlock D K A []) (hlt : l.stackTraces = false) : ∀ (B : S0) (S : S4) (O : S3) (x3 : Int32) (r : (String × (S0 × S4 × S3)) ⊕ (Int32 × (S0 × S4 × S3))), fX0_readBlock_99  B S O x3 = some r → ∀ (H : Heap) (locs : List Loc) (ls : Array Slot), va_P D vwCl (w0 aB K B ++ (w4 aS K S ++ w3 aO K O)) H → va_D A (w0 aB K B ++ (w4 aS K S ++ w3 aO K O)) → va_S A s.heap H locs → lv_has ls 4 [(0, .ref (aB 0)), (1, .ref (aS 0)), (2, .ref (aO 0)), (3, .int x3)] → W p l e (xR 11 220 (oX0_readBlock aB aS aO K r)) s m args below meth c H locs 0 0 (xQ below args s D K A (oX0_readBlock aB aS aO K r)) (F0 m 99 ls []) := by
  obtain ⟨hx, hb, hr, hml, hown, hK, hts, hA, hG, hlk, hte, hnm⟩ := id C
  intro B S O x3 r h H locs ls hP hD hS hl
  replace h : xbnd (fX0_readCoded B S O) (fun E9 s_12 => .inl (E9, (s_12.1, s_12.2.1, s_12.2.2))) (fun v_11 s_12 => (if x3 = 0 ∨ x3 = 1 then some (.inr (x3, (s_12.1, s_12.2.1, s_12.2.2))) else none)) = some r := h
  refine lv_aload_n hx hb dX0_readBlock_99 rfl (lv_at hl 0 rfl) ?_
  refine lv_aload_n hx hb dX0_readBlock_100 rfl (lv_at hl 1 rfl) ?_
  refine lv_aload_n hx hb dX0_readBlock_101 rfl (lv_at hl 2 rfl) ?_
  rcases xi_c h with ⟨E9, s_12, hc9, rfl⟩ | ⟨v_11, s_12, hc9, h⟩
  · exact xc_Vt (As := [.ref (aS 0), .ref (aO 0)]) (ws' := w0 aB K s_12.1 ++ (w4 aS K s_12.2.1 ++ w3 aO K s_12.2.2)) C (mX0_readCoded l hlt D K aB aS aO _ _ _ _ _ hc9) xgi_X0_58 xd_X0_readCoded ⟨Nat.le_of_ble_eq_true rfl, Nat.le_of_ble_eq_true rfl⟩ ⟨Nat.le_refl _, Nat.le_refl _⟩ hl rfl (Nat.le_of_ble_eq_true rfl) dX0_readBlock_102 hP hD hS 0 0 rfl rfl rfl [0, 1, 2, 3, 4, 5, 6, 7, 8, 9, 10, 11, 12, 13, 14, 15, 16, 17, 18, 19, 20, 21, 22, 23, 24, 25, 26, 27, 28, 29, 30, 31, 32, 33, 34, 35, 36, 37, 38] rfl rfl [(0, w0 aB K s_12.1), (34, w4 aS K s_12.2.1), (36, w3 aO K s_12.2.2)] rfl rfl rfl (List.forall_mem_cons.mpr ⟨Nat.le_of_ble_eq_true rfl, (List.forall_mem_cons.mpr ⟨Nat.le_of_ble_eq_true rfl, (List.forall_mem_cons.mpr ⟨Nat.le_of_ble_eq_true rfl, (fun _ h => absurd h List.not_mem_nil)⟩)⟩)⟩)
  · refine xc_V (As := [.ref (aS 0), .ref (aO 0)]) (ws' := w0 aB K s_12.1 ++ (w4 aS K s_12.2.1 ++ w3 aO K s_12.2.2)) C (mX0_readCoded l hlt D K aB aS aO _ _ _ _ _ hc9) xgi_X0_58 xd_X0_readCoded ⟨Nat.le_of_ble_eq_true rfl, Nat.le_of_ble_eq_true rfl⟩ ⟨Nat.zero_le _, Nat.zero_le _⟩ hl rfl (Nat.le_of_ble_eq_true rfl) dX0_readBlock_102 hP hD hS 0 0 rfl rfl rfl [0, 1, 2, 3, 4, 5, 6, 7, 8, 9, 10, 11, 12, 13, 14, 15, 16, 17, 18, 19, 20, 21, 22, 23, 24, 25, 26, 27, 28, 29, 30, 31, 32, 33, 34, 35, 36, 37, 38] rfl rfl [(0, w0 aB K s_12.1), (34, w4 aS K s_12.2.1), (36, w3 aO K s_12.2.2)] rfl rfl rfl (List.forall_mem_cons.mpr ⟨Nat.le_of_ble_eq_true rfl, (List.forall_mem_cons.mpr ⟨Nat.le_of_ble_eq_true rfl, (List.forall_mem_cons.mpr ⟨Nat.le_of_ble_eq_true rfl, (fun _ h => absurd h List.not_mem_nil)⟩)⟩)⟩) (fun H locs hP hD hS => ?_)
    refine W.eq (g2 := F0 m 105 ls []) rfl ?_
    refine lv_iload_n hx hb dX0_readBlock_105 rfl (lv_at hl 3 rfl) ?_
    obtain ⟨hz9, h⟩ := xi_b h
    obtain rfl := Option.some.inj h
    exact xe_z C hz9.1 hP hD hS dX0_readBlock_106
set_option maxHeartbeats 4000000 in
set_option maxRecDepth 100000 in
theorem kX0_readBlock_40 {p : Program} {l : Launch} {e : Env} {s : State} {m : MethodId} {args : Array Value} {below : List Frame} {meth : Method} {c : Code} {D : va_G} {K : Nat → ClassId} {A : Nat → Prop} {aB : Nat → Nat} {aS : Nat → Nat} {aO : Nat → Nat} (C : xC p s m args meth c cX0_readBlock 4 (some .boolean) yX0_readBlock D K A []) (hlt : l.stackTraces = false) : ∀ (B : S0) (S : S4) (O : S3) (x3 : Int32) (r : (String × (S0 × S4 × S3)) ⊕ (Int32 × (S0 × S4 × S3))), fX0_readBlock_40  B S O x3 = some r → ∀ (H : Heap) (locs : List Loc) (ls : Array Slot), va_P D vwCl (w0 aB K B ++ (w4 aS K S ++ w3 aO K O)) H → va_D A (w0 aB K B ++ (w4 aS K S ++ w3 aO K O)) → va_S A s.heap H locs → lv_has ls 4 [(0, .ref (aB 0)), (1, .ref (aS 0)), (2, .ref (aO 0)), (3, .int x3)] → W p l e (xR 11 220 (oX0_readBlock aB aS aO K r)) s m args below meth c H locs 0 0 (xQ below args s D K A (oX0_readBlock aB aS aO K r)) (F0 m 40 ls []) := by
  obtain ⟨hx, hb, hr, hml, hown, hK, hts, hA, hG, hlk, hte, hnm⟩ := id C
  intro B S O x3 r h H locs ls hP hD hS hl
  replace h : xbnd (fX4_readNumber S (8 : Int32)) (fun E9 s_6 => .inl (E9, (B, s_6, O))) (fun v_5 s_6 => (if ((O.2.2 + v_5) + (1 : Int32)) ≤ (400 : Int32) then (if x3 = 0 then xbnd (fX4_readNumber s_6 (1 : Int32)) (fun E9 s_8 => .inl (E9, ((B.1, B.2.1, B.2.2.1, ((O.2.2 + v_5) + (1 : Int32))), s_8, O))) (fun v_7 s_8 => (if v_7 = (1 : Int32) then xbnd (fX0_readPlain (B.1, B.2.1, B.2.2.1, ((O.2.2 + v_5) + (1 : Int32))) s_8 O) (fun E9 s_10 => .inl (E9, (s_10.1, s_10.2.1, s_10.2.2))) (fun v_9 s_10 => (if x3 = 0 ∨ x3 = 1 then some (.inr (x3, (s_10.1, s_10.2.1, s_10.2.2))) else none)) else fX0_readBlock_99 (B.1, B.2.1, B.2.2.1, ((O.2.2 + v_5) + (1 : Int32))) s_8 O x3)) else fX0_readBlock_99 (B.1, B.2.1, B.2.2.1, ((O.2.2 + v_5) + (1 : Int32))) s_6 O x3) else some (.inl ("java/lang/IllegalArgumentException", ((B.1, B.2.1, B.2.2.1, ((O.2.2 + v_5) + (1 : Int32))), s_6, O))))) = some r := h
  refine lv_aload_n hx hb dX0_readBlock_40 rfl (lv_at hl 0 rfl) ?_
  refine lv_aload_n hx hb dX0_readBlock_41 rfl (lv_at hl 2 rfl) ?_
  refine va_getN (D := D) (ci := 3) (v := .int O.2.2) (C := RX3) (T := TX3) (N := 3) hx hb hts xu_X3 hown hK hP 36 rfl rfl 2 (by decide) (hts _ xw_171) (fun _ h9 => h9) rfl dX0_readBlock_42 ?_
  refine lv_aload_n hx hb dX0_readBlock_45 rfl (lv_at hl 1 rfl) ?_
  refine lv_bipush (v := (8 : Int32)) hx hb dX0_readBlock_46 (by decide) ?_
  rcases xi_c h with ⟨E9, s_6, hc9, rfl⟩ | ⟨v_5, s_6, hc9, h⟩
  · exact xc_Vt (As := [.int (8 : Int32)]) (ws' := w0 aB K B ++ (w4 aS K s_6 ++ w3 aO K O)) C (mX4_readNumber l hlt D K aS _ _ _ _ hc9) xgi_X0_28 xd_X4_readNumber ⟨Nat.le_of_ble_eq_true rfl, Nat.le_of_ble_eq_true rfl⟩ ⟨Nat.le_refl _, Nat.le_refl _⟩ hl rfl (Nat.le_of_ble_eq_true rfl) dX0_readBlock_48 hP hD hS 34 4 rfl rfl rfl [34, 35] rfl rfl [(34, w4 aS K s_6)] rfl rfl rfl (List.forall_mem_cons.mpr ⟨Nat.le_of_ble_eq_true rfl, (fun _ h => absurd h List.not_mem_nil)⟩)
  · refine xc_V (As := [.int (8 : Int32)]) (ws' := w0 aB K B ++ (w4 aS K s_6 ++ w3 aO K O)) C (mX4_readNumber l hlt D K aS _ _ _ _ hc9) xgi_X0_28 xd_X4_readNumber ⟨Nat.le_of_ble_eq_true rfl, Nat.le_of_ble_eq_true rfl⟩ ⟨Nat.zero_le _, Nat.zero_le _⟩ hl rfl (Nat.le_of_ble_eq_true rfl) dX0_readBlock_48 hP hD hS 34 4 rfl rfl rfl [34, 35] rfl rfl [(34, w4 aS K s_6)] rfl rfl rfl (List.forall_mem_cons.mpr ⟨Nat.le_of_ble_eq_true rfl, (fun _ h => absurd h List.not_mem_nil)⟩) (fun H locs hP hD hS => ?_)
    refine W.eq (g2 := F0 m 51 ls [.int v_5, .int O.2.2, .ref (aB 0)]) rfl ?_
    refine lv_iadd hx hb dX0_readBlock_51 ?_
    refine lv_iconst (v := (1 : Int32)) hx hb dX0_readBlock_52 (by decide) ?_
    refine lv_iadd hx hb dX0_readBlock_53 ?_
    refine va_put (D := D) (ci := 0) (v := .int ((O.2.2 + v_5) + (1 : Int32))) (ty := .int) (C := RX0) (T := TX0) (N := 4) hx hb hts xu_X0 tyX0 tyX0_ok nmX0 hown hK hP hD hS 0 rfl rfl 3 (by decide) (hts _ xw_140) (fun _ h9 => h9) rfl (by decide +kernel) rfl rfl (Nat.le_of_ble_eq_true rfl) dX0_readBlock_54 (fun H locs hP hD hS => ?_)
    have hP : va_P D vwCl (w0 aB K (B.1, B.2.1, B.2.2.1, ((O.2.2 + v_5) + (1 : Int32))) ++ (w4 aS K s_6 ++ w3 aO K O)) H := hP
    have hD : va_D A (w0 aB K (B.1, B.2.1, B.2.2.1, ((O.2.2 + v_5) + (1 : Int32))) ++ (w4 aS K s_6 ++ w3 aO K O)) := hD
    refine lv_aload_n hx hb dX0_readBlock_57 rfl (lv_at hl 0 rfl) ?_
    refine va_get (D := D) (ci := 0) (v := .int ((O.2.2 + v_5) + (1 : Int32))) (C := RX0) (T := TX0) (N := 4) hx hb hts xu_X0 hown hK hP 0 rfl rfl 3 (by decide) (hts _ xw_140) (fun _ h9 => h9) rfl dX0_readBlock_58 ?_
    refine lv_sipush (v := (400 : Int32)) hx hb dX0_readBlock_61 (by decide) ?_
    refine lv_icmp_le (tgt := 77) hx hb dX0_readBlock_64 (by decide) (fun c9 => ?_) (fun c9 => ?_)
    · replace h := xi_t c9 h
      refine lv_iload_n hx hb dX0_readBlock_77 rfl (lv_at hl 3 rfl) ?_
      refine lv_if_ne (tgt := 99) hx hb dX0_readBlock_78 (by decide) (fun c9 => ?_) (fun c9 => ?_)
      · replace h := xi_f c9 h
        exact kX0_readBlock_99 C hlt _ _ _ _ _ h _ _ _ hP hD hS (lv_sub hl [0, 1, 2, 3] rfl)
      · replace h := xi_t c9 h
        refine lv_aload_n hx hb dX0_readBlock_81 rfl (lv_at hl 1 rfl) ?_
        refine lv_iconst (v := (1 : Int32)) hx hb dX0_readBlock_82 (by decide) ?_
        rcases xi_c h with ⟨E9, s_8, hc9, rfl⟩ | ⟨v_7, s_8, hc9, h⟩
        · exact xc_Vt (As := [.int (1 : Int32)]) (ws' := w0 aB K (B.1, B.2.1, B.2.2.1, ((O.2.2 + v_5) + (1 : Int32))) ++ (w4 aS K s_8 ++ w3 aO K O)) C (mX4_readNumber l hlt D K aS _ _ _ _ hc9) xgi_X0_28 xd_X4_readNumber ⟨Nat.le_of_ble_eq_true rfl, Nat.le_of_ble_eq_true rfl⟩ ⟨Nat.le_refl _, Nat.le_refl _⟩ hl rfl (Nat.le_of_ble_eq_true rfl) dX0_readBlock_83 hP hD hS 34 4 rfl rfl rfl [34, 35] rfl rfl [(34, w4 aS K s_8)] rfl rfl rfl (List.forall_mem_cons.mpr ⟨Nat.le_of_ble_eq_true rfl, (fun _ h => absurd h List.not_mem_nil)⟩)
        · refine xc_V (As := [.int (1 : Int32)]) (ws' := w0 aB K (B.1, B.2.1, B.2.2.1, ((O.2.2 + v_5) + (1 : Int32))) ++ (w4 aS K s_8 ++ w3 aO K O)) C (mX4_readNumber l hlt D K aS _ _ _ _ hc9) xgi_X0_28 xd_X4_readNumber ⟨Nat.le_of_ble_eq_true rfl, Nat.le_of_ble_eq_true rfl⟩ ⟨Nat.zero_le _, Nat.zero_le _⟩ hl rfl (Nat.le_of_ble_eq_true rfl) dX0_readBlock_83 hP hD hS 34 4 rfl rfl rfl [34, 35] rfl rfl [(34, w4 aS K s_8)] rfl rfl rfl (List.forall_mem_cons.mpr ⟨Nat.le_of_ble_eq_true rfl, (fun _ h => absurd h List.not_mem_nil)⟩) (fun H locs hP hD hS => ?_)
          refine W.eq (g2 := F0 m 86 ls [.int v_7]) rfl ?_
          refine lv_iconst (v := (1 : Int32)) hx hb dX0_readBlock_86 (by decide) ?_
          refine lv_icmp_ne (tgt := 99) hx hb dX0_readBlock_87 (by decide) (fun c9 => ?_) (fun c9 => ?_)
          · replace h := xi_f c9 h
            exact kX0_readBlock_99 C hlt _ _ _ _ _ h _ _ _ hP hD hS (lv_sub hl [0, 1, 2, 3] rfl)
          · replace h := xi_t c9 h
            refine lv_aload_n hx hb dX0_readBlock_90 rfl (lv_at hl 0 rfl) ?_
            refine lv_aload_n hx hb dX0_readBlock_91 rfl (lv_at hl 1 rfl) ?_
            refine lv_aload_n hx hb dX0_readBlock_92 rfl (lv_at hl 2 rfl) ?_
            rcases xi_c h with ⟨E9, s_10, hc9, rfl⟩ | ⟨v_9, s_10, hc9, h⟩
            · exact xc_Vt (As := [.ref (aS 0), .ref (aO 0)]) (ws' := w0 aB K s_10.1 ++ (w4 aS K s_10.2.1 ++ w3 aO K s_10.2.2)) C (mX0_readPlain l hlt D K aB aS aO _ _ _ _ _ hc9) xgi_X0_54 xd_X0_readPlain ⟨Nat.le_of_ble_eq_true rfl, Nat.le_of_ble_eq_true rfl⟩ ⟨Nat.le_refl _, Nat.le_refl _⟩ hl rfl (Nat.le_of_ble_eq_true rfl) dX0_readBlock_93 hP hD hS 0 0 rfl rfl rfl [0, 1, 2, 3, 4, 5, 6, 7, 8, 9, 10, 11, 12, 13, 14, 15, 16, 17, 18, 19, 20, 21, 22, 23, 24, 25, 26, 27, 28, 29, 30, 31, 32, 33, 34, 35, 36, 37, 38] rfl rfl [(0, w0 aB K s_10.1), (34, w4 aS K s_10.2.1), (36, w3 aO K s_10.2.2)] rfl rfl rfl (List.forall_mem_cons.mpr ⟨Nat.le_of_ble_eq_true rfl, (List.forall_mem_cons.mpr ⟨Nat.le_of_ble_eq_true rfl, (List.forall_mem_cons.mpr ⟨Nat.le_of_ble_eq_true rfl, (fun _ h => absurd h List.not_mem_nil)⟩)⟩)⟩)
            · refine xc_V (As := [.ref (aS 0), .ref (aO 0)]) (ws' := w0 aB K s_10.1 ++ (w4 aS K s_10.2.1 ++ w3 aO K s_10.2.2)) C (mX0_readPlain l hlt D K aB aS aO _ _ _ _ _ hc9) xgi_X0_54 xd_X0_readPlain ⟨Nat.le_of_ble_eq_true rfl, Nat.le_of_ble_eq_true rfl⟩ ⟨Nat.zero_le _, Nat.zero_le _⟩ hl rfl (Nat.le_of_ble_eq_true rfl) dX0_readBlock_93 hP hD hS 0 0 rfl rfl rfl [0, 1, 2, 3, 4, 5, 6, 7, 8, 9, 10, 11, 12, 13, 14, 15, 16, 17, 18, 19, 20, 21, 22, 23, 24, 25, 26, 27, 28, 29, 30, 31, 32, 33, 34, 35, 36, 37, 38] rfl rfl [(0, w0 aB K s_10.1), (34, w4 aS K s_10.2.1), (36, w3 aO K s_10.2.2)] rfl rfl rfl (List.forall_mem_cons.mpr ⟨Nat.le_of_ble_eq_true rfl, (List.forall_mem_cons.mpr ⟨Nat.le_of_ble_eq_true rfl, (List.forall_mem_cons.mpr ⟨Nat.le_of_ble_eq_true rfl, (fun _ h => absurd h List.not_mem_nil)⟩)⟩)⟩) (fun H locs hP hD hS => ?_)
              refine W.eq (g2 := F0 m 96 ls []) rfl ?_
              refine lv_goto (tgt := 105) hx hb dX0_readBlock_96 (by decide) ?_
              refine lv_iload_n hx hb dX0_readBlock_105 rfl (lv_at hl 3 rfl) ?_
              obtain ⟨hz9, h⟩ := xi_b h
              obtain rfl := Option.some.inj h
              exact xe_z C hz9.1 hP hD hS dX0_readBlock_106
    · replace h := xi_f c9 h
      obtain rfl := Option.some.inj h
      exact xe_throw C hlt (text := "there would be more than 400 letters") xf_IllegalArgumentException xf_names xw_359 xw_44 (List.mem_of_getElem? (i := 6) rfl) xat_X0_51 xgd_X0_51 hl hP hD hS dX0_readBlock_67 dX0_readBlock_70 dX0_readBlock_71 dX0_readBlock_73 dX0_readBlock_76 (Nat.le_of_ble_eq_true rfl) (Nat.le_of_ble_eq_true rfl)
set_option maxHeartbeats 4000000 in
set_option maxRecDepth 100000 in
theorem kX0_readBlock_14 {p : Program} {l : Launch} {e : Env} {s : State} {m : MethodId} {args : Array Value} {below : List Frame} {meth : Method} {c : Code} {D : va_G} {K : Nat → ClassId} {A : Nat → Prop} {aB : Nat → Nat} {aS : Nat → Nat} {aO : Nat → Nat} (C : xC p s m args meth c cX0_readBlock 4 (some .boolean) yX0_readBlock D K A []) (hlt : l.stackTraces = false) : ∀ (B : S0) (S : S4) (O : S3) (t0 : Int32) (r : (String × (S0 × S4 × S3)) ⊕ (Int32 × (S0 × S4 × S3))), fX0_readBlock_14  B S O t0 = some r → ∀ (H : Heap) (locs : List Loc) (ls : Array Slot), va_P D vwCl (w0 aB K B ++ (w4 aS K S ++ w3 aO K O)) H → va_D A (w0 aB K B ++ (w4 aS K S ++ w3 aO K O)) → va_S A s.heap H locs → lv_has ls 4 [(0, .ref (aB 0)), (1, .ref (aS 0)), (2, .ref (aO 0))] → W p l e (xR 11 220 (oX0_readBlock aB aS aO K r)) s m args below meth c H locs 0 0 (xQ below args s D K A (oX0_readBlock aB aS aO K r)) (F0 m 14 ls [.int t0]) := by
  obtain ⟨hx, hb, hr, hml, hown, hK, hts, hA, hG, hlk, hte, hnm⟩ := id C
  intro B S O t0 r h H locs ls hP hD hS hl
  replace h : (if (0 : Int32) < 0 ∨ 9 ≤ ((0 : Int32)).toNatClampNeg then none else (if (0 : Int32) < 0 ∨ 9 ≤ ((0 : Int32)).toNatClampNeg then none else (if t0 = 0 then fX0_readBlock_40 B S (O.1, (upd O.2.1 ((0 : Int32)).toNatClampNeg ((O.2.1 ((0 : Int32)).toNatClampNeg) + (1 : Int32))), O.2.2) t0 else xbnd (fX4_readNumber S (1 : Int32)) (fun E9 s_4 => .inl (E9, (B, s_4, (O.1, (upd O.2.1 ((0 : Int32)).toNatClampNeg ((O.2.1 ((0 : Int32)).toNatClampNeg) + (1 : Int32))), O.2.2)))) (fun v_3 s_4 => (if v_3 = (1 : Int32) then some (.inr ((1 : Int32), (B, s_4, (O.1, (upd O.2.1 ((0 : Int32)).toNatClampNeg ((O.2.1 ((0 : Int32)).toNatClampNeg) + (1 : Int32))), O.2.2)))) else fX0_readBlock_40 B s_4 (O.1, (upd O.2.1 ((0 : Int32)).toNatClampNeg ((O.2.1 ((0 : Int32)).toNatClampNeg) + (1 : Int32))), O.2.2) t0))))) = some r := h
  refine lv_istore_n (lv' := [(3, .int t0), (0, .ref (aB 0)), (1, .ref (aS 0)), (2, .ref (aO 0))]) hx hb dX0_readBlock_14 rfl hl (by decide) rfl (fun ls hl => ?_)
  refine lv_aload_n hx hb dX0_readBlock_15 rfl (lv_at hl 3 rfl) ?_
  refine va_getN (D := D) (ci := 3) (v := .ref (aO 2)) (C := RX3) (T := TX3) (N := 3) hx hb hts xu_X3 hown hK hP 36 rfl rfl 1 (by decide) (hts _ xw_168) (fun _ h9 => h9) rfl dX0_readBlock_16 ?_
  refine lv_iconst (v := (0 : Int32)) hx hb dX0_readBlock_19 (by decide) ?_
  refine lv_dup2_11 hx hb dX0_readBlock_20 rfl rfl ?_
  obtain ⟨hi9, h⟩ := xi_g h
  refine va_iald hx hb hK hP 38 0 rfl rfl hi9 dX0_readBlock_21 ?_
  refine lv_iconst (v := (1 : Int32)) hx hb dX0_readBlock_22 (by decide) ?_
  refine lv_iadd hx hb dX0_readBlock_23 ?_
  obtain ⟨hi9, h⟩ := xi_g h
  refine va_iast hx hb hK hP hD hS 38 0 rfl rfl hi9 dX0_readBlock_24 (fun H locs hP hD hS => ?_)
  have hP : va_P D vwCl (w0 aB K B ++ (w4 aS K S ++ w3 aO K (O.1, (upd O.2.1 ((0 : Int32)).toNatClampNeg ((O.2.1 ((0 : Int32)).toNatClampNeg) + (1 : Int32))), O.2.2))) H := hP
  have hD : va_D A (w0 aB K B ++ (w4 aS K S ++ w3 aO K (O.1, (upd O.2.1 ((0 : Int32)).toNatClampNeg ((O.2.1 ((0 : Int32)).toNatClampNeg) + (1 : Int32))), O.2.2))) := hD
  refine lv_iload_n hx hb dX0_readBlock_25 rfl (lv_at hl 0 rfl) ?_
  refine lv_if_eq (tgt := 40) hx hb dX0_readBlock_26 (by decide) (fun c9 => ?_) (fun c9 => ?_)
  · replace h := xi_t c9 h
    exact kX0_readBlock_40 C hlt _ _ _ _ _ h _ _ _ hP hD hS (lv_sub hl [1, 2, 3, 0] rfl)
  · replace h := xi_f c9 h
    refine lv_aload_n hx hb dX0_readBlock_29 rfl (lv_at hl 2 rfl) ?_
    refine lv_iconst (v := (1 : Int32)) hx hb dX0_readBlock_30 (by decide) ?_
    rcases xi_c h with ⟨E9, s_4, hc9, rfl⟩ | ⟨v_3, s_4, hc9, h⟩
    · exact xc_Vt (As := [.int (1 : Int32)]) (ws' := w0 aB K B ++ (w4 aS K s_4 ++ w3 aO K (O.1, (upd O.2.1 ((0 : Int32)).toNatClampNeg ((O.2.1 ((0 : Int32)).toNatClampNeg) + (1 : Int32))), O.2.2))) C (mX4_readNumber l hlt D K aS _ _ _ _ hc9) xgi_X0_28 xd_X4_readNumber ⟨Nat.le_of_ble_eq_true rfl, Nat.le_of_ble_eq_true rfl⟩ ⟨Nat.le_refl _, Nat.le_refl _⟩ hl rfl (Nat.le_of_ble_eq_true rfl) dX0_readBlock_31 hP hD hS 34 4 rfl rfl rfl [34, 35] rfl rfl [(34, w4 aS K s_4)] rfl rfl rfl (List.forall_mem_cons.mpr ⟨Nat.le_of_ble_eq_true rfl, (fun _ h => absurd h List.not_mem_nil)⟩)
    · refine xc_V (As := [.int (1 : Int32)]) (ws' := w0 aB K B ++ (w4 aS K s_4 ++ w3 aO K (O.1, (upd O.2.1 ((0 : Int32)).toNatClampNeg ((O.2.1 ((0 : Int32)).toNatClampNeg) + (1 : Int32))), O.2.2))) C (mX4_readNumber l hlt D K aS _ _ _ _ hc9) xgi_X0_28 xd_X4_readNumber ⟨Nat.le_of_ble_eq_true rfl, Nat.le_of_ble_eq_true rfl⟩ ⟨Nat.zero_le _, Nat.zero_le _⟩ hl rfl (Nat.le_of_ble_eq_true rfl) dX0_readBlock_31 hP hD hS 34 4 rfl rfl rfl [34, 35] rfl rfl [(34, w4 aS K s_4)] rfl rfl rfl (List.forall_mem_cons.mpr ⟨Nat.le_of_ble_eq_true rfl, (fun _ h => absurd h List.not_mem_nil)⟩) (fun H locs hP hD hS => ?_)
      refine W.eq (g2 := F0 m 34 ls [.int v_3]) rfl ?_
      refine lv_iconst (v := (1 : Int32)) hx hb dX0_readBlock_34 (by decide) ?_
      refine lv_icmp_ne (tgt := 40) hx hb dX0_readBlock_35 (by decide) (fun c9 => ?_) (fun c9 => ?_)
      · replace h := xi_f c9 h
        exact kX0_readBlock_40 C hlt _ _ _ _ _ h _ _ _ hP hD hS (lv_sub hl [1, 2, 3, 0] rfl)
      · replace h := xi_t c9 h
        refine lv_iconst (v := (1 : Int32)) hx hb dX0_readBlock_38 (by decide) ?_
        obtain rfl := Option.some.inj h
        exact xe_z (r := (1 : Int32)) C xz1 hP hD hS dX0_readBlock_39
set_option maxHeartbeats 4000000 in
set_option maxRecDepth 100000 in
theorem mX0_readBlock (l : Launch) (hlt : l.stackTraces = false) (D : va_G) (K : Nat → ClassId) (aB : Nat → Nat) (aS : Nat → Nat) (aO : Nat → Nat) (sz : Nat) (B : S0) (S : S4) (O : S3) (r : (String × (S0 × S4 × S3)) ⊕ (Int32 × (S0 × S4 × S3))) (h : fX0_readBlock B S O = some r) : xMet l yX0_readBlock cX0_readBlock 4 (some .boolean) 11 220 D K [.ref (aB 0), .ref (aS 0), .ref (aO 0)] sz (w0 aB K B ++ (w4 aS K S ++ w3 aO K O)) (oX0_readBlock aB aS aO K r) := by
  refine xm_of _ (by decide +kernel) (Nat.le_of_ble_eq_true rfl) (fun p e s m args below meth c A C hP hD ls hl => ?_)
  have hl : lv_has ls 4 [(0, .ref (aB 0)), (1, .ref (aS 0)), (2, .ref (aO 0))] := hl
  have hS : va_S A s.heap s.heap [] := va_S.rf
  obtain ⟨hx, hb, hr, hml, hown, hK, hts, hA, hG, hlk, hte, hnm⟩ := id C
  replace h : xbnd (fX4_readNumber S (1 : Int32)) (fun E9 s_2 => .inl (E9, (B, s_2, O))) (fun v_1 s_2 => (if v_1 = (1 : Int32) then fX0_readBlock_14 B s_2 O (1 : Int32) else fX0_readBlock_14 B s_2 O (0 : Int32))) = some r := h
  refine lv_aload_n hx hb dX0_readBlock_0 rfl (lv_at hl 1 rfl) ?_
  refine lv_iconst (v := (1 : Int32)) hx hb dX0_readBlock_1 (by decide) ?_
  rcases xi_c h with ⟨E9, s_2, hc9, rfl⟩ | ⟨v_1, s_2, hc9, h⟩
  · exact xc_Vt (As := [.int (1 : Int32)]) (ws' := w0 aB K B ++ (w4 aS K s_2 ++ w3 aO K O)) C (mX4_readNumber l hlt D K aS _ _ _ _ hc9) xgi_X0_28 xd_X4_readNumber ⟨Nat.le_of_ble_eq_true rfl, Nat.le_of_ble_eq_true rfl⟩ ⟨Nat.le_refl _, Nat.le_refl _⟩ hl rfl (Nat.le_of_ble_eq_true rfl) dX0_readBlock_2 hP hD hS 34 4 rfl rfl rfl [34, 35] rfl rfl [(34, w4 aS K s_2)] rfl rfl rfl (List.forall_mem_cons.mpr ⟨Nat.le_of_ble_eq_true rfl, (fun _ h => absurd h List.not_mem_nil)⟩)
  · refine xc_V (As := [.int (1 : Int32)]) (ws' := w0 aB K B ++ (w4 aS K s_2 ++ w3 aO K O)) C (mX4_readNumber l hlt D K aS _ _ _ _ hc9) xgi_X0_28 xd_X4_readNumber ⟨Nat.le_of_ble_eq_true rfl, Nat.le_of_ble_eq_true rfl⟩ ⟨Nat.zero_le _, Nat.zero_le _⟩ hl rfl (Nat.le_of_ble_eq_true rfl) dX0_readBlock_2 hP hD hS 34 4 rfl rfl rfl [34, 35] rfl rfl [(34, w4 aS K s_2)] rfl rfl rfl (List.forall_mem_cons.mpr ⟨Nat.le_of_ble_eq_true rfl, (fun _ h => absurd h List.not_mem_nil)⟩) (fun H locs hP hD hS => ?_)
    refine W.eq (g2 := F0 m 5 ls [.int v_1]) rfl ?_
    refine lv_iconst (v := (1 : Int32)) hx hb dX0_readBlock_5 (by decide) ?_
    refine lv_icmp_ne (tgt := 13) hx hb dX0_readBlock_6 (by decide) (fun c9 => ?_) (fun c9 => ?_)
    · replace h := xi_f c9 h
      refine lv_iconst (v := (0 : Int32)) hx hb dX0_readBlock_13 (by decide) ?_
      exact kX0_readBlock_14 C hlt _ _ _ _ _ h _ _ _ hP hD hS (lv_sub hl [0, 1, 2] rfl)
    · replace h := xi_t c9 h
      refine lv_iconst (v := (1 : Int32)) hx hb dX0_readBlock_9 (by decide) ?_
      refine lv_goto (tgt := 14) hx hb dX0_readBlock_10 (by decide) ?_
      exact kX0_readBlock_14 C hlt _ _ _ _ _ h _ _ _ hP hD hS (lv_sub hl [0, 1, 2] rfl)
