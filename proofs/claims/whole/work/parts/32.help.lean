/-! The law's own helpers: a call, its answer kept or its exception caught. -/
theorem hm_of {l : Launch} {y : MethodName} {cc : ByteArray} {n : Nat} {hh : List (Nat × Nat × Nat × Nat)} {fr lo mc ms : Nat} {D : va_G} {K : Nat → ClassId} {av : List Value} {sz : Nat} {W0 : va_W} {v : Option Value} {W1 : va_W} (hy : plainName y.cls = true) (hn : (lg_sl av).length ≤ n)
    (body : ∀ (p : Program) (e : Env) (s : State) (m : MethodId) (args : Array Value) (below : List Frame) (meth : Method) (c : Code) (A : Nat → Prop), xC p s m args meth c cc n (some .int) y D K A (tableOf hh) → va_P D vwCl W0 s.heap → va_D A W0 → ∀ ls : Array Slot, lv_has ls n (lv_args 0 av) →
      W p l e (xRk fr lo mc ms) s m args below meth c s.heap [] 0 0 (MQ below (xQr D K A v W1) args s mc ms A) (F0 m 0 ls [])) : Met l y [.codeWith y cc n (some .int) hh] (xRk fr lo mc ms) (xPre D K av sz W0) (xQr D K (va_A W0 sz) v W1) mc ms (va_A W0 sz) := by
  refine va_MetW (cc := cc) (maxL := n) (ret := some .int) (hh := hh) hy rfl (fun p e s m args below meth c s₁ B hml hv => ?_)
  obtain ⟨rfl, hsz, hP, hK, hD0, hG⟩ := hv
  subst hsz
  have hD := hD0.self (sz := s.heap.size)
  have hl := lv_entry av (n := n) hn
  have htab : c.exceptionTable.toList = tableOf hh := vx_table (x := y) B (atoms_spec (ws := [.codeWith y cc n (some .int) hh]) B.pre _ List.mem_cons_self)
  rw [lg_entry_eq]
  exact body p e s m _ below meth c (va_A W0 s.heap.size) ⟨B.exec, B.bytes, B.returns, hml, findClass_of_methodNamed B.named, hK, xg_ts (State.WarmedH.refl s) hG.1, fun q h => Or.inr h, hG, B.notSynchronized, htab, (name_of_methodNamed B.named B.method).1⟩ hP hD _ hl
theorem he_i {p : Program} {l : Launch} {e : Env} {R : Room} {s : State} {m : MethodId} {args : Array Value} {below : List Frame} {meth : Method} {c : Code} {H : Heap} {locs : List Loc} {cells slots : Nat} {cc : ByteArray} {n pc : Nat} {y : MethodName} {D : va_G} {K : Nat → ClassId} {A : Nat → Prop} {tab : List ExceptionTableEntry} {ls : Array Slot} {W1 : va_W} {mc ms : Nat} {r : Int32}
    (C : xC p s m args meth c cc n (some .int) y D K A tab) (hP : va_P D vwCl W1 H) (hD : va_D A W1) (hS : va_S A s.heap H locs) (hc : cells ≤ mc) (hs : slots ≤ ms) (d : decode cc pc = .ok (.ireturn, 1)) : W p l e R s m args below meth c H locs cells slots (MQ below (xQr D K A (some (.int r)) W1) args s mc ms A) (F0 m pc ls [.int r]) := by
  have hlocks : meth.locks = false := C.2.2.2.2.2.2.2.2.2.1
  refine W.widen (k := mc) (n := ms) hc hs ?_
  exact W.iret C.1 C.2.1 C.2.2.1 (xe_end C hP hD hS (some (.int r))) hS.2.2 d
set_option maxHeartbeats 4000000 in
set_option maxRecDepth 100000 in
theorem hL_put_ok (l : Launch) (hlt : l.stackTraces = false) (D : va_G) (K : Nat → ClassId) (aU aX aY : Nat → Nat) (ao : Nat) (sz : Nat) (U : S5) (X Y : S3) (J : Nat → Int64) (p1 : Int32) (p2 : Int32) (v_1 : Int32) (s_1 : S5 × S3 × S3) (h : fX5_put U X Y p1 p2 = some (.inr (v_1, s_1))) : Met l yL_put [.codeWith yL_put cL_put 5 (some .int) [(0, 10, 13, 13), (0, 10, 17, 15)]] (xRk 7 112 0 0) (xPre D K [.ref (aU 0), .int p1, .int p2, .ref ao] sz (w5 aU aX aY K U ++ (w3 aX K X ++ (w3 aY K Y ++ [(ao, .inl (K 3, 1, .inr (.inl J)))])))) (xQr D K (va_A (w5 aU aX aY K U ++ (w3 aX K X ++ (w3 aY K Y ++ [(ao, .inl (K 3, 1, .inr (.inl J)))]))) sz) (some (.int (0 : Int32))) (w5 aU aX aY K s_1.1 ++ (w3 aX K s_1.2.1 ++ (w3 aY K s_1.2.2 ++ [(ao, .inl (K 3, 1, .inr (.inl (vp_updL J ((0 : Int32)).toNatClampNeg v_1.toInt64))))])))) 0 0 (va_A (w5 aU aX aY K U ++ (w3 aX K X ++ (w3 aY K Y ++ [(ao, .inl (K 3, 1, .inr (.inl J)))]))) sz) := by
  refine hm_of (by decide +kernel) (Nat.le_of_ble_eq_true rfl) (fun p e s m args below meth c A C hP hD ls hl => ?_)
  have hl : lv_has ls 5 [(0, .ref (aU 0)), (1, .int p1), (2, .int p2), (3, .ref ao)] := hl
  have hS : va_S A s.heap s.heap [] := va_S.rf
  obtain ⟨hx, hb, hr, hml, hown, hK, hts, hA, hG, hlk, hte, hnm⟩ := id C
  refine lv_aload_n hx hb dL_put_0 rfl (lv_at hl 3 rfl) ?_
  refine lv_iconst (v := (0 : Int32)) hx hb dL_put_1 (by decide) ?_
  refine lv_aload_n hx hb dL_put_2 rfl (lv_at hl 0 rfl) ?_
  refine lv_iload_n hx hb dL_put_3 rfl (lv_at hl 1 rfl) ?_
  refine lv_iload_n hx hb dL_put_4 rfl (lv_at hl 2 rfl) ?_
  refine xc_V (As := [.int p1, .int p2]) (ws' := w5 aU aX aY K s_1.1 ++ (w3 aX K s_1.2.1 ++ (w3 aY K s_1.2.2 ++ [(ao, .inl (K 3, 1, .inr (.inl J)))]))) C (mX5_put l hlt D K aU aX aY _ _ _ _ _ _ _ h) xgi_L_7 xd_X5_put ⟨Nat.le_of_ble_eq_true rfl, Nat.le_of_ble_eq_true rfl⟩ ⟨Nat.le_of_ble_eq_true rfl, Nat.le_of_ble_eq_true rfl⟩ hl rfl (Nat.le_of_ble_eq_true rfl) dL_put_5 hP hD hS 0 5 rfl rfl rfl [0, 1, 2, 3, 4, 5, 6, 7, 8, 9, 10, 11, 12, 13, 14, 15, 16, 17, 18, 19, 20, 21, 22, 23, 24, 25, 26, 27, 28, 29, 30, 31, 32, 33, 34, 35, 36, 37, 38, 39, 40, 41, 42] rfl rfl [(0, w5 aU aX aY K s_1.1), (37, w3 aX K s_1.2.1), (40, w3 aY K s_1.2.2)] rfl rfl rfl (List.forall_mem_cons.mpr ⟨Nat.le_of_ble_eq_true rfl, (List.forall_mem_cons.mpr ⟨Nat.le_of_ble_eq_true rfl, (List.forall_mem_cons.mpr ⟨Nat.le_of_ble_eq_true rfl, (fun _ h => absurd h List.not_mem_nil)⟩)⟩)⟩) (fun H locs hP hD hS => ?_)
  refine W.eq (g2 := F0 m 8 ls [.int v_1, .int (0 : Int32), .ref ao]) rfl ?_
  refine lv_i2l (v := v_1.toInt64) hx hb dL_put_8 rfl ?_
  refine va_last hx hb hK hP hD hS 43 3 rfl rfl (by unfold vp_in; decide) dL_put_9 (fun H locs hP hD hS => ?_)
  have hP : va_P D vwCl (w5 aU aX aY K s_1.1 ++ (w3 aX K s_1.2.1 ++ (w3 aY K s_1.2.2 ++ [(ao, .inl (K 3, 1, .inr (.inl (vp_updL J ((0 : Int32)).toNatClampNeg v_1.toInt64))))]))) H := hP
  have hD : va_D A (w5 aU aX aY K s_1.1 ++ (w3 aX K s_1.2.1 ++ (w3 aY K s_1.2.2 ++ [(ao, .inl (K 3, 1, .inr (.inl (vp_updL J ((0 : Int32)).toNatClampNeg v_1.toInt64))))]))) := hD
  refine lv_goto (tgt := 21) hx hb dL_put_10 (by decide) ?_
  refine lv_iconst (v := (0 : Int32)) hx hb dL_put_21 (by decide) ?_
  exact he_i C hP hD hS (Nat.zero_le _) (Nat.zero_le _) dL_put_22
set_option maxHeartbeats 4000000 in
set_option maxRecDepth 100000 in
theorem hL_put_x1 (l : Launch) (hlt : l.stackTraces = false) (D : va_G) (K : Nat → ClassId) (aU aX aY : Nat → Nat) (ao : Nat) (sz : Nat) (U : S5) (X Y : S3) (J : Nat → Int64) (p1 : Int32) (p2 : Int32) (s_1 : S5 × S3 × S3) (h : fX5_put U X Y p1 p2 = some (.inl ("java/lang/IllegalArgumentException", s_1))) : Met l yL_put [.codeWith yL_put cL_put 5 (some .int) [(0, 10, 13, 13), (0, 10, 17, 15)]] (xRk 7 112 1 6) (xPre D K [.ref (aU 0), .int p1, .int p2, .ref ao] sz (w5 aU aX aY K U ++ (w3 aX K X ++ (w3 aY K Y ++ [(ao, .inl (K 3, 1, .inr (.inl J)))])))) (xQr D K (va_A (w5 aU aX aY K U ++ (w3 aX K X ++ (w3 aY K Y ++ [(ao, .inl (K 3, 1, .inr (.inl J)))]))) sz) (some (.int (1 : Int32))) (w5 aU aX aY K s_1.1 ++ (w3 aX K s_1.2.1 ++ (w3 aY K s_1.2.2 ++ [(ao, .inl (K 3, 1, .inr (.inl J)))])))) 1 6 (va_A (w5 aU aX aY K U ++ (w3 aX K X ++ (w3 aY K Y ++ [(ao, .inl (K 3, 1, .inr (.inl J)))]))) sz) := by
  refine hm_of (by decide +kernel) (Nat.le_of_ble_eq_true rfl) (fun p e s m args below meth c A C hP hD ls hl => ?_)
  have hl : lv_has ls 5 [(0, .ref (aU 0)), (1, .int p1), (2, .int p2), (3, .ref ao)] := hl
  have hS : va_S A s.heap s.heap [] := va_S.rf
  obtain ⟨hx, hb, hr, hml, hown, hK, hts, hA, hG, hlk, hte, hnm⟩ := id C
  refine lv_aload_n hx hb dL_put_0 rfl (lv_at hl 3 rfl) ?_
  refine lv_iconst (v := (0 : Int32)) hx hb dL_put_1 (by decide) ?_
  refine lv_aload_n hx hb dL_put_2 rfl (lv_at hl 0 rfl) ?_
  refine lv_iload_n hx hb dL_put_3 rfl (lv_at hl 1 rfl) ?_
  refine lv_iload_n hx hb dL_put_4 rfl (lv_at hl 2 rfl) ?_
  refine xc_Vc (name := "java/lang/IllegalArgumentException") (As := [.int p1, .int p2]) (ws' := w5 aU aX aY K s_1.1 ++ (w3 aX K s_1.2.1 ++ (w3 aY K s_1.2.2 ++ [(ao, .inl (K 3, 1, .inr (.inl J)))]))) C (mX5_put l hlt D K aU aX aY _ _ _ _ _ _ _ h) xgi_L_7 xd_X5_put ⟨Nat.le_of_ble_eq_true rfl, Nat.le_of_ble_eq_true rfl⟩ ⟨Nat.le_of_ble_eq_true rfl, Nat.le_of_ble_eq_true rfl⟩ hl rfl (Nat.le_of_ble_eq_true rfl) dL_put_5 hP hD hS 0 5 rfl rfl rfl [0, 1, 2, 3, 4, 5, 6, 7, 8, 9, 10, 11, 12, 13, 14, 15, 16, 17, 18, 19, 20, 21, 22, 23, 24, 25, 26, 27, 28, 29, 30, 31, 32, 33, 34, 35, 36, 37, 38, 39, 40, 41, 42] rfl rfl [(0, w5 aU aX aY K s_1.1), (37, w3 aX K s_1.2.1), (40, w3 aY K s_1.2.2)] rfl rfl rfl (List.forall_mem_cons.mpr ⟨Nat.le_of_ble_eq_true rfl, (List.forall_mem_cons.mpr ⟨Nat.le_of_ble_eq_true rfl, (List.forall_mem_cons.mpr ⟨Nat.le_of_ble_eq_true rfl, (fun _ h => absurd h List.not_mem_nil)⟩)⟩)⟩) [] ⟨0, 10, 13, 13⟩ [⟨0, 10, 17, 15⟩] rfl (fun z hz => absurd hz List.not_mem_nil) (by decide) (by decide) xw_200 xw_208 (fun q9 H locs hP hD hS => ?_)
  refine W.eq (g2 := F0 m 13 ls [.ref q9]) rfl ?_
  refine lv_astore (lv' := [(4, .ref q9), (0, .ref (aU 0)), (1, .int p1), (2, .int p2), (3, .ref ao)]) hx hb dL_put_13 hl (by decide) rfl (fun ls hl => ?_)
  refine lv_iconst (v := (1 : Int32)) hx hb dL_put_15 (by decide) ?_
  exact he_i C hP hD hS (Nat.le_refl _) (Nat.le_refl _) dL_put_16
set_option maxHeartbeats 4000000 in
set_option maxRecDepth 100000 in
theorem hL_put_x2 (l : Launch) (hlt : l.stackTraces = false) (D : va_G) (K : Nat → ClassId) (aU aX aY : Nat → Nat) (ao : Nat) (sz : Nat) (U : S5) (X Y : S3) (J : Nat → Int64) (p1 : Int32) (p2 : Int32) (s_1 : S5 × S3 × S3) (h : fX5_put U X Y p1 p2 = some (.inl ("java/lang/IllegalStateException", s_1))) : Met l yL_put [.codeWith yL_put cL_put 5 (some .int) [(0, 10, 13, 13), (0, 10, 17, 15)]] (xRk 7 112 1 6) (xPre D K [.ref (aU 0), .int p1, .int p2, .ref ao] sz (w5 aU aX aY K U ++ (w3 aX K X ++ (w3 aY K Y ++ [(ao, .inl (K 3, 1, .inr (.inl J)))])))) (xQr D K (va_A (w5 aU aX aY K U ++ (w3 aX K X ++ (w3 aY K Y ++ [(ao, .inl (K 3, 1, .inr (.inl J)))]))) sz) (some (.int (2 : Int32))) (w5 aU aX aY K s_1.1 ++ (w3 aX K s_1.2.1 ++ (w3 aY K s_1.2.2 ++ [(ao, .inl (K 3, 1, .inr (.inl J)))])))) 1 6 (va_A (w5 aU aX aY K U ++ (w3 aX K X ++ (w3 aY K Y ++ [(ao, .inl (K 3, 1, .inr (.inl J)))]))) sz) := by
  refine hm_of (by decide +kernel) (Nat.le_of_ble_eq_true rfl) (fun p e s m args below meth c A C hP hD ls hl => ?_)
  have hl : lv_has ls 5 [(0, .ref (aU 0)), (1, .int p1), (2, .int p2), (3, .ref ao)] := hl
  have hS : va_S A s.heap s.heap [] := va_S.rf
  obtain ⟨hx, hb, hr, hml, hown, hK, hts, hA, hG, hlk, hte, hnm⟩ := id C
  refine lv_aload_n hx hb dL_put_0 rfl (lv_at hl 3 rfl) ?_
  refine lv_iconst (v := (0 : Int32)) hx hb dL_put_1 (by decide) ?_
  refine lv_aload_n hx hb dL_put_2 rfl (lv_at hl 0 rfl) ?_
  refine lv_iload_n hx hb dL_put_3 rfl (lv_at hl 1 rfl) ?_
  refine lv_iload_n hx hb dL_put_4 rfl (lv_at hl 2 rfl) ?_
  refine xc_Vc (name := "java/lang/IllegalStateException") (As := [.int p1, .int p2]) (ws' := w5 aU aX aY K s_1.1 ++ (w3 aX K s_1.2.1 ++ (w3 aY K s_1.2.2 ++ [(ao, .inl (K 3, 1, .inr (.inl J)))]))) C (mX5_put l hlt D K aU aX aY _ _ _ _ _ _ _ h) xgi_L_7 xd_X5_put ⟨Nat.le_of_ble_eq_true rfl, Nat.le_of_ble_eq_true rfl⟩ ⟨Nat.le_of_ble_eq_true rfl, Nat.le_of_ble_eq_true rfl⟩ hl rfl (Nat.le_of_ble_eq_true rfl) dL_put_5 hP hD hS 0 5 rfl rfl rfl [0, 1, 2, 3, 4, 5, 6, 7, 8, 9, 10, 11, 12, 13, 14, 15, 16, 17, 18, 19, 20, 21, 22, 23, 24, 25, 26, 27, 28, 29, 30, 31, 32, 33, 34, 35, 36, 37, 38, 39, 40, 41, 42] rfl rfl [(0, w5 aU aX aY K s_1.1), (37, w3 aX K s_1.2.1), (40, w3 aY K s_1.2.2)] rfl rfl rfl (List.forall_mem_cons.mpr ⟨Nat.le_of_ble_eq_true rfl, (List.forall_mem_cons.mpr ⟨Nat.le_of_ble_eq_true rfl, (List.forall_mem_cons.mpr ⟨Nat.le_of_ble_eq_true rfl, (fun _ h => absurd h List.not_mem_nil)⟩)⟩)⟩) [⟨0, 10, 13, 13⟩] ⟨0, 10, 17, 15⟩ [] rfl (fun z hz => (List.mem_cons.mp hz).elim (fun e9 => by subst e9; exact Or.inr ⟨by decide, "java/lang/IllegalArgumentException", hts _ xw_200, hG.2.2.2.2.2⟩) (fun h9 => absurd h9 List.not_mem_nil)) (by decide) (by decide) xw_201 xw_277 (fun q9 H locs hP hD hS => ?_)
  refine W.eq (g2 := F0 m 17 ls [.ref q9]) rfl ?_
  refine lv_astore (lv' := [(4, .ref q9), (0, .ref (aU 0)), (1, .int p1), (2, .int p2), (3, .ref ao)]) hx hb dL_put_17 hl (by decide) rfl (fun ls hl => ?_)
  refine lv_iconst (v := (2 : Int32)) hx hb dL_put_19 (by decide) ?_
  exact he_i C hP hD hS (Nat.le_refl _) (Nat.le_refl _) dL_put_20
set_option maxHeartbeats 4000000 in
set_option maxRecDepth 100000 in
theorem hL_bit_ok0 (l : Launch) (hlt : l.stackTraces = false) (D : va_G) (K : Nat → ClassId) (aU aX aY : Nat → Nat) (ao : Nat) (sz : Nat) (U : S5) (X Y : S3) (J : Nat → Int64) (p1 : Int32) (v_1 : Int32) (s_1 : S5 × S3 × S3) (h : fX5_bit U X Y p1 = some (.inr (v_1, s_1))) (hv : v_1 = 0) : Met l yL_bit [.codeWith yL_bit cL_bit 4 (some .int) [(0, 16, 19, 21)]] (xRk 7 111 0 0) (xPre D K [.ref (aU 0), .int p1, .ref ao] sz (w5 aU aX aY K U ++ (w3 aX K X ++ (w3 aY K Y ++ [(ao, .inl (K 3, 1, .inr (.inl J)))])))) (xQr D K (va_A (w5 aU aX aY K U ++ (w3 aX K X ++ (w3 aY K Y ++ [(ao, .inl (K 3, 1, .inr (.inl J)))]))) sz) (some (.int (0 : Int32))) (w5 aU aX aY K s_1.1 ++ (w3 aX K s_1.2.1 ++ (w3 aY K s_1.2.2 ++ [(ao, .inl (K 3, 1, .inr (.inl (vp_updL J ((0 : Int32)).toNatClampNeg (0 : Int64)))))])))) 0 0 (va_A (w5 aU aX aY K U ++ (w3 aX K X ++ (w3 aY K Y ++ [(ao, .inl (K 3, 1, .inr (.inl J)))]))) sz) := by
  refine hm_of (by decide +kernel) (Nat.le_of_ble_eq_true rfl) (fun p e s m args below meth c A C hP hD ls hl => ?_)
  have hl : lv_has ls 4 [(0, .ref (aU 0)), (1, .int p1), (2, .ref ao)] := hl
  have hS : va_S A s.heap s.heap [] := va_S.rf
  obtain ⟨hx, hb, hr, hml, hown, hK, hts, hA, hG, hlk, hte, hnm⟩ := id C
  refine lv_aload_n hx hb dL_bit_0 rfl (lv_at hl 2 rfl) ?_
  refine lv_iconst (v := (0 : Int32)) hx hb dL_bit_1 (by decide) ?_
  refine lv_aload_n hx hb dL_bit_2 rfl (lv_at hl 0 rfl) ?_
  refine lv_iload_n hx hb dL_bit_3 rfl (lv_at hl 1 rfl) ?_
  refine xc_V (As := [.int p1]) (ws' := w5 aU aX aY K s_1.1 ++ (w3 aX K s_1.2.1 ++ (w3 aY K s_1.2.2 ++ [(ao, .inl (K 3, 1, .inr (.inl J)))]))) C (mX5_bit l hlt D K aU aX aY _ _ _ _ _ _ h) xgi_L_17 xd_X5_bit ⟨Nat.le_of_ble_eq_true rfl, Nat.le_of_ble_eq_true rfl⟩ ⟨Nat.le_of_ble_eq_true rfl, Nat.le_of_ble_eq_true rfl⟩ hl rfl (Nat.le_of_ble_eq_true rfl) dL_bit_4 hP hD hS 0 5 rfl rfl rfl [0, 1, 2, 3, 4, 5, 6, 7, 8, 9, 10, 11, 12, 13, 14, 15, 16, 17, 18, 19, 20, 21, 22, 23, 24, 25, 26, 27, 28, 29, 30, 31, 32, 33, 34, 35, 36, 37, 38, 39, 40, 41, 42] rfl rfl [(0, w5 aU aX aY K s_1.1), (37, w3 aX K s_1.2.1), (40, w3 aY K s_1.2.2)] rfl rfl rfl (List.forall_mem_cons.mpr ⟨Nat.le_of_ble_eq_true rfl, (List.forall_mem_cons.mpr ⟨Nat.le_of_ble_eq_true rfl, (List.forall_mem_cons.mpr ⟨Nat.le_of_ble_eq_true rfl, (fun _ h => absurd h List.not_mem_nil)⟩)⟩)⟩) (fun H locs hP hD hS => ?_)
  refine W.eq (g2 := F0 m 7 ls [.int v_1, .int (0 : Int32), .ref ao]) rfl ?_
  refine lv_if_eq (tgt := 14) hx hb dL_bit_7 (by decide) (fun c9 => ?_) (fun c9 => absurd hv c9)
  refine lv_lconst (v := (0 : Int64)) hx hb dL_bit_14 (by decide) ?_
  refine va_last hx hb hK hP hD hS 43 3 rfl rfl (by unfold vp_in; decide) dL_bit_15 (fun H locs hP hD hS => ?_)
  have hP : va_P D vwCl (w5 aU aX aY K s_1.1 ++ (w3 aX K s_1.2.1 ++ (w3 aY K s_1.2.2 ++ [(ao, .inl (K 3, 1, .inr (.inl (vp_updL J ((0 : Int32)).toNatClampNeg (0 : Int64)))))]))) H := hP
  have hD : va_D A (w5 aU aX aY K s_1.1 ++ (w3 aX K s_1.2.1 ++ (w3 aY K s_1.2.2 ++ [(ao, .inl (K 3, 1, .inr (.inl (vp_updL J ((0 : Int32)).toNatClampNeg (0 : Int64)))))]))) := hD
  refine lv_goto (tgt := 22) hx hb dL_bit_16 (by decide) ?_
  refine lv_iconst (v := (0 : Int32)) hx hb dL_bit_22 (by decide) ?_
  exact he_i C hP hD hS (Nat.zero_le _) (Nat.zero_le _) dL_bit_23
set_option maxHeartbeats 4000000 in
set_option maxRecDepth 100000 in
theorem hL_bit_ok1 (l : Launch) (hlt : l.stackTraces = false) (D : va_G) (K : Nat → ClassId) (aU aX aY : Nat → Nat) (ao : Nat) (sz : Nat) (U : S5) (X Y : S3) (J : Nat → Int64) (p1 : Int32) (v_1 : Int32) (s_1 : S5 × S3 × S3) (h : fX5_bit U X Y p1 = some (.inr (v_1, s_1))) (hv : ¬ v_1 = 0) : Met l yL_bit [.codeWith yL_bit cL_bit 4 (some .int) [(0, 16, 19, 21)]] (xRk 7 111 0 0) (xPre D K [.ref (aU 0), .int p1, .ref ao] sz (w5 aU aX aY K U ++ (w3 aX K X ++ (w3 aY K Y ++ [(ao, .inl (K 3, 1, .inr (.inl J)))])))) (xQr D K (va_A (w5 aU aX aY K U ++ (w3 aX K X ++ (w3 aY K Y ++ [(ao, .inl (K 3, 1, .inr (.inl J)))]))) sz) (some (.int (0 : Int32))) (w5 aU aX aY K s_1.1 ++ (w3 aX K s_1.2.1 ++ (w3 aY K s_1.2.2 ++ [(ao, .inl (K 3, 1, .inr (.inl (vp_updL J ((0 : Int32)).toNatClampNeg (1 : Int64)))))])))) 0 0 (va_A (w5 aU aX aY K U ++ (w3 aX K X ++ (w3 aY K Y ++ [(ao, .inl (K 3, 1, .inr (.inl J)))]))) sz) := by
  refine hm_of (by decide +kernel) (Nat.le_of_ble_eq_true rfl) (fun p e s m args below meth c A C hP hD ls hl => ?_)
  have hl : lv_has ls 4 [(0, .ref (aU 0)), (1, .int p1), (2, .ref ao)] := hl
  have hS : va_S A s.heap s.heap [] := va_S.rf
  obtain ⟨hx, hb, hr, hml, hown, hK, hts, hA, hG, hlk, hte, hnm⟩ := id C
  refine lv_aload_n hx hb dL_bit_0 rfl (lv_at hl 2 rfl) ?_
  refine lv_iconst (v := (0 : Int32)) hx hb dL_bit_1 (by decide) ?_
  refine lv_aload_n hx hb dL_bit_2 rfl (lv_at hl 0 rfl) ?_
  refine lv_iload_n hx hb dL_bit_3 rfl (lv_at hl 1 rfl) ?_
  refine xc_V (As := [.int p1]) (ws' := w5 aU aX aY K s_1.1 ++ (w3 aX K s_1.2.1 ++ (w3 aY K s_1.2.2 ++ [(ao, .inl (K 3, 1, .inr (.inl J)))]))) C (mX5_bit l hlt D K aU aX aY _ _ _ _ _ _ h) xgi_L_17 xd_X5_bit ⟨Nat.le_of_ble_eq_true rfl, Nat.le_of_ble_eq_true rfl⟩ ⟨Nat.le_of_ble_eq_true rfl, Nat.le_of_ble_eq_true rfl⟩ hl rfl (Nat.le_of_ble_eq_true rfl) dL_bit_4 hP hD hS 0 5 rfl rfl rfl [0, 1, 2, 3, 4, 5, 6, 7, 8, 9, 10, 11, 12, 13, 14, 15, 16, 17, 18, 19, 20, 21, 22, 23, 24, 25, 26, 27, 28, 29, 30, 31, 32, 33, 34, 35, 36, 37, 38, 39, 40, 41, 42] rfl rfl [(0, w5 aU aX aY K s_1.1), (37, w3 aX K s_1.2.1), (40, w3 aY K s_1.2.2)] rfl rfl rfl (List.forall_mem_cons.mpr ⟨Nat.le_of_ble_eq_true rfl, (List.forall_mem_cons.mpr ⟨Nat.le_of_ble_eq_true rfl, (List.forall_mem_cons.mpr ⟨Nat.le_of_ble_eq_true rfl, (fun _ h => absurd h List.not_mem_nil)⟩)⟩)⟩) (fun H locs hP hD hS => ?_)
  refine W.eq (g2 := F0 m 7 ls [.int v_1, .int (0 : Int32), .ref ao]) rfl ?_
  refine lv_if_eq (tgt := 14) hx hb dL_bit_7 (by decide) (fun c9 => absurd c9 hv) (fun c9 => ?_)
  refine lv_lconst (v := (1 : Int64)) hx hb dL_bit_10 (by decide) ?_
  refine lv_goto (tgt := 15) hx hb dL_bit_11 (by decide) ?_
  refine va_last hx hb hK hP hD hS 43 3 rfl rfl (by unfold vp_in; decide) dL_bit_15 (fun H locs hP hD hS => ?_)
  have hP : va_P D vwCl (w5 aU aX aY K s_1.1 ++ (w3 aX K s_1.2.1 ++ (w3 aY K s_1.2.2 ++ [(ao, .inl (K 3, 1, .inr (.inl (vp_updL J ((0 : Int32)).toNatClampNeg (1 : Int64)))))]))) H := hP
  have hD : va_D A (w5 aU aX aY K s_1.1 ++ (w3 aX K s_1.2.1 ++ (w3 aY K s_1.2.2 ++ [(ao, .inl (K 3, 1, .inr (.inl (vp_updL J ((0 : Int32)).toNatClampNeg (1 : Int64)))))]))) := hD
  refine lv_goto (tgt := 22) hx hb dL_bit_16 (by decide) ?_
  refine lv_iconst (v := (0 : Int32)) hx hb dL_bit_22 (by decide) ?_
  exact he_i C hP hD hS (Nat.zero_le _) (Nat.zero_le _) dL_bit_23
set_option maxHeartbeats 4000000 in
set_option maxRecDepth 100000 in
theorem hL_bit_x1 (l : Launch) (hlt : l.stackTraces = false) (D : va_G) (K : Nat → ClassId) (aU aX aY : Nat → Nat) (ao : Nat) (sz : Nat) (U : S5) (X Y : S3) (J : Nat → Int64) (p1 : Int32) (s_1 : S5 × S3 × S3) (h : fX5_bit U X Y p1 = some (.inl ("java/lang/IndexOutOfBoundsException", s_1))) : Met l yL_bit [.codeWith yL_bit cL_bit 4 (some .int) [(0, 16, 19, 21)]] (xRk 7 111 1 6) (xPre D K [.ref (aU 0), .int p1, .ref ao] sz (w5 aU aX aY K U ++ (w3 aX K X ++ (w3 aY K Y ++ [(ao, .inl (K 3, 1, .inr (.inl J)))])))) (xQr D K (va_A (w5 aU aX aY K U ++ (w3 aX K X ++ (w3 aY K Y ++ [(ao, .inl (K 3, 1, .inr (.inl J)))]))) sz) (some (.int (1 : Int32))) (w5 aU aX aY K s_1.1 ++ (w3 aX K s_1.2.1 ++ (w3 aY K s_1.2.2 ++ [(ao, .inl (K 3, 1, .inr (.inl J)))])))) 1 6 (va_A (w5 aU aX aY K U ++ (w3 aX K X ++ (w3 aY K Y ++ [(ao, .inl (K 3, 1, .inr (.inl J)))]))) sz) := by
  refine hm_of (by decide +kernel) (Nat.le_of_ble_eq_true rfl) (fun p e s m args below meth c A C hP hD ls hl => ?_)
  have hl : lv_has ls 4 [(0, .ref (aU 0)), (1, .int p1), (2, .ref ao)] := hl
  have hS : va_S A s.heap s.heap [] := va_S.rf
  obtain ⟨hx, hb, hr, hml, hown, hK, hts, hA, hG, hlk, hte, hnm⟩ := id C
  refine lv_aload_n hx hb dL_bit_0 rfl (lv_at hl 2 rfl) ?_
  refine lv_iconst (v := (0 : Int32)) hx hb dL_bit_1 (by decide) ?_
  refine lv_aload_n hx hb dL_bit_2 rfl (lv_at hl 0 rfl) ?_
  refine lv_iload_n hx hb dL_bit_3 rfl (lv_at hl 1 rfl) ?_
  refine xc_Vc (name := "java/lang/IndexOutOfBoundsException") (As := [.int p1]) (ws' := w5 aU aX aY K s_1.1 ++ (w3 aX K s_1.2.1 ++ (w3 aY K s_1.2.2 ++ [(ao, .inl (K 3, 1, .inr (.inl J)))]))) C (mX5_bit l hlt D K aU aX aY _ _ _ _ _ _ h) xgi_L_17 xd_X5_bit ⟨Nat.le_of_ble_eq_true rfl, Nat.le_of_ble_eq_true rfl⟩ ⟨Nat.le_of_ble_eq_true rfl, Nat.le_of_ble_eq_true rfl⟩ hl rfl (Nat.le_of_ble_eq_true rfl) dL_bit_4 hP hD hS 0 5 rfl rfl rfl [0, 1, 2, 3, 4, 5, 6, 7, 8, 9, 10, 11, 12, 13, 14, 15, 16, 17, 18, 19, 20, 21, 22, 23, 24, 25, 26, 27, 28, 29, 30, 31, 32, 33, 34, 35, 36, 37, 38, 39, 40, 41, 42] rfl rfl [(0, w5 aU aX aY K s_1.1), (37, w3 aX K s_1.2.1), (40, w3 aY K s_1.2.2)] rfl rfl rfl (List.forall_mem_cons.mpr ⟨Nat.le_of_ble_eq_true rfl, (List.forall_mem_cons.mpr ⟨Nat.le_of_ble_eq_true rfl, (List.forall_mem_cons.mpr ⟨Nat.le_of_ble_eq_true rfl, (fun _ h => absurd h List.not_mem_nil)⟩)⟩)⟩) [] ⟨0, 16, 19, 21⟩ [] rfl (fun z hz => absurd hz List.not_mem_nil) (by decide) (by decide) xw_298 xw_305 (fun q9 H locs hP hD hS => ?_)
  refine W.eq (g2 := F0 m 19 ls [.ref q9]) rfl ?_
  refine lv_astore_n (lv' := [(3, .ref q9), (0, .ref (aU 0)), (1, .int p1), (2, .ref ao)]) hx hb dL_bit_19 rfl hl (by decide) rfl (fun ls hl => ?_)
  refine lv_iconst (v := (1 : Int32)) hx hb dL_bit_20 (by decide) ?_
  exact he_i C hP hD hS (Nat.le_refl _) (Nat.le_refl _) dL_bit_21
set_option maxHeartbeats 4000000 in
set_option maxRecDepth 100000 in
theorem hL_flip_ok (l : Launch) (hlt : l.stackTraces = false) (D : va_G) (K : Nat → ClassId) (aU aX aY : Nat → Nat) (sz : Nat) (U : S5) (X Y : S3) (p1 : Int32) (v_1 : Unit) (s_1 : S5 × S3 × S3) (h : fX5_flip U X Y p1 = some (.inr (v_1, s_1))) : Met l yL_flip [.codeWith yL_flip cL_flip 3 (some .int) [(0, 5, 8, 21)]] (xRk 7 111 0 0) (xPre D K [.ref (aU 0), .int p1] sz (w5 aU aX aY K U ++ (w3 aX K X ++ w3 aY K Y))) (xQr D K (va_A (w5 aU aX aY K U ++ (w3 aX K X ++ w3 aY K Y)) sz) (some (.int (0 : Int32))) (w5 aU aX aY K s_1.1 ++ (w3 aX K s_1.2.1 ++ w3 aY K s_1.2.2))) 0 0 (va_A (w5 aU aX aY K U ++ (w3 aX K X ++ w3 aY K Y)) sz) := by
  refine hm_of (by decide +kernel) (Nat.le_of_ble_eq_true rfl) (fun p e s m args below meth c A C hP hD ls hl => ?_)
  have hl : lv_has ls 3 [(0, .ref (aU 0)), (1, .int p1)] := hl
  have hS : va_S A s.heap s.heap [] := va_S.rf
  obtain ⟨hx, hb, hr, hml, hown, hK, hts, hA, hG, hlk, hte, hnm⟩ := id C
  refine lv_aload_n hx hb dL_flip_0 rfl (lv_at hl 0 rfl) ?_
  refine lv_iload_n hx hb dL_flip_1 rfl (lv_at hl 1 rfl) ?_
  refine xc_V (As := [.int p1]) (ws' := w5 aU aX aY K s_1.1 ++ (w3 aX K s_1.2.1 ++ w3 aY K s_1.2.2)) C (mX5_flip l hlt D K aU aX aY _ _ _ _ _ _ h) xgi_L_23 xd_X5_flip ⟨Nat.le_of_ble_eq_true rfl, Nat.le_of_ble_eq_true rfl⟩ ⟨Nat.le_of_ble_eq_true rfl, Nat.le_of_ble_eq_true rfl⟩ hl rfl (Nat.le_of_ble_eq_true rfl) dL_flip_2 hP hD hS 0 5 rfl rfl rfl [0, 1, 2, 3, 4, 5, 6, 7, 8, 9, 10, 11, 12, 13, 14, 15, 16, 17, 18, 19, 20, 21, 22, 23, 24, 25, 26, 27, 28, 29, 30, 31, 32, 33, 34, 35, 36, 37, 38, 39, 40, 41, 42] rfl rfl [(0, w5 aU aX aY K s_1.1), (37, w3 aX K s_1.2.1), (40, w3 aY K s_1.2.2)] rfl rfl rfl (List.forall_mem_cons.mpr ⟨Nat.le_of_ble_eq_true rfl, (List.forall_mem_cons.mpr ⟨Nat.le_of_ble_eq_true rfl, (List.forall_mem_cons.mpr ⟨Nat.le_of_ble_eq_true rfl, (fun _ h => absurd h List.not_mem_nil)⟩)⟩)⟩) (fun H locs hP hD hS => ?_)
  refine W.eq (g2 := F0 m 5 ls []) rfl ?_
  refine lv_goto (tgt := 11) hx hb dL_flip_5 (by decide) ?_
  refine lv_iconst (v := (0 : Int32)) hx hb dL_flip_11 (by decide) ?_
  exact he_i C hP hD hS (Nat.zero_le _) (Nat.zero_le _) dL_flip_12
set_option maxHeartbeats 4000000 in
set_option maxRecDepth 100000 in
theorem hL_flip_x1 (l : Launch) (hlt : l.stackTraces = false) (D : va_G) (K : Nat → ClassId) (aU aX aY : Nat → Nat) (sz : Nat) (U : S5) (X Y : S3) (p1 : Int32) (s_1 : S5 × S3 × S3) (h : fX5_flip U X Y p1 = some (.inl ("java/lang/IndexOutOfBoundsException", s_1))) : Met l yL_flip [.codeWith yL_flip cL_flip 3 (some .int) [(0, 5, 8, 21)]] (xRk 7 111 1 6) (xPre D K [.ref (aU 0), .int p1] sz (w5 aU aX aY K U ++ (w3 aX K X ++ w3 aY K Y))) (xQr D K (va_A (w5 aU aX aY K U ++ (w3 aX K X ++ w3 aY K Y)) sz) (some (.int (1 : Int32))) (w5 aU aX aY K s_1.1 ++ (w3 aX K s_1.2.1 ++ w3 aY K s_1.2.2))) 1 6 (va_A (w5 aU aX aY K U ++ (w3 aX K X ++ w3 aY K Y)) sz) := by
  refine hm_of (by decide +kernel) (Nat.le_of_ble_eq_true rfl) (fun p e s m args below meth c A C hP hD ls hl => ?_)
  have hl : lv_has ls 3 [(0, .ref (aU 0)), (1, .int p1)] := hl
  have hS : va_S A s.heap s.heap [] := va_S.rf
  obtain ⟨hx, hb, hr, hml, hown, hK, hts, hA, hG, hlk, hte, hnm⟩ := id C
  refine lv_aload_n hx hb dL_flip_0 rfl (lv_at hl 0 rfl) ?_
  refine lv_iload_n hx hb dL_flip_1 rfl (lv_at hl 1 rfl) ?_
  refine xc_Vc (name := "java/lang/IndexOutOfBoundsException") (As := [.int p1]) (ws' := w5 aU aX aY K s_1.1 ++ (w3 aX K s_1.2.1 ++ w3 aY K s_1.2.2)) C (mX5_flip l hlt D K aU aX aY _ _ _ _ _ _ h) xgi_L_23 xd_X5_flip ⟨Nat.le_of_ble_eq_true rfl, Nat.le_of_ble_eq_true rfl⟩ ⟨Nat.le_of_ble_eq_true rfl, Nat.le_of_ble_eq_true rfl⟩ hl rfl (Nat.le_of_ble_eq_true rfl) dL_flip_2 hP hD hS 0 5 rfl rfl rfl [0, 1, 2, 3, 4, 5, 6, 7, 8, 9, 10, 11, 12, 13, 14, 15, 16, 17, 18, 19, 20, 21, 22, 23, 24, 25, 26, 27, 28, 29, 30, 31, 32, 33, 34, 35, 36, 37, 38, 39, 40, 41, 42] rfl rfl [(0, w5 aU aX aY K s_1.1), (37, w3 aX K s_1.2.1), (40, w3 aY K s_1.2.2)] rfl rfl rfl (List.forall_mem_cons.mpr ⟨Nat.le_of_ble_eq_true rfl, (List.forall_mem_cons.mpr ⟨Nat.le_of_ble_eq_true rfl, (List.forall_mem_cons.mpr ⟨Nat.le_of_ble_eq_true rfl, (fun _ h => absurd h List.not_mem_nil)⟩)⟩)⟩) [] ⟨0, 5, 8, 21⟩ [] rfl (fun z hz => absurd hz List.not_mem_nil) (by decide) (by decide) xw_298 xw_305 (fun q9 H locs hP hD hS => ?_)
  refine W.eq (g2 := F0 m 8 ls [.ref q9]) rfl ?_
  refine lv_astore_n (lv' := [(2, .ref q9), (0, .ref (aU 0)), (1, .int p1)]) hx hb dL_flip_8 rfl hl (by decide) rfl (fun ls hl => ?_)
  refine lv_iconst (v := (1 : Int32)) hx hb dL_flip_9 (by decide) ?_
  exact he_i C hP hD hS (Nat.le_refl _) (Nat.le_refl _) dL_flip_10
set_option maxHeartbeats 4000000 in
set_option maxRecDepth 100000 in
theorem hL_cut_ok (l : Launch) (hlt : l.stackTraces = false) (D : va_G) (K : Nat → ClassId) (aU aX aY : Nat → Nat) (ao : Nat) (sz : Nat) (U : S5) (X Y : S3) (J : Nat → Int64) (p1 : Int32) (v_1 : Int32) (s_1 : S5 × S3 × S3) (h : fX5_cut U X Y p1 = some (.inr (v_1, s_1))) : Met l yL_cut [.codeWith yL_cut cL_cut 4 (some .int) [(0, 9, 12, 13)]] (xRk 7 112 0 0) (xPre D K [.ref (aU 0), .int p1, .ref ao] sz (w5 aU aX aY K U ++ (w3 aX K X ++ (w3 aY K Y ++ [(ao, .inl (K 3, 1, .inr (.inl J)))])))) (xQr D K (va_A (w5 aU aX aY K U ++ (w3 aX K X ++ (w3 aY K Y ++ [(ao, .inl (K 3, 1, .inr (.inl J)))]))) sz) (some (.int (0 : Int32))) (w5 aU aX aY K s_1.1 ++ (w3 aX K s_1.2.1 ++ (w3 aY K s_1.2.2 ++ [(ao, .inl (K 3, 1, .inr (.inl (vp_updL J ((0 : Int32)).toNatClampNeg v_1.toInt64))))])))) 0 0 (va_A (w5 aU aX aY K U ++ (w3 aX K X ++ (w3 aY K Y ++ [(ao, .inl (K 3, 1, .inr (.inl J)))]))) sz) := by
  refine hm_of (by decide +kernel) (Nat.le_of_ble_eq_true rfl) (fun p e s m args below meth c A C hP hD ls hl => ?_)
  have hl : lv_has ls 4 [(0, .ref (aU 0)), (1, .int p1), (2, .ref ao)] := hl
  have hS : va_S A s.heap s.heap [] := va_S.rf
  obtain ⟨hx, hb, hr, hml, hown, hK, hts, hA, hG, hlk, hte, hnm⟩ := id C
  refine lv_aload_n hx hb dL_cut_0 rfl (lv_at hl 2 rfl) ?_
  refine lv_iconst (v := (0 : Int32)) hx hb dL_cut_1 (by decide) ?_
  refine lv_aload_n hx hb dL_cut_2 rfl (lv_at hl 0 rfl) ?_
  refine lv_iload_n hx hb dL_cut_3 rfl (lv_at hl 1 rfl) ?_
  refine xc_V (As := [.int p1]) (ws' := w5 aU aX aY K s_1.1 ++ (w3 aX K s_1.2.1 ++ (w3 aY K s_1.2.2 ++ [(ao, .inl (K 3, 1, .inr (.inl J)))]))) C (mX5_cut l hlt D K aU aX aY _ _ _ _ _ _ h) xgi_L_27 xd_X5_cut ⟨Nat.le_of_ble_eq_true rfl, Nat.le_of_ble_eq_true rfl⟩ ⟨Nat.le_of_ble_eq_true rfl, Nat.le_of_ble_eq_true rfl⟩ hl rfl (Nat.le_of_ble_eq_true rfl) dL_cut_4 hP hD hS 0 5 rfl rfl rfl [0, 1, 2, 3, 4, 5, 6, 7, 8, 9, 10, 11, 12, 13, 14, 15, 16, 17, 18, 19, 20, 21, 22, 23, 24, 25, 26, 27, 28, 29, 30, 31, 32, 33, 34, 35, 36, 37, 38, 39, 40, 41, 42] rfl rfl [(0, w5 aU aX aY K s_1.1), (37, w3 aX K s_1.2.1), (40, w3 aY K s_1.2.2)] rfl rfl rfl (List.forall_mem_cons.mpr ⟨Nat.le_of_ble_eq_true rfl, (List.forall_mem_cons.mpr ⟨Nat.le_of_ble_eq_true rfl, (List.forall_mem_cons.mpr ⟨Nat.le_of_ble_eq_true rfl, (fun _ h => absurd h List.not_mem_nil)⟩)⟩)⟩) (fun H locs hP hD hS => ?_)
  refine W.eq (g2 := F0 m 7 ls [.int v_1, .int (0 : Int32), .ref ao]) rfl ?_
  refine lv_i2l (v := v_1.toInt64) hx hb dL_cut_7 rfl ?_
  refine va_last hx hb hK hP hD hS 43 3 rfl rfl (by unfold vp_in; decide) dL_cut_8 (fun H locs hP hD hS => ?_)
  have hP : va_P D vwCl (w5 aU aX aY K s_1.1 ++ (w3 aX K s_1.2.1 ++ (w3 aY K s_1.2.2 ++ [(ao, .inl (K 3, 1, .inr (.inl (vp_updL J ((0 : Int32)).toNatClampNeg v_1.toInt64))))]))) H := hP
  have hD : va_D A (w5 aU aX aY K s_1.1 ++ (w3 aX K s_1.2.1 ++ (w3 aY K s_1.2.2 ++ [(ao, .inl (K 3, 1, .inr (.inl (vp_updL J ((0 : Int32)).toNatClampNeg v_1.toInt64))))]))) := hD
  refine lv_goto (tgt := 15) hx hb dL_cut_9 (by decide) ?_
  refine lv_iconst (v := (0 : Int32)) hx hb dL_cut_15 (by decide) ?_
  exact he_i C hP hD hS (Nat.zero_le _) (Nat.zero_le _) dL_cut_16
set_option maxHeartbeats 4000000 in
set_option maxRecDepth 100000 in
theorem hL_cut_x1 (l : Launch) (hlt : l.stackTraces = false) (D : va_G) (K : Nat → ClassId) (aU aX aY : Nat → Nat) (ao : Nat) (sz : Nat) (U : S5) (X Y : S3) (J : Nat → Int64) (p1 : Int32) (s_1 : S5 × S3 × S3) (h : fX5_cut U X Y p1 = some (.inl ("java/lang/IllegalArgumentException", s_1))) : Met l yL_cut [.codeWith yL_cut cL_cut 4 (some .int) [(0, 9, 12, 13)]] (xRk 7 112 1 6) (xPre D K [.ref (aU 0), .int p1, .ref ao] sz (w5 aU aX aY K U ++ (w3 aX K X ++ (w3 aY K Y ++ [(ao, .inl (K 3, 1, .inr (.inl J)))])))) (xQr D K (va_A (w5 aU aX aY K U ++ (w3 aX K X ++ (w3 aY K Y ++ [(ao, .inl (K 3, 1, .inr (.inl J)))]))) sz) (some (.int (1 : Int32))) (w5 aU aX aY K s_1.1 ++ (w3 aX K s_1.2.1 ++ (w3 aY K s_1.2.2 ++ [(ao, .inl (K 3, 1, .inr (.inl J)))])))) 1 6 (va_A (w5 aU aX aY K U ++ (w3 aX K X ++ (w3 aY K Y ++ [(ao, .inl (K 3, 1, .inr (.inl J)))]))) sz) := by
  refine hm_of (by decide +kernel) (Nat.le_of_ble_eq_true rfl) (fun p e s m args below meth c A C hP hD ls hl => ?_)
  have hl : lv_has ls 4 [(0, .ref (aU 0)), (1, .int p1), (2, .ref ao)] := hl
  have hS : va_S A s.heap s.heap [] := va_S.rf
  obtain ⟨hx, hb, hr, hml, hown, hK, hts, hA, hG, hlk, hte, hnm⟩ := id C
  refine lv_aload_n hx hb dL_cut_0 rfl (lv_at hl 2 rfl) ?_
  refine lv_iconst (v := (0 : Int32)) hx hb dL_cut_1 (by decide) ?_
  refine lv_aload_n hx hb dL_cut_2 rfl (lv_at hl 0 rfl) ?_
  refine lv_iload_n hx hb dL_cut_3 rfl (lv_at hl 1 rfl) ?_
  refine xc_Vc (name := "java/lang/IllegalArgumentException") (As := [.int p1]) (ws' := w5 aU aX aY K s_1.1 ++ (w3 aX K s_1.2.1 ++ (w3 aY K s_1.2.2 ++ [(ao, .inl (K 3, 1, .inr (.inl J)))]))) C (mX5_cut l hlt D K aU aX aY _ _ _ _ _ _ h) xgi_L_27 xd_X5_cut ⟨Nat.le_of_ble_eq_true rfl, Nat.le_of_ble_eq_true rfl⟩ ⟨Nat.le_of_ble_eq_true rfl, Nat.le_of_ble_eq_true rfl⟩ hl rfl (Nat.le_of_ble_eq_true rfl) dL_cut_4 hP hD hS 0 5 rfl rfl rfl [0, 1, 2, 3, 4, 5, 6, 7, 8, 9, 10, 11, 12, 13, 14, 15, 16, 17, 18, 19, 20, 21, 22, 23, 24, 25, 26, 27, 28, 29, 30, 31, 32, 33, 34, 35, 36, 37, 38, 39, 40, 41, 42] rfl rfl [(0, w5 aU aX aY K s_1.1), (37, w3 aX K s_1.2.1), (40, w3 aY K s_1.2.2)] rfl rfl rfl (List.forall_mem_cons.mpr ⟨Nat.le_of_ble_eq_true rfl, (List.forall_mem_cons.mpr ⟨Nat.le_of_ble_eq_true rfl, (List.forall_mem_cons.mpr ⟨Nat.le_of_ble_eq_true rfl, (fun _ h => absurd h List.not_mem_nil)⟩)⟩)⟩) [] ⟨0, 9, 12, 13⟩ [] rfl (fun z hz => absurd hz List.not_mem_nil) (by decide) (by decide) xw_200 xw_208 (fun q9 H locs hP hD hS => ?_)
  refine W.eq (g2 := F0 m 12 ls [.ref q9]) rfl ?_
  refine lv_astore_n (lv' := [(3, .ref q9), (0, .ref (aU 0)), (1, .int p1), (2, .ref ao)]) hx hb dL_cut_12 rfl hl (by decide) rfl (fun ls hl => ?_)
  refine lv_iconst (v := (1 : Int32)) hx hb dL_cut_13 (by decide) ?_
  exact he_i C hP hD hS (Nat.le_refl _) (Nat.le_refl _) dL_cut_14
set_option maxHeartbeats 4000000 in
set_option maxRecDepth 100000 in
theorem hL_unfold_ok (l : Launch) (hlt : l.stackTraces = false) (D : va_G) (K : Nat → ClassId) (aU aX aY : Nat → Nat) (ao : Nat) (sz : Nat) (U : S5) (X Y : S3) (J : Nat → Int64) (v_1 : Int32) (s_1 : S5 × S3 × S3) (h : fX5_unfold U X Y = some (.inr (v_1, s_1))) : Met l yL_unfold [.codeWith yL_unfold cL_unfold 3 (some .int) [(0, 8, 11, 13)]] (xRk 13 265 0 0) (xPre D K [.ref (aU 0), .ref ao] sz (w5 aU aX aY K U ++ (w3 aX K X ++ (w3 aY K Y ++ [(ao, .inl (K 3, 1, .inr (.inl J)))])))) (xQr D K (va_A (w5 aU aX aY K U ++ (w3 aX K X ++ (w3 aY K Y ++ [(ao, .inl (K 3, 1, .inr (.inl J)))]))) sz) (some (.int (0 : Int32))) (w5 aU aY aX K s_1.1 ++ (w3 aX K s_1.2.1 ++ (w3 aY K s_1.2.2 ++ [(ao, .inl (K 3, 1, .inr (.inl (vp_updL J ((0 : Int32)).toNatClampNeg v_1.toInt64))))])))) 0 0 (va_A (w5 aU aX aY K U ++ (w3 aX K X ++ (w3 aY K Y ++ [(ao, .inl (K 3, 1, .inr (.inl J)))]))) sz) := by
  refine hm_of (by decide +kernel) (Nat.le_of_ble_eq_true rfl) (fun p e s m args below meth c A C hP hD ls hl => ?_)
  have hl : lv_has ls 3 [(0, .ref (aU 0)), (1, .ref ao)] := hl
  have hS : va_S A s.heap s.heap [] := va_S.rf
  obtain ⟨hx, hb, hr, hml, hown, hK, hts, hA, hG, hlk, hte, hnm⟩ := id C
  refine lv_aload_n hx hb dL_unfold_0 rfl (lv_at hl 1 rfl) ?_
  refine lv_iconst (v := (0 : Int32)) hx hb dL_unfold_1 (by decide) ?_
  refine lv_aload_n hx hb dL_unfold_2 rfl (lv_at hl 0 rfl) ?_
  refine xc_V (As := []) (ws' := w5 aU aY aX K s_1.1 ++ (w3 aX K s_1.2.1 ++ (w3 aY K s_1.2.2 ++ [(ao, .inl (K 3, 1, .inr (.inl J)))]))) C (mX5_unfold l hlt D K aU aX aY _ _ _ _ _ h) xgi_L_31 xd_X5_unfold ⟨Nat.le_of_ble_eq_true rfl, Nat.le_of_ble_eq_true rfl⟩ ⟨Nat.le_of_ble_eq_true rfl, Nat.le_of_ble_eq_true rfl⟩ hl rfl (Nat.le_of_ble_eq_true rfl) dL_unfold_3 hP hD hS 0 5 rfl rfl rfl [0, 1, 2, 3, 4, 5, 6, 7, 8, 9, 10, 11, 12, 13, 14, 15, 16, 17, 18, 19, 20, 21, 22, 23, 24, 25, 26, 27, 28, 29, 30, 31, 32, 33, 34, 35, 36, 37, 38, 39, 40, 41, 42] rfl rfl [(0, w5 aU aY aX K s_1.1), (37, w3 aX K s_1.2.1), (40, w3 aY K s_1.2.2)] rfl rfl rfl (List.forall_mem_cons.mpr ⟨Nat.le_of_ble_eq_true rfl, (List.forall_mem_cons.mpr ⟨Nat.le_of_ble_eq_true rfl, (List.forall_mem_cons.mpr ⟨Nat.le_of_ble_eq_true rfl, (fun _ h => absurd h List.not_mem_nil)⟩)⟩)⟩) (fun H locs hP hD hS => ?_)
  refine W.eq (g2 := F0 m 6 ls [.int v_1, .int (0 : Int32), .ref ao]) rfl ?_
  refine lv_i2l (v := v_1.toInt64) hx hb dL_unfold_6 rfl ?_
  refine va_last hx hb hK hP hD hS 43 3 rfl rfl (by unfold vp_in; decide) dL_unfold_7 (fun H locs hP hD hS => ?_)
  have hP : va_P D vwCl (w5 aU aY aX K s_1.1 ++ (w3 aX K s_1.2.1 ++ (w3 aY K s_1.2.2 ++ [(ao, .inl (K 3, 1, .inr (.inl (vp_updL J ((0 : Int32)).toNatClampNeg v_1.toInt64))))]))) H := hP
  have hD : va_D A (w5 aU aY aX K s_1.1 ++ (w3 aX K s_1.2.1 ++ (w3 aY K s_1.2.2 ++ [(ao, .inl (K 3, 1, .inr (.inl (vp_updL J ((0 : Int32)).toNatClampNeg v_1.toInt64))))]))) := hD
  refine lv_goto (tgt := 14) hx hb dL_unfold_8 (by decide) ?_
  refine lv_iconst (v := (0 : Int32)) hx hb dL_unfold_14 (by decide) ?_
  exact he_i C hP hD hS (Nat.zero_le _) (Nat.zero_le _) dL_unfold_15
set_option maxHeartbeats 4000000 in
set_option maxRecDepth 100000 in
theorem hL_unfold_x1 (l : Launch) (hlt : l.stackTraces = false) (D : va_G) (K : Nat → ClassId) (aU aX aY : Nat → Nat) (ao : Nat) (sz : Nat) (U : S5) (X Y : S3) (J : Nat → Int64) (s_1 : S5 × S3 × S3) (h : fX5_unfold U X Y = some (.inl ("java/lang/IllegalArgumentException", s_1))) : Met l yL_unfold [.codeWith yL_unfold cL_unfold 3 (some .int) [(0, 8, 11, 13)]] (xRk 13 265 1 6) (xPre D K [.ref (aU 0), .ref ao] sz (w5 aU aX aY K U ++ (w3 aX K X ++ (w3 aY K Y ++ [(ao, .inl (K 3, 1, .inr (.inl J)))])))) (xQr D K (va_A (w5 aU aX aY K U ++ (w3 aX K X ++ (w3 aY K Y ++ [(ao, .inl (K 3, 1, .inr (.inl J)))]))) sz) (some (.int (1 : Int32))) (w5 aU aX aY K s_1.1 ++ (w3 aX K s_1.2.1 ++ (w3 aY K s_1.2.2 ++ [(ao, .inl (K 3, 1, .inr (.inl J)))])))) 1 6 (va_A (w5 aU aX aY K U ++ (w3 aX K X ++ (w3 aY K Y ++ [(ao, .inl (K 3, 1, .inr (.inl J)))]))) sz) := by
  refine hm_of (by decide +kernel) (Nat.le_of_ble_eq_true rfl) (fun p e s m args below meth c A C hP hD ls hl => ?_)
  have hl : lv_has ls 3 [(0, .ref (aU 0)), (1, .ref ao)] := hl
  have hS : va_S A s.heap s.heap [] := va_S.rf
  obtain ⟨hx, hb, hr, hml, hown, hK, hts, hA, hG, hlk, hte, hnm⟩ := id C
  refine lv_aload_n hx hb dL_unfold_0 rfl (lv_at hl 1 rfl) ?_
  refine lv_iconst (v := (0 : Int32)) hx hb dL_unfold_1 (by decide) ?_
  refine lv_aload_n hx hb dL_unfold_2 rfl (lv_at hl 0 rfl) ?_
  refine xc_Vc (name := "java/lang/IllegalArgumentException") (As := []) (ws' := w5 aU aX aY K s_1.1 ++ (w3 aX K s_1.2.1 ++ (w3 aY K s_1.2.2 ++ [(ao, .inl (K 3, 1, .inr (.inl J)))]))) C (mX5_unfold l hlt D K aU aX aY _ _ _ _ _ h) xgi_L_31 xd_X5_unfold ⟨Nat.le_of_ble_eq_true rfl, Nat.le_of_ble_eq_true rfl⟩ ⟨Nat.le_of_ble_eq_true rfl, Nat.le_of_ble_eq_true rfl⟩ hl rfl (Nat.le_of_ble_eq_true rfl) dL_unfold_3 hP hD hS 0 5 rfl rfl rfl [0, 1, 2, 3, 4, 5, 6, 7, 8, 9, 10, 11, 12, 13, 14, 15, 16, 17, 18, 19, 20, 21, 22, 23, 24, 25, 26, 27, 28, 29, 30, 31, 32, 33, 34, 35, 36, 37, 38, 39, 40, 41, 42] rfl rfl [(0, w5 aU aX aY K s_1.1), (37, w3 aX K s_1.2.1), (40, w3 aY K s_1.2.2)] rfl rfl rfl (List.forall_mem_cons.mpr ⟨Nat.le_of_ble_eq_true rfl, (List.forall_mem_cons.mpr ⟨Nat.le_of_ble_eq_true rfl, (List.forall_mem_cons.mpr ⟨Nat.le_of_ble_eq_true rfl, (fun _ h => absurd h List.not_mem_nil)⟩)⟩)⟩) [] ⟨0, 8, 11, 13⟩ [] rfl (fun z hz => absurd hz List.not_mem_nil) (by decide) (by decide) xw_200 xw_208 (fun q9 H locs hP hD hS => ?_)
  refine W.eq (g2 := F0 m 11 ls [.ref q9]) rfl ?_
  refine lv_astore_n (lv' := [(2, .ref q9), (0, .ref (aU 0)), (1, .ref ao)]) hx hb dL_unfold_11 rfl hl (by decide) rfl (fun ls hl => ?_)
  refine lv_iconst (v := (1 : Int32)) hx hb dL_unfold_12 (by decide) ?_
  exact he_i C hP hD hS (Nat.le_refl _) (Nat.le_refl _) dL_unfold_13
set_option maxHeartbeats 4000000 in
set_option maxRecDepth 100000 in
theorem hL_letter_ok (l : Launch) (hlt : l.stackTraces = false) (D : va_G) (K : Nat → ClassId) (aU aX aY : Nat → Nat) (ao : Nat) (sz : Nat) (U : S5) (X Y : S3) (J : Nat → Int64) (p1 : Int32) (v_1 : Int32) (s_1 : S5 × S3 × S3) (h : fX5_letter U X Y p1 = some (.inr (v_1, s_1))) : Met l yL_letter [.codeWith yL_letter cL_letter 4 (some .int) [(0, 9, 12, 21)]] (xRk 7 111 0 0) (xPre D K [.ref (aU 0), .int p1, .ref ao] sz (w5 aU aX aY K U ++ (w3 aX K X ++ (w3 aY K Y ++ [(ao, .inl (K 3, 1, .inr (.inl J)))])))) (xQr D K (va_A (w5 aU aX aY K U ++ (w3 aX K X ++ (w3 aY K Y ++ [(ao, .inl (K 3, 1, .inr (.inl J)))]))) sz) (some (.int (0 : Int32))) (w5 aU aX aY K s_1.1 ++ (w3 aX K s_1.2.1 ++ (w3 aY K s_1.2.2 ++ [(ao, .inl (K 3, 1, .inr (.inl (vp_updL J ((0 : Int32)).toNatClampNeg v_1.toInt64))))])))) 0 0 (va_A (w5 aU aX aY K U ++ (w3 aX K X ++ (w3 aY K Y ++ [(ao, .inl (K 3, 1, .inr (.inl J)))]))) sz) := by
  refine hm_of (by decide +kernel) (Nat.le_of_ble_eq_true rfl) (fun p e s m args below meth c A C hP hD ls hl => ?_)
  have hl : lv_has ls 4 [(0, .ref (aU 0)), (1, .int p1), (2, .ref ao)] := hl
  have hS : va_S A s.heap s.heap [] := va_S.rf
  obtain ⟨hx, hb, hr, hml, hown, hK, hts, hA, hG, hlk, hte, hnm⟩ := id C
  refine lv_aload_n hx hb dL_letter_0 rfl (lv_at hl 2 rfl) ?_
  refine lv_iconst (v := (0 : Int32)) hx hb dL_letter_1 (by decide) ?_
  refine lv_aload_n hx hb dL_letter_2 rfl (lv_at hl 0 rfl) ?_
  refine lv_iload_n hx hb dL_letter_3 rfl (lv_at hl 1 rfl) ?_
  refine xc_V (As := [.int p1]) (ws' := w5 aU aX aY K s_1.1 ++ (w3 aX K s_1.2.1 ++ (w3 aY K s_1.2.2 ++ [(ao, .inl (K 3, 1, .inr (.inl J)))]))) C (mX5_letter l hlt D K aU aX aY _ _ _ _ _ _ h) xgi_L_35 xd_X5_letter ⟨Nat.le_of_ble_eq_true rfl, Nat.le_of_ble_eq_true rfl⟩ ⟨Nat.le_of_ble_eq_true rfl, Nat.le_of_ble_eq_true rfl⟩ hl rfl (Nat.le_of_ble_eq_true rfl) dL_letter_4 hP hD hS 0 5 rfl rfl rfl [0, 1, 2, 3, 4, 5, 6, 7, 8, 9, 10, 11, 12, 13, 14, 15, 16, 17, 18, 19, 20, 21, 22, 23, 24, 25, 26, 27, 28, 29, 30, 31, 32, 33, 34, 35, 36, 37, 38, 39, 40, 41, 42] rfl rfl [(0, w5 aU aX aY K s_1.1), (37, w3 aX K s_1.2.1), (40, w3 aY K s_1.2.2)] rfl rfl rfl (List.forall_mem_cons.mpr ⟨Nat.le_of_ble_eq_true rfl, (List.forall_mem_cons.mpr ⟨Nat.le_of_ble_eq_true rfl, (List.forall_mem_cons.mpr ⟨Nat.le_of_ble_eq_true rfl, (fun _ h => absurd h List.not_mem_nil)⟩)⟩)⟩) (fun H locs hP hD hS => ?_)
  refine W.eq (g2 := F0 m 7 ls [.int v_1, .int (0 : Int32), .ref ao]) rfl ?_
  refine lv_i2l (v := v_1.toInt64) hx hb dL_letter_7 rfl ?_
  refine va_last hx hb hK hP hD hS 43 3 rfl rfl (by unfold vp_in; decide) dL_letter_8 (fun H locs hP hD hS => ?_)
  have hP : va_P D vwCl (w5 aU aX aY K s_1.1 ++ (w3 aX K s_1.2.1 ++ (w3 aY K s_1.2.2 ++ [(ao, .inl (K 3, 1, .inr (.inl (vp_updL J ((0 : Int32)).toNatClampNeg v_1.toInt64))))]))) H := hP
  have hD : va_D A (w5 aU aX aY K s_1.1 ++ (w3 aX K s_1.2.1 ++ (w3 aY K s_1.2.2 ++ [(ao, .inl (K 3, 1, .inr (.inl (vp_updL J ((0 : Int32)).toNatClampNeg v_1.toInt64))))]))) := hD
  refine lv_goto (tgt := 15) hx hb dL_letter_9 (by decide) ?_
  refine lv_iconst (v := (0 : Int32)) hx hb dL_letter_15 (by decide) ?_
  exact he_i C hP hD hS (Nat.zero_le _) (Nat.zero_le _) dL_letter_16
set_option maxHeartbeats 4000000 in
set_option maxRecDepth 100000 in
theorem hL_letter_x1 (l : Launch) (hlt : l.stackTraces = false) (D : va_G) (K : Nat → ClassId) (aU aX aY : Nat → Nat) (ao : Nat) (sz : Nat) (U : S5) (X Y : S3) (J : Nat → Int64) (p1 : Int32) (s_1 : S5 × S3 × S3) (h : fX5_letter U X Y p1 = some (.inl ("java/lang/IndexOutOfBoundsException", s_1))) : Met l yL_letter [.codeWith yL_letter cL_letter 4 (some .int) [(0, 9, 12, 21)]] (xRk 7 111 1 6) (xPre D K [.ref (aU 0), .int p1, .ref ao] sz (w5 aU aX aY K U ++ (w3 aX K X ++ (w3 aY K Y ++ [(ao, .inl (K 3, 1, .inr (.inl J)))])))) (xQr D K (va_A (w5 aU aX aY K U ++ (w3 aX K X ++ (w3 aY K Y ++ [(ao, .inl (K 3, 1, .inr (.inl J)))]))) sz) (some (.int (1 : Int32))) (w5 aU aX aY K s_1.1 ++ (w3 aX K s_1.2.1 ++ (w3 aY K s_1.2.2 ++ [(ao, .inl (K 3, 1, .inr (.inl J)))])))) 1 6 (va_A (w5 aU aX aY K U ++ (w3 aX K X ++ (w3 aY K Y ++ [(ao, .inl (K 3, 1, .inr (.inl J)))]))) sz) := by
  refine hm_of (by decide +kernel) (Nat.le_of_ble_eq_true rfl) (fun p e s m args below meth c A C hP hD ls hl => ?_)
  have hl : lv_has ls 4 [(0, .ref (aU 0)), (1, .int p1), (2, .ref ao)] := hl
  have hS : va_S A s.heap s.heap [] := va_S.rf
  obtain ⟨hx, hb, hr, hml, hown, hK, hts, hA, hG, hlk, hte, hnm⟩ := id C
  refine lv_aload_n hx hb dL_letter_0 rfl (lv_at hl 2 rfl) ?_
  refine lv_iconst (v := (0 : Int32)) hx hb dL_letter_1 (by decide) ?_
  refine lv_aload_n hx hb dL_letter_2 rfl (lv_at hl 0 rfl) ?_
  refine lv_iload_n hx hb dL_letter_3 rfl (lv_at hl 1 rfl) ?_
  refine xc_Vc (name := "java/lang/IndexOutOfBoundsException") (As := [.int p1]) (ws' := w5 aU aX aY K s_1.1 ++ (w3 aX K s_1.2.1 ++ (w3 aY K s_1.2.2 ++ [(ao, .inl (K 3, 1, .inr (.inl J)))]))) C (mX5_letter l hlt D K aU aX aY _ _ _ _ _ _ h) xgi_L_35 xd_X5_letter ⟨Nat.le_of_ble_eq_true rfl, Nat.le_of_ble_eq_true rfl⟩ ⟨Nat.le_of_ble_eq_true rfl, Nat.le_of_ble_eq_true rfl⟩ hl rfl (Nat.le_of_ble_eq_true rfl) dL_letter_4 hP hD hS 0 5 rfl rfl rfl [0, 1, 2, 3, 4, 5, 6, 7, 8, 9, 10, 11, 12, 13, 14, 15, 16, 17, 18, 19, 20, 21, 22, 23, 24, 25, 26, 27, 28, 29, 30, 31, 32, 33, 34, 35, 36, 37, 38, 39, 40, 41, 42] rfl rfl [(0, w5 aU aX aY K s_1.1), (37, w3 aX K s_1.2.1), (40, w3 aY K s_1.2.2)] rfl rfl rfl (List.forall_mem_cons.mpr ⟨Nat.le_of_ble_eq_true rfl, (List.forall_mem_cons.mpr ⟨Nat.le_of_ble_eq_true rfl, (List.forall_mem_cons.mpr ⟨Nat.le_of_ble_eq_true rfl, (fun _ h => absurd h List.not_mem_nil)⟩)⟩)⟩) [] ⟨0, 9, 12, 21⟩ [] rfl (fun z hz => absurd hz List.not_mem_nil) (by decide) (by decide) xw_298 xw_305 (fun q9 H locs hP hD hS => ?_)
  refine W.eq (g2 := F0 m 12 ls [.ref q9]) rfl ?_
  refine lv_astore_n (lv' := [(3, .ref q9), (0, .ref (aU 0)), (1, .int p1), (2, .ref ao)]) hx hb dL_letter_12 rfl hl (by decide) rfl (fun ls hl => ?_)
  refine lv_iconst (v := (1 : Int32)) hx hb dL_letter_13 (by decide) ?_
  exact he_i C hP hD hS (Nat.le_refl _) (Nat.le_refl _) dL_letter_14
set_option maxHeartbeats 4000000 in
set_option maxRecDepth 100000 in
theorem hL_count_ok (l : Launch) (hlt : l.stackTraces = false) (D : va_G) (K : Nat → ClassId) (aU aX aY : Nat → Nat) (ao : Nat) (sz : Nat) (U : S5) (X Y : S3) (J : Nat → Int64) (p1 : Int32) (v_1 : Int32) (s_1 : S5 × S3 × S3) (h : fX5_count U X Y p1 = some (.inr (v_1, s_1))) : Met l yL_count [.codeWith yL_count cL_count 4 (some .int) [(0, 9, 12, 13)]] (xRk 7 111 0 0) (xPre D K [.ref (aU 0), .int p1, .ref ao] sz (w5 aU aX aY K U ++ (w3 aX K X ++ (w3 aY K Y ++ [(ao, .inl (K 3, 1, .inr (.inl J)))])))) (xQr D K (va_A (w5 aU aX aY K U ++ (w3 aX K X ++ (w3 aY K Y ++ [(ao, .inl (K 3, 1, .inr (.inl J)))]))) sz) (some (.int (0 : Int32))) (w5 aU aX aY K s_1.1 ++ (w3 aX K s_1.2.1 ++ (w3 aY K s_1.2.2 ++ [(ao, .inl (K 3, 1, .inr (.inl (vp_updL J ((0 : Int32)).toNatClampNeg v_1.toInt64))))])))) 0 0 (va_A (w5 aU aX aY K U ++ (w3 aX K X ++ (w3 aY K Y ++ [(ao, .inl (K 3, 1, .inr (.inl J)))]))) sz) := by
  refine hm_of (by decide +kernel) (Nat.le_of_ble_eq_true rfl) (fun p e s m args below meth c A C hP hD ls hl => ?_)
  have hl : lv_has ls 4 [(0, .ref (aU 0)), (1, .int p1), (2, .ref ao)] := hl
  have hS : va_S A s.heap s.heap [] := va_S.rf
  obtain ⟨hx, hb, hr, hml, hown, hK, hts, hA, hG, hlk, hte, hnm⟩ := id C
  refine lv_aload_n hx hb dL_count_0 rfl (lv_at hl 2 rfl) ?_
  refine lv_iconst (v := (0 : Int32)) hx hb dL_count_1 (by decide) ?_
  refine lv_aload_n hx hb dL_count_2 rfl (lv_at hl 0 rfl) ?_
  refine lv_iload_n hx hb dL_count_3 rfl (lv_at hl 1 rfl) ?_
  refine xc_V (As := [.int p1]) (ws' := w5 aU aX aY K s_1.1 ++ (w3 aX K s_1.2.1 ++ (w3 aY K s_1.2.2 ++ [(ao, .inl (K 3, 1, .inr (.inl J)))]))) C (mX5_count l hlt D K aU aX aY _ _ _ _ _ _ h) xgi_L_38 xd_X5_count ⟨Nat.le_of_ble_eq_true rfl, Nat.le_of_ble_eq_true rfl⟩ ⟨Nat.le_of_ble_eq_true rfl, Nat.le_of_ble_eq_true rfl⟩ hl rfl (Nat.le_of_ble_eq_true rfl) dL_count_4 hP hD hS 0 5 rfl rfl rfl [0, 1, 2, 3, 4, 5, 6, 7, 8, 9, 10, 11, 12, 13, 14, 15, 16, 17, 18, 19, 20, 21, 22, 23, 24, 25, 26, 27, 28, 29, 30, 31, 32, 33, 34, 35, 36, 37, 38, 39, 40, 41, 42] rfl rfl [(0, w5 aU aX aY K s_1.1), (37, w3 aX K s_1.2.1), (40, w3 aY K s_1.2.2)] rfl rfl rfl (List.forall_mem_cons.mpr ⟨Nat.le_of_ble_eq_true rfl, (List.forall_mem_cons.mpr ⟨Nat.le_of_ble_eq_true rfl, (List.forall_mem_cons.mpr ⟨Nat.le_of_ble_eq_true rfl, (fun _ h => absurd h List.not_mem_nil)⟩)⟩)⟩) (fun H locs hP hD hS => ?_)
  refine W.eq (g2 := F0 m 7 ls [.int v_1, .int (0 : Int32), .ref ao]) rfl ?_
  refine lv_i2l (v := v_1.toInt64) hx hb dL_count_7 rfl ?_
  refine va_last hx hb hK hP hD hS 43 3 rfl rfl (by unfold vp_in; decide) dL_count_8 (fun H locs hP hD hS => ?_)
  have hP : va_P D vwCl (w5 aU aX aY K s_1.1 ++ (w3 aX K s_1.2.1 ++ (w3 aY K s_1.2.2 ++ [(ao, .inl (K 3, 1, .inr (.inl (vp_updL J ((0 : Int32)).toNatClampNeg v_1.toInt64))))]))) H := hP
  have hD : va_D A (w5 aU aX aY K s_1.1 ++ (w3 aX K s_1.2.1 ++ (w3 aY K s_1.2.2 ++ [(ao, .inl (K 3, 1, .inr (.inl (vp_updL J ((0 : Int32)).toNatClampNeg v_1.toInt64))))]))) := hD
  refine lv_goto (tgt := 15) hx hb dL_count_9 (by decide) ?_
  refine lv_iconst (v := (0 : Int32)) hx hb dL_count_15 (by decide) ?_
  exact he_i C hP hD hS (Nat.zero_le _) (Nat.zero_le _) dL_count_16
set_option maxHeartbeats 4000000 in
set_option maxRecDepth 100000 in
theorem hL_count_x1 (l : Launch) (hlt : l.stackTraces = false) (D : va_G) (K : Nat → ClassId) (aU aX aY : Nat → Nat) (ao : Nat) (sz : Nat) (U : S5) (X Y : S3) (J : Nat → Int64) (p1 : Int32) (s_1 : S5 × S3 × S3) (h : fX5_count U X Y p1 = some (.inl ("java/lang/IllegalArgumentException", s_1))) : Met l yL_count [.codeWith yL_count cL_count 4 (some .int) [(0, 9, 12, 13)]] (xRk 7 111 1 6) (xPre D K [.ref (aU 0), .int p1, .ref ao] sz (w5 aU aX aY K U ++ (w3 aX K X ++ (w3 aY K Y ++ [(ao, .inl (K 3, 1, .inr (.inl J)))])))) (xQr D K (va_A (w5 aU aX aY K U ++ (w3 aX K X ++ (w3 aY K Y ++ [(ao, .inl (K 3, 1, .inr (.inl J)))]))) sz) (some (.int (1 : Int32))) (w5 aU aX aY K s_1.1 ++ (w3 aX K s_1.2.1 ++ (w3 aY K s_1.2.2 ++ [(ao, .inl (K 3, 1, .inr (.inl J)))])))) 1 6 (va_A (w5 aU aX aY K U ++ (w3 aX K X ++ (w3 aY K Y ++ [(ao, .inl (K 3, 1, .inr (.inl J)))]))) sz) := by
  refine hm_of (by decide +kernel) (Nat.le_of_ble_eq_true rfl) (fun p e s m args below meth c A C hP hD ls hl => ?_)
  have hl : lv_has ls 4 [(0, .ref (aU 0)), (1, .int p1), (2, .ref ao)] := hl
  have hS : va_S A s.heap s.heap [] := va_S.rf
  obtain ⟨hx, hb, hr, hml, hown, hK, hts, hA, hG, hlk, hte, hnm⟩ := id C
  refine lv_aload_n hx hb dL_count_0 rfl (lv_at hl 2 rfl) ?_
  refine lv_iconst (v := (0 : Int32)) hx hb dL_count_1 (by decide) ?_
  refine lv_aload_n hx hb dL_count_2 rfl (lv_at hl 0 rfl) ?_
  refine lv_iload_n hx hb dL_count_3 rfl (lv_at hl 1 rfl) ?_
  refine xc_Vc (name := "java/lang/IllegalArgumentException") (As := [.int p1]) (ws' := w5 aU aX aY K s_1.1 ++ (w3 aX K s_1.2.1 ++ (w3 aY K s_1.2.2 ++ [(ao, .inl (K 3, 1, .inr (.inl J)))]))) C (mX5_count l hlt D K aU aX aY _ _ _ _ _ _ h) xgi_L_38 xd_X5_count ⟨Nat.le_of_ble_eq_true rfl, Nat.le_of_ble_eq_true rfl⟩ ⟨Nat.le_of_ble_eq_true rfl, Nat.le_of_ble_eq_true rfl⟩ hl rfl (Nat.le_of_ble_eq_true rfl) dL_count_4 hP hD hS 0 5 rfl rfl rfl [0, 1, 2, 3, 4, 5, 6, 7, 8, 9, 10, 11, 12, 13, 14, 15, 16, 17, 18, 19, 20, 21, 22, 23, 24, 25, 26, 27, 28, 29, 30, 31, 32, 33, 34, 35, 36, 37, 38, 39, 40, 41, 42] rfl rfl [(0, w5 aU aX aY K s_1.1), (37, w3 aX K s_1.2.1), (40, w3 aY K s_1.2.2)] rfl rfl rfl (List.forall_mem_cons.mpr ⟨Nat.le_of_ble_eq_true rfl, (List.forall_mem_cons.mpr ⟨Nat.le_of_ble_eq_true rfl, (List.forall_mem_cons.mpr ⟨Nat.le_of_ble_eq_true rfl, (fun _ h => absurd h List.not_mem_nil)⟩)⟩)⟩) [] ⟨0, 9, 12, 13⟩ [] rfl (fun z hz => absurd hz List.not_mem_nil) (by decide) (by decide) xw_200 xw_208 (fun q9 H locs hP hD hS => ?_)
  refine W.eq (g2 := F0 m 12 ls [.ref q9]) rfl ?_
  refine lv_astore_n (lv' := [(3, .ref q9), (0, .ref (aU 0)), (1, .int p1), (2, .ref ao)]) hx hb dL_count_12 rfl hl (by decide) rfl (fun ls hl => ?_)
  refine lv_iconst (v := (1 : Int32)) hx hb dL_count_13 (by decide) ?_
  exact he_i C hP hD hS (Nat.le_refl _) (Nat.le_refl _) dL_count_14
