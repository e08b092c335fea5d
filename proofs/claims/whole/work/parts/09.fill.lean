abbrev oJ7_fill_53178 (aF : Nat) (N : Nat) (K : Nat → ClassId) (q : Unit × ((Nat → Int32))) : xO := .inr (none, [(aF, .inl (K 0, N, .inl q.2))])
def fJ7_fill_53178_5 (N : Nat) : Nat → (Nat → Int32) → Int32 → Int32 → Int32 → Option (Unit × ((Nat → Int32)))
  | 0 => fun _ _ _ _ => none
  | fu + 1 => fun F x1 x2 x3 => (if x3 ≤ x2 then some ((), F) else (if x2 < 0 ∨ N ≤ (x2).toNatClampNeg then none else fJ7_fill_53178_5 N fu (upd F (x2).toNatClampNeg x1) x1 (x2 + (1 : Int32)) x3))
def fJ7_fill_53178 (N : Nat) (F : (Nat → Int32)) (p1 : Int32) : Option (Unit × ((Nat → Int32))) := fJ7_fill_53178_5 N xF F p1 (0 : Int32) (Int32.ofNat N)
set_option maxHeartbeats 4000000 in
set_option maxRecDepth 100000 in
theorem kJ7_fill_53178_5 {p : Program} {l : Launch} {e : Env} {s : State} {m : MethodId} {args : Array Value} {below : List Frame} {meth : Method} {c : Code} {D : va_G} {K : Nat → ClassId} {A : Nat → Prop} {aF : Nat} {N : Nat} (C : xC p s m args meth c cJ7_fill_53178 4 none yJ7_fill_53178 D K A []) : ∀ fu : Nat, ∀ (F : (Nat → Int32)) (x1 : Int32) (x2 : Int32) (x3 : Int32) (r : Unit × ((Nat → Int32))), fJ7_fill_53178_5 N fu F x1 x2 x3 = some r → ∀ (H : Heap) (locs : List Loc) (ls : Array Slot), va_P D vwCl ([(aF, .inl (K 0, N, .inl F))]) H → va_D A ([(aF, .inl (K 0, N, .inl F))]) → va_S A s.heap H locs → lv_has ls 4 [(0, .ref aF), (1, .int x1), (2, .int x2), (3, .int x3)] → W p l e (xR 0 0 (oJ7_fill_53178 aF N K r)) s m args below meth c H locs 0 0 (xQ below args s D K A (oJ7_fill_53178 aF N K r)) (F0 m 5 ls []) := by
  obtain ⟨hx, hb, hr, hml, hown, hK, hts, hA, hG, hlk, hte, hnm⟩ := id C
  intro fu
  induction fu with
  | zero =>
    intro F x1 x2 x3 r h
    exact nomatch (show (none : Option (Unit × ((Nat → Int32)))) = some r from h)
  | succ fu ih =>
    intro F x1 x2 x3 r h H locs ls hP hD hS hl
    replace h : (if x3 ≤ x2 then some ((), F) else (if x2 < 0 ∨ N ≤ (x2).toNatClampNeg then none else fJ7_fill_53178_5 N fu (upd F (x2).toNatClampNeg x1) x1 (x2 + (1 : Int32)) x3)) = some r := h
    refine lv_iload_n hx hb dJ7_fill_53178_5 rfl (lv_at hl 2 rfl) ?_
    refine lv_iload_n hx hb dJ7_fill_53178_6 rfl (lv_at hl 3 rfl) ?_
    refine lv_icmp_ge (tgt := 20) hx hb dJ7_fill_53178_7 (by decide) (fun c9 => ?_) (fun c9 => ?_)
    · replace h := xi_t c9 h
      obtain rfl := Option.some.inj h
      exact xe_v C hP hD hS dJ7_fill_53178_20
    · replace h := xi_f c9 h
      refine lv_aload_n hx hb dJ7_fill_53178_10 rfl (lv_at hl 0 rfl) ?_
      refine lv_iload_n hx hb dJ7_fill_53178_11 rfl (lv_at hl 2 rfl) ?_
      refine lv_iload_n hx hb dJ7_fill_53178_12 rfl (lv_at hl 1 rfl) ?_
      obtain ⟨hi9, h⟩ := xi_g h
      refine va_iast hx hb hK hP hD hS 0 0 rfl rfl hi9 dJ7_fill_53178_13 (fun H locs hP hD hS => ?_)
      have hP : va_P D vwCl ([(aF, .inl (K 0, N, .inl (upd F (x2).toNatClampNeg x1)))]) H := hP
      have hD : va_D A ([(aF, .inl (K 0, N, .inl (upd F (x2).toNatClampNeg x1)))]) := hD
      refine lv_iinc (v := (x2 + (1 : Int32))) (lv' := [(2, .int (x2 + (1 : Int32))), (0, .ref aF), (1, .int x1), (3, .int x3)]) hx hb dJ7_fill_53178_14 hl (k := 2) rfl (by rfl) (by decide) rfl (fun ls hl => ?_)
      refine lv_goto (tgt := 5) hx hb dJ7_fill_53178_17 (by decide) ?_
      exact ih _ _ _ _ _ h _ _ _ hP hD hS (lv_sub hl [1, 2, 0, 3] rfl)
set_option maxHeartbeats 4000000 in
set_option maxRecDepth 100000 in
theorem mJ7_fill_53178 (l : Launch) (D : va_G) (K : Nat → ClassId) (aF : Nat) (N : Nat) (sz : Nat) (F : (Nat → Int32)) (p1 : Int32) (r : Unit × ((Nat → Int32))) (h : fJ7_fill_53178 N F p1 = some r) : xMet l yJ7_fill_53178 cJ7_fill_53178 4 none 0 0 D K [.ref aF, .int p1] sz ([(aF, .inl (K 0, N, .inl F))]) (oJ7_fill_53178 aF N K r) := by
  refine xm_of _ (by decide +kernel) (Nat.le_of_ble_eq_true rfl) (fun p e s m args below meth c A C hP hD ls hl => ?_)
  have hl : lv_has ls 4 [(0, .ref aF), (1, .int p1)] := hl
  have hS : va_S A s.heap s.heap [] := va_S.rf
  obtain ⟨hx, hb, hr, hml, hown, hK, hts, hA, hG, hlk, hte, hnm⟩ := id C
  replace h : fJ7_fill_53178_5 N xF F p1 (0 : Int32) (Int32.ofNat N) = some r := h
  refine lv_iconst (v := (0 : Int32)) hx hb dJ7_fill_53178_0 (by decide) ?_
  refine lv_istore_n (lv' := [(2, .int (0 : Int32)), (0, .ref aF), (1, .int p1)]) hx hb dJ7_fill_53178_1 rfl hl (by decide) rfl (fun ls hl => ?_)
  refine lv_aload_n hx hb dJ7_fill_53178_2 rfl (lv_at hl 1 rfl) ?_
  refine va_alen hx hb hK hP 0 0 rfl rfl (v := (Int32.ofNat N)) rfl dJ7_fill_53178_3 ?_
  refine lv_istore_n (lv' := [(3, .int (Int32.ofNat N)), (2, .int (0 : Int32)), (0, .ref aF), (1, .int p1)]) hx hb dJ7_fill_53178_4 rfl hl (by decide) rfl (fun ls hl => ?_)
  exact kJ7_fill_53178_5 C _ _ _ _ _ _ h _ _ _ hP hD hS (lv_sub hl [2, 3, 1, 0] rfl)
