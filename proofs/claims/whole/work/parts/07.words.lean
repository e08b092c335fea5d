/-! Small rows for the walks by program: branches, places, calls of the functions f_.. -/
theorem xi_t {α : Type} {c : Prop} [Decidable c] {a b : Option α} {r : α} (hc : c) (h : (if c then a else b) = some r) : a = some r := (if_pos hc).symm.trans h
theorem xi_f {α : Type} {c : Prop} [Decidable c] {a b : Option α} {r : α} (hc : ¬ c) (h : (if c then a else b) = some r) : b = some r := (if_neg hc).symm.trans h
theorem xi_g {α : Type} {i : Int32} {n : Nat} {a : Option α} {r : α} (h : (if i < 0 ∨ n ≤ i.toNatClampNeg then none else a) = some r) : vp_in i n ∧ a = some r := by
  by_cases hc : i < 0 ∨ n ≤ i.toNatClampNeg
  · rw [if_pos hc] at h
    cases h
  · rw [if_neg hc] at h
    exact ⟨hc, h⟩
theorem xi_n {α : Type} {y : Int32} {a : Option α} {r : α} (h : (if y = 0 then none else a) = some r) : ¬ y = 0 ∧ a = some r := by
  by_cases hc : y = 0
  · rw [if_pos hc] at h
    cases h
  · rw [if_neg hc] at h
    exact ⟨hc, h⟩
theorem xi_b {α : Type} {x : Int32} {a : Option α} {r : α} (h : (if x = 0 ∨ x = 1 then a else none) = some r) : (narrow .boolean (.int x) = .int x ∧ fits .boolean (.int x) = true) ∧ a = some r := by
  by_cases hc : x = 0 ∨ x = 1
  · rw [if_pos hc] at h
    refine ⟨?_, h⟩
    rcases hc with rfl | rfl
    · exact ⟨rfl, rfl⟩
    · exact ⟨rfl, rfl⟩
  · rw [if_neg hc] at h
    cases h
def xbnd {σ ρ τ : Type} (x : Option ((String × σ) ⊕ (ρ × σ))) (kx : String → σ → τ) (k : ρ → σ → Option τ) : Option τ := match x with
  | none => none
  | some (.inl q) => some (kx q.1 q.2)
  | some (.inr q) => k q.1 q.2
def xbnd0 {σ ρ τ : Type} (x : Option (ρ × σ)) (k : ρ → σ → Option τ) : Option τ := match x with
  | none => none
  | some q => k q.1 q.2
theorem xi_c {σ ρ τ : Type} {x : Option ((String × σ) ⊕ (ρ × σ))} {kx : String → σ → τ} {k : ρ → σ → Option τ} {r : τ} (h : xbnd x kx k = some r) : (∃ E s, x = some (.inl (E, s)) ∧ kx E s = r) ∨ ∃ v s, x = some (.inr (v, s)) ∧ k v s = some r := by
  match x, h with
  | some (.inl (E, s)), h => exact Or.inl ⟨E, s, rfl, Option.some.inj h⟩
  | some (.inr (v, s)), h => exact Or.inr ⟨v, s, rfl, h⟩
theorem xi_d {σ ρ τ : Type} {x : Option (ρ × σ)} {k : ρ → σ → Option τ} {r : τ} (h : xbnd0 x k = some r) : ∃ v s, x = some (v, s) ∧ k v s = some r := by
  match x, h with
  | some (v, s), h => exact ⟨v, s, rfl, h⟩
/-- how often a loop may turn -/
def xF : Nat := 4096
theorem xi_sw3 {x : Int32} (h0 : ¬ x = (0 : Int32)) (h1 : ¬ x = (1 : Int32)) (h2 : ¬ x = (2 : Int32)) : x.toInt < 0 ∨ 2 < x.toInt := by
  have e0 : x.toInt ≠ 0 := fun e => h0 (Int32.toInt_inj.mp (by rw [e]; rfl))
  have e1 : x.toInt ≠ 1 := fun e => h1 (Int32.toInt_inj.mp (by rw [e]; rfl))
  have e2 : x.toInt ≠ 2 := fun e => h2 (Int32.toInt_inj.mp (by rw [e]; rfl))
  omega
theorem xf_IllegalArgumentException : Bundle.fit "java/lang/IllegalArgumentException" = true := by decide +kernel
theorem xf_IllegalStateException : Bundle.fit "java/lang/IllegalStateException" = true := by decide +kernel
theorem xf_IndexOutOfBoundsException : Bundle.fit "java/lang/IndexOutOfBoundsException" = true := by decide +kernel
theorem xf_names : ∀ n ∈ (["java/lang/RuntimeException", "java/lang/Exception"] : List String), Bundle.fit n = true := by decide +kernel

abbrev S4 : Type := (Nat → Int32) × Int32 × Int32
abbrev w4 (a : Nat → Nat) (K : Nat → ClassId) (S : S4) : va_W := [(a 0, .inr (4, [.ref (a 1), .int S.2.1, .int S.2.2])), (a 1, .inl (K 1, 2000, .inl S.1))]
abbrev S3 : Type := (Nat → Int32) × (Nat → Int32) × Int32
abbrev w3 (a : Nat → Nat) (K : Nat → ClassId) (S : S3) : va_W := [(a 0, .inr (3, [.ref (a 1), .ref (a 2), .int S.2.2])), (a 1, .inl (K 0, 400, .inl S.1)), (a 2, .inl (K 0, 9, .inl S.2.1))]
abbrev S1 : Type := (Nat → Int32) × (Nat → Int32) × (Nat → Int32)
abbrev w1 (a : Nat → Nat) (K : Nat → ClassId) (S : S1) : va_W := [(a 0, .inr (1, [.ref (a 1), .ref (a 2), .ref (a 3)])), (a 1, .inl (K 0, 32, .inl S.1)), (a 2, .inl (K 0, 32, .inl S.2.1)), (a 3, .inl (K 0, 8, .inl S.2.2))]
abbrev S2 : Type := S1 × S1 × S1 × S1 × S1 × (Nat → Int32) × (Nat → Int32) × (Nat → Int32) × Int32 × Int32 × Int32 × Int32
abbrev w2 (a : Nat → Nat) (K : Nat → ClassId) (S : S2) : va_W := [(a 0, .inr (2, [.ref (a 1), .ref (a 5), .ref (a 22), .ref (a 23), .ref (a 24), .int S.2.2.2.2.2.2.2.2.1, .int S.2.2.2.2.2.2.2.2.2.1, .int S.2.2.2.2.2.2.2.2.2.2.1, .int S.2.2.2.2.2.2.2.2.2.2.2]))] ++ w1 (fun i => a (i + 1)) K S.1 ++ [(a 5, .inl (K 2, 4, .inr (.inr (.inr (.inr (fun j => some (a (4 * j + 6))))))))] ++ w1 (fun i => a (i + 6)) K S.2.1 ++ w1 (fun i => a (i + 10)) K S.2.2.1 ++ w1 (fun i => a (i + 14)) K S.2.2.2.1 ++ w1 (fun i => a (i + 18)) K S.2.2.2.2.1 ++ [(a 22, .inl (K 0, 3, .inl S.2.2.2.2.2.1))] ++ [(a 23, .inl (K 0, 12, .inl S.2.2.2.2.2.2.1))] ++ [(a 24, .inl (K 0, 4, .inl S.2.2.2.2.2.2.2.1))]
abbrev S0 : Type := S2 × S1 × S1 × Int32
abbrev w0 (a : Nat → Nat) (K : Nat → ClassId) (S : S0) : va_W := [(a 0, .inr (0, [.ref (a 1), .ref (a 26), .ref (a 30), .int S.2.2.2]))] ++ w2 (fun i => a (i + 1)) K S.1 ++ w1 (fun i => a (i + 26)) K S.2.1 ++ w1 (fun i => a (i + 30)) K S.2.2.1
abbrev S5 : Type := S4 × S0 × S3 × S3
abbrev w5 (a : Nat → Nat) (K : Nat → ClassId) (S : S5) : va_W := [(a 0, .inr (5, [.ref (a 1), .ref (a 3), .ref (a 37), .ref (a 40)]))] ++ w4 (fun i => a (i + 1)) K S.1 ++ w0 (fun i => a (i + 3)) K S.2.1 ++ w3 (fun i => a (i + 37)) K S.2.2.1 ++ w3 (fun i => a (i + 40)) K S.2.2.2
abbrev S6 : Type := Int32 × Int32 × (Nat → Int32) × Int32 × Int32 × Int32 × (Nat → Int32) × Int32 × (Nat → Int32) × (Nat → Int32) × (Nat → Int32) × (Nat → Int32) × (Nat → Int32) × (Nat → Int32) × Int32 × Int32 × Int32 × Int32 × (Nat → Int32) × (Nat → Int32) × (Nat → Int32)
abbrev w6 (a : Nat → Nat) (K : Nat → ClassId) (S : S6) : va_W := [(a 0, .inr (6, [.int S.1, .int S.2.1, .ref (a 1), .int S.2.2.2.1, .int S.2.2.2.2.1, .int S.2.2.2.2.2.1, .ref (a 2), .int S.2.2.2.2.2.2.2.1, .ref (a 3), .ref (a 4), .ref (a 5), .ref (a 6), .ref (a 7), .ref (a 8), .int S.2.2.2.2.2.2.2.2.2.2.2.2.2.2.1, .int S.2.2.2.2.2.2.2.2.2.2.2.2.2.2.2.1, .int S.2.2.2.2.2.2.2.2.2.2.2.2.2.2.2.2.1, .int S.2.2.2.2.2.2.2.2.2.2.2.2.2.2.2.2.2.1, .ref (a 9), .ref (a 10), .ref (a 11)])), (a 1, .inl (K 1, 2000, .inl S.2.2.1)), (a 2, .inl (K 0, 400, .inl S.2.2.2.2.2.2.1)), (a 3, .inl (K 0, 400, .inl S.2.2.2.2.2.2.2.2.1)), (a 4, .inl (K 0, 9, .inl S.2.2.2.2.2.2.2.2.2.1)), (a 5, .inl (K 0, 9, .inl S.2.2.2.2.2.2.2.2.2.2.1)), (a 6, .inl (K 0, 224, .inl S.2.2.2.2.2.2.2.2.2.2.2.1)), (a 7, .inl (K 0, 7, .inl S.2.2.2.2.2.2.2.2.2.2.2.2.1)), (a 8, .inl (K 0, 4, .inl S.2.2.2.2.2.2.2.2.2.2.2.2.2.1)), (a 9, .inl (K 0, 3, .inl S.2.2.2.2.2.2.2.2.2.2.2.2.2.2.2.2.2.2.1)), (a 10, .inl (K 0, 12, .inl S.2.2.2.2.2.2.2.2.2.2.2.2.2.2.2.2.2.2.2.1)), (a 11, .inl (K 0, 4, .inl S.2.2.2.2.2.2.2.2.2.2.2.2.2.2.2.2.2.2.2.2))]
theorem xw_3 : (Jvm.Cond.selects "ContextUnfolder$Code" ({ cls := "ContextUnfolder$Code", name := "readSimple", desc := "(LContextUnfolder$Stream;I)V" } : Jvm.MethodName) ({ cls := "ContextUnfolder$Code", name := "readSimple", desc := "(LContextUnfolder$Stream;I)V" } : Jvm.MethodName)) ∈ xg_B := xg_at 3 (by decide +kernel) (by decide +kernel)
theorem xw_4 : (Jvm.Cond.selects "ContextUnfolder$Code" ({ cls := "ContextUnfolder$Code", name := "readLengths", desc := "(LContextUnfolder$Stream;I)V" } : Jvm.MethodName) ({ cls := "ContextUnfolder$Code", name := "readLengths", desc := "(LContextUnfolder$Stream;I)V" } : Jvm.MethodName)) ∈ xg_B := xg_at 4 (by decide +kernel) (by decide +kernel)
theorem xw_5 : (Jvm.Cond.selects "ContextUnfolder$Code" ({ cls := "ContextUnfolder$Code", name := "orderSymbols", desc := "(I)V" } : Jvm.MethodName) ({ cls := "ContextUnfolder$Code", name := "orderSymbols", desc := "(I)V" } : Jvm.MethodName)) ∈ xg_B := xg_at 5 (by decide +kernel) (by decide +kernel)
theorem xw_35 : (Jvm.Cond.initialized "ContextUnfolder$Stream") ∈ xg_B := xg_at 35 (by decide +kernel) (by decide +kernel)
theorem xw_38 : (Jvm.Cond.initialized "ContextUnfolder$Code") ∈ xg_B := xg_at 38 (by decide +kernel) (by decide +kernel)
theorem xw_44 : (Jvm.Cond.initialized "java/lang/IllegalArgumentException") ∈ xg_B := xg_at 44 (by decide +kernel) (by decide +kernel)
theorem xw_48 : (Jvm.Cond.initialized "java/util/Arrays") ∈ xg_B := xg_at 48 (by decide +kernel) (by decide +kernel)
theorem xw_63 : (Jvm.Cond.fieldLink "ContextUnfolder$Stream" (9 : Nat) "ContextUnfolder$Stream" "bits" "[Z") ∈ xg_B := xg_at 63 (by decide +kernel) (by decide +kernel)
theorem xw_65 : (Jvm.Cond.fieldLink "ContextUnfolder$Stream" (15 : Nat) "ContextUnfolder$Stream" "size" "I") ∈ xg_B := xg_at 65 (by decide +kernel) (by decide +kernel)
theorem xw_67 : (Jvm.Cond.fieldLink "ContextUnfolder$Stream" (19 : Nat) "ContextUnfolder$Stream" "position" "I") ∈ xg_B := xg_at 67 (by decide +kernel) (by decide +kernel)
theorem xw_95 : (Jvm.Cond.fieldLink "ContextUnfolder$Code" (9 : Nat) "ContextUnfolder$Code" "lengths" "[I") ∈ xg_B := xg_at 95 (by decide +kernel) (by decide +kernel)
theorem xw_96 : (Jvm.Cond.fieldLink "ContextUnfolder$Code" (13 : Nat) "ContextUnfolder$Code" "ordered" "[I") ∈ xg_B := xg_at 96 (by decide +kernel) (by decide +kernel)
theorem xw_97 : (Jvm.Cond.fieldLink "ContextUnfolder$Code" (16 : Nat) "ContextUnfolder$Code" "wordsOfLength" "[I") ∈ xg_B := xg_at 97 (by decide +kernel) (by decide +kernel)
theorem xw_165 : (Jvm.Cond.fieldLink "ContextUnfolder$Output" (9 : Nat) "ContextUnfolder$Output" "letters" "[I") ∈ xg_B := xg_at 165 (by decide +kernel) (by decide +kernel)
theorem xw_167 : (Jvm.Cond.fieldLink "ContextUnfolder$Output" (23 : Nat) "ContextUnfolder$Output" "counts" "[I") ∈ xg_B := xg_at 167 (by decide +kernel) (by decide +kernel)
theorem xw_170 : (Jvm.Cond.fieldLink "ContextUnfolder$Output" (26 : Nat) "ContextUnfolder$Output" "size" "I") ∈ xg_B := xg_at 170 (by decide +kernel) (by decide +kernel)
theorem xw_353 : (Jvm.Cond.instanceMethod ({ cls := "ContextUnfolder$Stream", name := "readNumber", desc := "(I)I" } : Jvm.MethodName)) ∈ xg_B := xg_at 353 (by decide +kernel) (by decide +kernel)
theorem xw_354 : (Jvm.Cond.selects "ContextUnfolder$Stream" ({ cls := "ContextUnfolder$Stream", name := "readNumber", desc := "(I)I" } : Jvm.MethodName) ({ cls := "ContextUnfolder$Stream", name := "readNumber", desc := "(I)I" } : Jvm.MethodName)) ∈ xg_B := xg_at 354 (by decide +kernel) (by decide +kernel)
theorem xw_355 : (Jvm.Cond.code ({ cls := "ContextUnfolder$Stream", name := "readNumber", desc := "(I)I" } : Jvm.MethodName) prog_6_method_3_code (4 : Nat) (Option.some Jvm.ClassFile.FieldType.int)) ∈ xg_B := xg_at 355 (by decide +kernel) (by decide +kernel)
theorem xw_356 : (Jvm.Cond.classLink "ContextUnfolder$Stream" (22 : Nat) "java/lang/IllegalArgumentException") ∈ xg_B := xg_at 356 (by decide +kernel) (by decide +kernel)
theorem xw_386 : (Jvm.Cond.methodLink "ContextUnfolder$Code" (19 : Nat) ({ cls := "java/util/Arrays", name := "fill", desc := "([II)V" } : Jvm.MethodName)) ∈ xg_B := xg_at 386 (by decide +kernel) (by decide +kernel)
theorem xw_387 : (Jvm.Cond.static ({ cls := "java/util/Arrays", name := "fill", desc := "([II)V" } : Jvm.MethodName)) ∈ xg_B := xg_at 387 (by decide +kernel) (by decide +kernel)
theorem xw_388 : (Jvm.Cond.code ({ cls := "java/util/Arrays", name := "fill", desc := "([II)V" } : Jvm.MethodName) prog_18_method_103_code (4 : Nat) (Option.none : Option Jvm.ClassFile.FieldType)) ∈ xg_B := xg_at 388 (by decide +kernel) (by decide +kernel)
theorem xw_389 : (Jvm.Cond.methodLink "ContextUnfolder$Code" (25 : Nat) ({ cls := "ContextUnfolder$Stream", name := "readNumber", desc := "(I)I" } : Jvm.MethodName)) ∈ xg_B := xg_at 389 (by decide +kernel) (by decide +kernel)
theorem xw_390 : (Jvm.Cond.methodLink "ContextUnfolder$Code" (31 : Nat) ({ cls := "ContextUnfolder$Code", name := "readSimple", desc := "(LContextUnfolder$Stream;I)V" } : Jvm.MethodName)) ∈ xg_B := xg_at 390 (by decide +kernel) (by decide +kernel)
theorem xw_392 : (Jvm.Cond.instanceMethod ({ cls := "ContextUnfolder$Code", name := "readSimple", desc := "(LContextUnfolder$Stream;I)V" } : Jvm.MethodName)) ∈ xg_B := xg_at 392 (by decide +kernel) (by decide +kernel)
theorem xw_393 : (Jvm.Cond.code ({ cls := "ContextUnfolder$Code", name := "readSimple", desc := "(LContextUnfolder$Stream;I)V" } : Jvm.MethodName) prog_3_method_4_code (8 : Nat) (Option.none : Option Jvm.ClassFile.FieldType)) ∈ xg_B := xg_at 393 (by decide +kernel) (by decide +kernel)
theorem xw_394 : (Jvm.Cond.methodLink "ContextUnfolder$Code" (49 : Nat) ({ cls := "ContextUnfolder$Code", name := "symbolBits", desc := "(I)I" } : Jvm.MethodName)) ∈ xg_B := xg_at 394 (by decide +kernel) (by decide +kernel)
theorem xw_395 : (Jvm.Cond.static ({ cls := "ContextUnfolder$Code", name := "symbolBits", desc := "(I)I" } : Jvm.MethodName)) ∈ xg_B := xg_at 395 (by decide +kernel) (by decide +kernel)
theorem xw_396 : (Jvm.Cond.code ({ cls := "ContextUnfolder$Code", name := "symbolBits", desc := "(I)I" } : Jvm.MethodName) prog_3_method_7_code (2 : Nat) (Option.some Jvm.ClassFile.FieldType.int)) ∈ xg_B := xg_at 396 (by decide +kernel) (by decide +kernel)
theorem xw_397 : (Jvm.Cond.classLink "ContextUnfolder$Code" (42 : Nat) "java/lang/IllegalArgumentException") ∈ xg_B := xg_at 397 (by decide +kernel) (by decide +kernel)
theorem xw_400 : (Jvm.Cond.fieldLink "ContextUnfolder$Code" (54 : Nat) "ContextUnfolder$Code" "SIMPLE_LENGTHS" "[I") ∈ xg_B := xg_at 400 (by decide +kernel) (by decide +kernel)
theorem xw_402 : (Jvm.Cond.methodLink "ContextUnfolder$Code" (35 : Nat) ({ cls := "ContextUnfolder$Code", name := "readLengths", desc := "(LContextUnfolder$Stream;I)V" } : Jvm.MethodName)) ∈ xg_B := xg_at 402 (by decide +kernel) (by decide +kernel)
theorem xw_404 : (Jvm.Cond.instanceMethod ({ cls := "ContextUnfolder$Code", name := "readLengths", desc := "(LContextUnfolder$Stream;I)V" } : Jvm.MethodName)) ∈ xg_B := xg_at 404 (by decide +kernel) (by decide +kernel)
theorem xw_405 : (Jvm.Cond.code ({ cls := "ContextUnfolder$Code", name := "readLengths", desc := "(LContextUnfolder$Stream;I)V" } : Jvm.MethodName) prog_3_method_5_code (6 : Nat) (Option.none : Option Jvm.ClassFile.FieldType)) ∈ xg_B := xg_at 405 (by decide +kernel) (by decide +kernel)
theorem xw_408 : (Jvm.Cond.methodLink "ContextUnfolder$Code" (38 : Nat) ({ cls := "ContextUnfolder$Code", name := "orderSymbols", desc := "(I)V" } : Jvm.MethodName)) ∈ xg_B := xg_at 408 (by decide +kernel) (by decide +kernel)
theorem xw_410 : (Jvm.Cond.instanceMethod ({ cls := "ContextUnfolder$Code", name := "orderSymbols", desc := "(I)V" } : Jvm.MethodName)) ∈ xg_B := xg_at 410 (by decide +kernel) (by decide +kernel)
theorem xw_411 : (Jvm.Cond.code ({ cls := "ContextUnfolder$Code", name := "orderSymbols", desc := "(I)V" } : Jvm.MethodName) prog_3_method_6_code (6 : Nat) (Option.none : Option Jvm.ClassFile.FieldType)) ∈ xg_B := xg_at 411 (by decide +kernel) (by decide +kernel)
theorem xu_X4 : ∀ w ∈ u_ws RX4 TX4 3, w ∈ xg_B := by
  show ∀ w ∈ [u_lay RX4 TX4 0, u_lay RX4 TX4 1, u_lay RX4 TX4 2], w ∈ xg_B
  exact List.forall_mem_cons.mpr ⟨xg_at 69 (by decide +kernel) (by decide +kernel), List.forall_mem_cons.mpr ⟨xg_at 71 (by decide +kernel) (by decide +kernel), List.forall_mem_cons.mpr ⟨xg_at 73 (by decide +kernel) (by decide +kernel), fun _ h => absurd h List.not_mem_nil⟩⟩⟩
theorem xu_X3 : ∀ w ∈ u_ws RX3 TX3 3, w ∈ xg_B := by
  show ∀ w ∈ [u_lay RX3 TX3 0, u_lay RX3 TX3 1, u_lay RX3 TX3 2], w ∈ xg_B
  exact List.forall_mem_cons.mpr ⟨xg_at 173 (by decide +kernel) (by decide +kernel), List.forall_mem_cons.mpr ⟨xg_at 175 (by decide +kernel) (by decide +kernel), List.forall_mem_cons.mpr ⟨xg_at 177 (by decide +kernel) (by decide +kernel), fun _ h => absurd h List.not_mem_nil⟩⟩⟩
theorem xu_X1 : ∀ w ∈ u_ws RX1 TX1 3, w ∈ xg_B := by
  show ∀ w ∈ [u_lay RX1 TX1 0, u_lay RX1 TX1 1, u_lay RX1 TX1 2], w ∈ xg_B
  exact List.forall_mem_cons.mpr ⟨xg_at 98 (by decide +kernel) (by decide +kernel), List.forall_mem_cons.mpr ⟨xg_at 100 (by decide +kernel) (by decide +kernel), List.forall_mem_cons.mpr ⟨xg_at 102 (by decide +kernel) (by decide +kernel), fun _ h => absurd h List.not_mem_nil⟩⟩⟩
theorem xu_X2 : ∀ w ∈ u_ws RX2 TX2 9, w ∈ xg_B := by
  show ∀ w ∈ [u_lay RX2 TX2 0, u_lay RX2 TX2 1, u_lay RX2 TX2 2, u_lay RX2 TX2 3, u_lay RX2 TX2 4, u_lay RX2 TX2 5, u_lay RX2 TX2 6, u_lay RX2 TX2 7, u_lay RX2 TX2 8], w ∈ xg_B
  exact List.forall_mem_cons.mpr ⟨xg_at 116 (by decide +kernel) (by decide +kernel), List.forall_mem_cons.mpr ⟨xg_at 118 (by decide +kernel) (by decide +kernel), List.forall_mem_cons.mpr ⟨xg_at 120 (by decide +kernel) (by decide +kernel), List.forall_mem_cons.mpr ⟨xg_at 122 (by decide +kernel) (by decide +kernel), List.forall_mem_cons.mpr ⟨xg_at 124 (by decide +kernel) (by decide +kernel), List.forall_mem_cons.mpr ⟨xg_at 126 (by decide +kernel) (by decide +kernel), List.forall_mem_cons.mpr ⟨xg_at 128 (by decide +kernel) (by decide +kernel), List.forall_mem_cons.mpr ⟨xg_at 130 (by decide +kernel) (by decide +kernel), List.forall_mem_cons.mpr ⟨xg_at 132 (by decide +kernel) (by decide +kernel), fun _ h => absurd h List.not_mem_nil⟩⟩⟩⟩⟩⟩⟩⟩⟩
theorem xu_X0 : ∀ w ∈ u_ws RX0 TX0 4, w ∈ xg_B := by
  show ∀ w ∈ [u_lay RX0 TX0 0, u_lay RX0 TX0 1, u_lay RX0 TX0 2, u_lay RX0 TX0 3], w ∈ xg_B
  exact List.forall_mem_cons.mpr ⟨xg_at 141 (by decide +kernel) (by decide +kernel), List.forall_mem_cons.mpr ⟨xg_at 143 (by decide +kernel) (by decide +kernel), List.forall_mem_cons.mpr ⟨xg_at 145 (by decide +kernel) (by decide +kernel), List.forall_mem_cons.mpr ⟨xg_at 147 (by decide +kernel) (by decide +kernel), fun _ h => absurd h List.not_mem_nil⟩⟩⟩⟩
theorem xu_X5 : ∀ w ∈ u_ws RX5 TX5 4, w ∈ xg_B := by
  show ∀ w ∈ [u_lay RX5 TX5 0, u_lay RX5 TX5 1, u_lay RX5 TX5 2, u_lay RX5 TX5 3], w ∈ xg_B
  exact List.forall_mem_cons.mpr ⟨xg_at 184 (by decide +kernel) (by decide +kernel), List.forall_mem_cons.mpr ⟨xg_at 186 (by decide +kernel) (by decide +kernel), List.forall_mem_cons.mpr ⟨xg_at 188 (by decide +kernel) (by decide +kernel), List.forall_mem_cons.mpr ⟨xg_at 190 (by decide +kernel) (by decide +kernel), fun _ h => absurd h List.not_mem_nil⟩⟩⟩⟩
theorem xu_X6 : ∀ w ∈ u_ws RX6 TX6 21, w ∈ xg_B := by
  show ∀ w ∈ [u_lay RX6 TX6 0, u_lay RX6 TX6 1, u_lay RX6 TX6 2, u_lay RX6 TX6 3, u_lay RX6 TX6 4, u_lay RX6 TX6 5, u_lay RX6 TX6 6, u_lay RX6 TX6 7, u_lay RX6 TX6 8, u_lay RX6 TX6 9, u_lay RX6 TX6 10, u_lay RX6 TX6 11, u_lay RX6 TX6 12, u_lay RX6 TX6 13, u_lay RX6 TX6 14, u_lay RX6 TX6 15, u_lay RX6 TX6 16, u_lay RX6 TX6 17, u_lay RX6 TX6 18, u_lay RX6 TX6 19, u_lay RX6 TX6 20], w ∈ xg_B
  exact List.forall_mem_cons.mpr ⟨xg_at 528 (by decide +kernel) (by decide +kernel), List.forall_mem_cons.mpr ⟨xg_at 530 (by decide +kernel) (by decide +kernel), List.forall_mem_cons.mpr ⟨xg_at 532 (by decide +kernel) (by decide +kernel), List.forall_mem_cons.mpr ⟨xg_at 534 (by decide +kernel) (by decide +kernel), List.forall_mem_cons.mpr ⟨xg_at 536 (by decide +kernel) (by decide +kernel), List.forall_mem_cons.mpr ⟨xg_at 538 (by decide +kernel) (by decide +kernel), List.forall_mem_cons.mpr ⟨xg_at 540 (by decide +kernel) (by decide +kernel), List.forall_mem_cons.mpr ⟨xg_at 542 (by decide +kernel) (by decide +kernel), List.forall_mem_cons.mpr ⟨xg_at 544 (by decide +kernel) (by decide +kernel), List.forall_mem_cons.mpr ⟨xg_at 546 (by decide +kernel) (by decide +kernel), List.forall_mem_cons.mpr ⟨xg_at 548 (by decide +kernel) (by decide +kernel), List.forall_mem_cons.mpr ⟨xg_at 550 (by decide +kernel) (by decide +kernel), List.forall_mem_cons.mpr ⟨xg_at 552 (by decide +kernel) (by decide +kernel), List.forall_mem_cons.mpr ⟨xg_at 554 (by decide +kernel) (by decide +kernel), List.forall_mem_cons.mpr ⟨xg_at 556 (by decide +kernel) (by decide +kernel), List.forall_mem_cons.mpr ⟨xg_at 558 (by decide +kernel) (by decide +kernel), List.forall_mem_cons.mpr ⟨xg_at 560 (by decide +kernel) (by decide +kernel), List.forall_mem_cons.mpr ⟨xg_at 562 (by decide +kernel) (by decide +kernel), List.forall_mem_cons.mpr ⟨xg_at 564 (by decide +kernel) (by decide +kernel), List.forall_mem_cons.mpr ⟨xg_at 566 (by decide +kernel) (by decide +kernel), List.forall_mem_cons.mpr ⟨xg_at 568 (by decide +kernel) (by decide +kernel), fun _ h => absurd h List.not_mem_nil⟩⟩⟩⟩⟩⟩⟩⟩⟩⟩⟩⟩⟩⟩⟩⟩⟩⟩⟩⟩⟩
theorem xat_X4_26 : ∀ w ∈ vx_atS RX4 26 "java/lang/IllegalArgumentException" ["java/lang/RuntimeException", "java/lang/Exception"], w ∈ xg_B := by decide +kernel
theorem xgd_X4_26 : ∀ w ∈ Cond.classLink RX4 22 "java/lang/IllegalArgumentException" :: Cond.initialized "java/lang/IllegalArgumentException" :: vx_atS RX4 26 "java/lang/IllegalArgumentException" ["java/lang/RuntimeException", "java/lang/Exception"], vx_ot w = true := by decide +kernel
theorem xat_X1_46 : ∀ w ∈ vx_atS RX1 46 "java/lang/IllegalArgumentException" ["java/lang/RuntimeException", "java/lang/Exception"], w ∈ xg_B := by decide +kernel
theorem xgd_X1_46 : ∀ w ∈ Cond.classLink RX1 42 "java/lang/IllegalArgumentException" :: Cond.initialized "java/lang/IllegalArgumentException" :: vx_atS RX1 46 "java/lang/IllegalArgumentException" ["java/lang/RuntimeException", "java/lang/Exception"], vx_ot w = true := by decide +kernel
theorem xd_X4_readNumber : yX4_readNumber.cls ≠ "java/lang/invoke/MethodHandle" ∧ yX4_readNumber.cls ≠ "java/lang/invoke/VarHandle" ∧ (parseMethodDescriptor yX4_readNumber.desc).map (fun d => d.parameters.length) = some 1 := by decide +kernel
theorem xd_X1_symbolBits : yX1_symbolBits.cls ≠ "java/lang/invoke/MethodHandle" ∧ yX1_symbolBits.cls ≠ "java/lang/invoke/VarHandle" ∧ (parseMethodDescriptor yX1_symbolBits.desc).map (fun d => d.parameters.length) = some 1 := by decide +kernel
theorem xd_J7_fill_53178 : yJ7_fill_53178.cls ≠ "java/lang/invoke/MethodHandle" ∧ yJ7_fill_53178.cls ≠ "java/lang/invoke/VarHandle" ∧ (parseMethodDescriptor yJ7_fill_53178.desc).map (fun d => d.parameters.length) = some 2 := by decide +kernel
theorem xd_X1_readLengths : yX1_readLengths.cls ≠ "java/lang/invoke/MethodHandle" ∧ yX1_readLengths.cls ≠ "java/lang/invoke/VarHandle" ∧ (parseMethodDescriptor yX1_readLengths.desc).map (fun d => d.parameters.length) = some 2 := by decide +kernel
theorem xd_X1_readSimple : yX1_readSimple.cls ≠ "java/lang/invoke/MethodHandle" ∧ yX1_readSimple.cls ≠ "java/lang/invoke/VarHandle" ∧ (parseMethodDescriptor yX1_readSimple.desc).map (fun d => d.parameters.length) = some 2 := by decide +kernel
theorem xd_X1_orderSymbols : yX1_orderSymbols.cls ≠ "java/lang/invoke/MethodHandle" ∧ yX1_orderSymbols.cls ≠ "java/lang/invoke/VarHandle" ∧ (parseMethodDescriptor yX1_orderSymbols.desc).map (fun d => d.parameters.length) = some 1 := by decide +kernel
theorem xgi_X1_25 : GoodIn xg_B (wsV RX1 25 RX4 yX4_readNumber [Cond.code yX4_readNumber cX4_readNumber 4 (some .int)]) := xc_good xw_389 xw_353 xw_354 xw_35 xw_355 (by decide +kernel)
theorem xgs_X1_49 : GoodIn xg_B (wsS RX1 49 yX1_symbolBits [Cond.code yX1_symbolBits cX1_symbolBits 2 (some .int)]) := xc_goodS xw_394 xw_395 xw_38 xw_396 (by decide +kernel)
theorem xgs_X1_19 : GoodIn xg_B (va_wsS RX1 19 yJ7_fill_53178 [Cond.code yJ7_fill_53178 cJ7_fill_53178 4 none]) := xc_goodQ xw_386 xw_387 xw_48 xw_388 (by decide +kernel)
theorem xgi_X1_35 : GoodIn xg_B (wsV RX1 35 RX1 yX1_readLengths [Cond.code yX1_readLengths cX1_readLengths 6 none]) := xc_good xw_402 xw_404 xw_4 xw_38 xw_405 (by decide +kernel)
theorem xgi_X1_31 : GoodIn xg_B (wsV RX1 31 RX1 yX1_readSimple [Cond.code yX1_readSimple cX1_readSimple 8 none]) := xc_good xw_390 xw_392 xw_3 xw_38 xw_393 (by decide +kernel)
theorem xgi_X1_38 : GoodIn xg_B (wsV RX1 38 RX1 yX1_orderSymbols [Cond.code yX1_orderSymbols cX1_orderSymbols 6 none]) := xc_good xw_408 xw_410 xw_5 xw_38 xw_411 (by decide +kernel)
