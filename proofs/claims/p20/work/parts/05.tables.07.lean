theorem sm_cls : ∀ (ci : Nat) (q : vw_C), sm_cl[ci]? = some q → ∃ ty0 : Nat → FieldType, (∀ w ∈ u_ws q.1 q.2.1 q.2.2, w ∈ sm_tb) ∧ (∀ k, k < q.2.2 → parseFieldDescriptor (q.2.1 k).2.2.1 = some (ty0 k)) ∧ (∀ a, a < q.2.2 → ∀ b, b < q.2.2 → a ≠ b → (q.2.1 a).2.1 ≠ (q.2.1 b).2.1) := by
  intro ci q h
  match ci, h with
  | 0, h => cases h; exact ⟨_, sm_u0, sm_ty0, sm_nm0⟩
  | 1, h => cases h; exact ⟨_, sm_u1, sm_ty1, sm_nm1⟩
  | 2, h => cases h; exact ⟨_, sm_u2, sm_ty2, sm_nm2⟩
  | 3, h => cases h; exact ⟨_, sm_u3, sm_ty3, sm_nm3⟩
  | n + 4, h => simp [sm_cl] at h
theorem sm_fchk_s {own : String} : ∀ {l : List (Nat × Nat × Nat × Nat)} {is : List Nat}, sm_fchk own l is = true → ∀ x ci k t, (x, ci, k, t) ∈ l → ∃ (C : String) (T : u_T) (N : Nat) (ty0 : Nat → FieldType), sm_cl[ci]? = some (C, T, N) ∧ k < N ∧ (∀ w ∈ u_ws C T N, w ∈ sm_tb) ∧ (Jvm.Cond.fieldLink own x (T k).1 (T k).2.1 (T k).2.2.1) ∈ sm_tb ∧
    (∀ k, k < N → parseFieldDescriptor (T k).2.2.1 = some (ty0 k)) ∧ (∀ a, a < N → ∀ b, b < N → a ≠ b → (T a).2.1 ≠ (T b).2.1) ∧ (t = 0 → (T k).2.2.2 = false ∧ parseFieldDescriptor (T k).2.2.1 = some .int) ∧ (t = 1 → (T k).2.2.2 = false ∧ parseFieldDescriptor (T k).2.2.1 = some .long)
  | [], _, _ => fun _ _ _ _ h => absurd h List.not_mem_nil
  | _ :: _, [], h => by cases h
  | q :: r, i :: is, h => by
    unfold sm_fchk at h
    rw [Bool.and_eq_true] at h
    intro x ci k t hm
    rcases List.mem_cons.mp hm with rfl | hm
    · have h := h.1
      dsimp only at h
      split at h
      · rename_i c hc
        obtain ⟨ty0, u1, u2, u3⟩ := sm_cls _ _ hc
        simp only [Bool.and_eq_true, Bool.or_eq_true, decide_eq_true_eq, Bool.not_eq_true'] at h
        obtain ⟨⟨⟨h1, h2⟩, h3⟩, h4⟩ := h
        exact ⟨c.1, c.2.1, c.2.2, ty0, hc, h1, u1, sm_ck_s h2, u2, u3, fun e => h3.resolve_left (fun z => z e), fun e => h4.resolve_left (fun z => z e)⟩
      · cases h
    · exact sm_fchk_s h.2 x ci k t hm
/-- calls, one class' -/
def sm_cchk (o : Nat) : List (Nat × Nat × Nat × Nat × Nat) → List Nat → Bool
  | [], _ => true
  | _ :: _, [] => false
  | q :: r, i :: is => decide (q.2.2.1 < sm_md.length) && decide ((parseMethodDescriptor (sm_Y q.2.2.1).desc).map (fun d => d.parameters.length) = some q.2.2.2.1) && sm_ck (match sm_O q.2.2.1 with
      | 0 => 82
      | 1 => 81
      | 2 => 80
      | _ => 83) (.initialized (sm_Y q.2.2.1).cls) && (if q.2.1 = 0 then sm_ck i (.methodLink (sm_own o) q.1 (sm_Y q.2.2.1)) && decide ((sm_m q.2.2.1).2.2.2.2.2.1 = false) && decide (sm_O q.2.2.1 = q.2.2.2.2) && decide (q.2.2.2.2 < 4)
      else if q.2.1 = 1 then sm_ck i (.methodLink (sm_own o) q.1 (sm_Y q.2.2.1)) && decide ((sm_m q.2.2.1).2.2.2.2.2.1 = true) && decide ((sm_Y q.2.2.1).cls = sm_own o)
      else decide ((sm_own o, q.1, sm_Y q.2.2.1, "MiceRegisters") ∈ sm_NS) && decide ((sm_m q.2.2.1).2.2.2.2.2.1 = true)) && sm_cchk o r is
theorem sm_fok0 : sm_fchk (sm_own 0) sm_fl0 sm_fp0 = true := by decide +kernel
theorem sm_cok0 : sm_cchk 0 sm_ca0 sm_cp0 = true := by decide +kernel
theorem sm_iok0 : sm_cks [] (sm_ci0.map fun q => .constant (sm_own 0) q.1 q.2) = true := by decide +kernel
theorem sm_jok0 : sm_cks [] (sm_cj0.map fun q => .constantLong (sm_own 0) q.1 q.2) = true := by decide +kernel
theorem sm_sok0 : sm_cks [] (sm_st0.map fun q => .fieldLink (sm_own 0) q.1 "MiceRegisters" "KIND_LETTERS" "[I") = true := by decide +kernel
theorem sm_nok0 : sm_cks [] (sm_na0.map fun q => .methodLink (sm_own 0) q.1 (match q.2 with | 0 => Lib.Math.max.name | 1 => Lib.Math.min.name | 2 => Lib.Math.abs.name | _ => arraycopyName)) = true := by decide +kernel
theorem sm_fok1 : sm_fchk (sm_own 1) sm_fl1 sm_fp1 = true := by decide +kernel
theorem sm_cok1 : sm_cchk 1 sm_ca1 sm_cp1 = true := by decide +kernel
theorem sm_iok1 : sm_cks [] (sm_ci1.map fun q => .constant (sm_own 1) q.1 q.2) = true := by decide +kernel
theorem sm_jok1 : sm_cks [] (sm_cj1.map fun q => .constantLong (sm_own 1) q.1 q.2) = true := by decide +kernel
theorem sm_sok1 : sm_cks [] (sm_st1.map fun q => .fieldLink (sm_own 1) q.1 "MiceRegisters" "KIND_LETTERS" "[I") = true := by decide +kernel
theorem sm_nok1 : sm_cks [352, 414, 421] (sm_na1.map fun q => .methodLink (sm_own 1) q.1 (match q.2 with | 0 => Lib.Math.max.name | 1 => Lib.Math.min.name | 2 => Lib.Math.abs.name | _ => arraycopyName)) = true := by decide +kernel
theorem sm_fok2 : sm_fchk (sm_own 2) sm_fl2 sm_fp2 = true := by decide +kernel
theorem sm_cok2 : sm_cchk 2 sm_ca2 sm_cp2 = true := by decide +kernel
theorem sm_iok2 : sm_cks [594] (sm_ci2.map fun q => .constant (sm_own 2) q.1 q.2) = true := by decide +kernel
theorem sm_jok2 : sm_cks [585, 595, 596, 645, 646] (sm_cj2.map fun q => .constantLong (sm_own 2) q.1 q.2) = true := by decide +kernel
theorem sm_sok2 : sm_cks [310] (sm_st2.map fun q => .fieldLink (sm_own 2) q.1 "MiceRegisters" "KIND_LETTERS" "[I") = true := by decide +kernel
theorem sm_nok2 : sm_cks [267, 541, 568] (sm_na2.map fun q => .methodLink (sm_own 2) q.1 (match q.2 with | 0 => Lib.Math.max.name | 1 => Lib.Math.min.name | 2 => Lib.Math.abs.name | _ => arraycopyName)) = true := by decide +kernel
theorem sm_fok3 : sm_fchk (sm_own 3) sm_fl3 sm_fp3 = true := by decide +kernel
theorem sm_cok3 : sm_cchk 3 sm_ca3 sm_cp3 = true := by decide +kernel
theorem sm_iok3 : sm_cks [1038, 1068] (sm_ci3.map fun q => .constant (sm_own 3) q.1 q.2) = true := by decide +kernel
theorem sm_jok3 : sm_cks [750, 801, 891, 936, 953, 966, 967, 972, 1017, 1047, 1076, 1093, 1094, 1095, 1100, 1101, 1118, 1143, 1144] (sm_cj3.map fun q => .constantLong (sm_own 3) q.1 q.2) = true := by decide +kernel
theorem sm_sok3 : sm_cks [] (sm_st3.map fun q => .fieldLink (sm_own 3) q.1 "MiceRegisters" "KIND_LETTERS" "[I") = true := by decide +kernel
theorem sm_nok3 : sm_cks [] (sm_na3.map fun q => .methodLink (sm_own 3) q.1 (match q.2 with | 0 => Lib.Math.max.name | 1 => Lib.Math.min.name | 2 => Lib.Math.abs.name | _ => arraycopyName)) = true := by decide +kernel
theorem sm_fok4 : sm_fchk (sm_own 4) sm_fl4 sm_fp4 = true := by decide +kernel
theorem sm_cok4 : sm_cchk 4 sm_ca4 sm_cp4 = true := by decide +kernel
theorem sm_iok4 : sm_cks [] (sm_ci4.map fun q => .constant (sm_own 4) q.1 q.2) = true := by decide +kernel
theorem sm_jok4 : sm_cks [] (sm_cj4.map fun q => .constantLong (sm_own 4) q.1 q.2) = true := by decide +kernel
theorem sm_sok4 : sm_cks [] (sm_st4.map fun q => .fieldLink (sm_own 4) q.1 "MiceRegisters" "KIND_LETTERS" "[I") = true := by decide +kernel
theorem sm_nok4 : sm_cks [] (sm_na4.map fun q => .methodLink (sm_own 4) q.1 (match q.2 with | 0 => Lib.Math.max.name | 1 => Lib.Math.min.name | 2 => Lib.Math.abs.name | _ => arraycopyName)) = true := by decide +kernel
theorem sm_jdk : ∀ w ∈ ([.static Lib.Math.max.name, .static Lib.Math.min.name, .static Lib.Math.abs.name, .initialized "java/lang/Math", .code Lib.Math.max.name Lib.Math.max.code 2 (some .int), .code Lib.Math.min.name Lib.Math.min.code 2 (some .int), .code Lib.Math.abs.name Lib.Math.abs.code 1 (some .int), .native arraycopyName, .static arraycopyName, .initialized "java/lang/System"] : List Jvm.Cond), w ∈ sm_tb := sm_in [422, 415, 353, 85, 423, 416, 354, 269, 268, 84] (by decide +kernel)

