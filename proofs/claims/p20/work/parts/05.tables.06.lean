set_option maxRecDepth 100000 in
theorem sm_mcls4 : sm_md4.map (fun q => q.1.cls) = sm_md4.map (fun q => sm_own q.2.2.2.2.1) := rfl
theorem sm_mchk5 : sm_md5.all sm_mchk = true := by decide +kernel
set_option maxRecDepth 100000 in
theorem sm_mcls5 : sm_md5.map (fun q => q.1.cls) = sm_md5.map (fun q => sm_own q.2.2.2.2.1) := rfl
theorem sm_mchk6 : sm_md6.all sm_mchk = true := by decide +kernel
set_option maxRecDepth 100000 in
theorem sm_mcls6 : sm_md6.map (fun q => q.1.cls) = sm_md6.map (fun q => sm_own q.2.2.2.2.1) := rfl
theorem sm_mchk7 : sm_md7.all sm_mchk = true := by decide +kernel
set_option maxRecDepth 100000 in
theorem sm_mcls7 : sm_md7.map (fun q => q.1.cls) = sm_md7.map (fun q => sm_own q.2.2.2.2.1) := rfl
def sm_mgood (q : sm_MT) : Prop := Jvm.Cond.code q.1 q.2.1 q.2.2.1 q.2.2.2.1 ∈ sm_tb ∧ (q.2.2.2.2.2.1 = true → Jvm.Cond.static q.1 ∈ sm_tb) ∧ (q.2.2.2.2.2.1 = false → Jvm.Cond.instanceMethod q.1 ∈ sm_tb ∧ Jvm.Cond.selects q.1.cls q.1 q.1 ∈ sm_tb) ∧ plainName q.1.cls = true ∧ q.2.2.1 ≤ 81 ∧ q.1.cls = sm_own q.2.2.2.2.1 ∧ q.2.2.2.2.1 < 4 ∧ q.1.cls ≠ "java/lang/invoke/MethodHandle" ∧ q.1.cls ≠ "java/lang/invoke/VarHandle"
def lw_cd (q : sm_MT) : Jvm.Cond := .code q.1 q.2.1 q.2.2.1 q.2.2.2.1
def lw_cw (w : Jvm.Cond) : Option Jvm.Cond := match w with
  | .code m b l r => some (.code m b l r)
  | _ => none
theorem lw_cw_m {x w : Jvm.Cond} (h : lw_cw x = some w) : x = w := by
  unfold lw_cw at h
  split at h
  · cases h
    rfl
  · cases h
theorem sm_cwm {w : Jvm.Cond} (h : w ∈ lw_tbl.filterMap lw_cw) : w ∈ lw_tbl := by
  obtain ⟨x, hx, e⟩ := List.mem_filterMap.mp h
  rw [← lw_cw_m e]
  exact hx
theorem sm_cwk {a n b : Nat} (h : ((lw_tbl.filterMap lw_cw).drop a).take n = ((sm_md.drop b).take n).map lw_cd) : ∀ q ∈ (sm_md.drop b).take n, lw_cd q ∈ lw_tbl := by
  intro q hq
  have g := List.mem_map_of_mem (f := lw_cd) hq
  rw [← h] at g
  exact sm_cwm (List.mem_of_mem_drop (List.mem_of_mem_take g))
theorem sm_sl {L : List sm_MT} {q : sm_MT} {i b n : Nat} (h : L[i]? = some q) (h1 : b ≤ i) (h2 : i < b + n) : q ∈ (L.drop b).take n :=
  List.mem_of_getElem? (i := i - b) (by rw [List.getElem?_take_of_lt (by omega), List.getElem?_drop, show b + (i - b) = i by omega]; exact h)
set_option maxRecDepth 100000 in
theorem sm_cw0 : ((lw_tbl.filterMap lw_cw).drop 4).take 31 = ((sm_md.drop 0).take 31).map lw_cd := rfl
set_option maxRecDepth 100000 in
theorem sm_cw1 : ((lw_tbl.filterMap lw_cw).drop 36).take 15 = ((sm_md.drop 31).take 15).map lw_cd := rfl
set_option maxRecDepth 100000 in
theorem sm_cw2 : ((lw_tbl.filterMap lw_cw).drop 52).take 1 = ((sm_md.drop 46).take 1).map lw_cd := rfl
set_option maxRecDepth 100000 in
theorem sm_cw3 : ((lw_tbl.filterMap lw_cw).drop 54).take 56 = ((sm_md.drop 47).take 56).map lw_cd := rfl
set_option maxRecDepth 100000 in
theorem sm_cw4 : ((lw_tbl.filterMap lw_cw).drop 111).take 97 = ((sm_md.drop 103).take 97).map lw_cd := rfl
theorem sm_cwl : sm_md.length = 200 := by decide +kernel
theorem sm_cwa : ∀ q ∈ sm_md, lw_cd q ∈ lw_tbl := by
  intro q hq
  obtain ⟨i, hi⟩ := List.mem_iff_getElem?.mp hq
  have l := (List.getElem?_eq_some_iff.mp hi).1
  rw [sm_cwl] at l
  rcases Nat.lt_or_ge i 31 with c | c
  · exact sm_cwk sm_cw0 q (sm_sl hi (by omega) (by omega))
  rcases Nat.lt_or_ge i 46 with c | c
  · exact sm_cwk sm_cw1 q (sm_sl hi (by omega) (by omega))
  rcases Nat.lt_or_ge i 47 with c | c
  · exact sm_cwk sm_cw2 q (sm_sl hi (by omega) (by omega))
  rcases Nat.lt_or_ge i 103 with c | c
  · exact sm_cwk sm_cw3 q (sm_sl hi (by omega) (by omega))
  · exact sm_cwk sm_cw4 q (sm_sl hi (by omega) (by omega))
theorem sm_mgood_of {l : List sm_MT} (h1 : l.all sm_mchk = true) (h0 : l.map (fun q => q.1.cls) = l.map (fun q => sm_own q.2.2.2.2.1)) (h2 : ∀ q ∈ l, lw_cd q ∈ lw_tbl) : ∀ q ∈ l, sm_mgood q := by
  intro q hq
  have a := List.all_eq_true.mp h1 q hq
  have b : Jvm.Cond.code q.1 q.2.1 q.2.2.1 q.2.2.2.1 ∈ lw_tbl := h2 q hq
  unfold sm_mchk at a
  simp only [Bool.and_eq_true, decide_eq_true_eq] at a
  obtain ⟨⟨a1, a3⟩, a5⟩ := a
  have a4 : q.1.cls = sm_own q.2.2.2.2.1 := List.map_inj_left.mp h0 q hq
  obtain ⟨a2, a6, a7⟩ := sm_pn _ a5
  rw [← a4] at a2 a6 a7
  refine ⟨List.mem_filter.mpr ⟨b, rfl⟩, fun hs => ?_, fun hs => ?_, a2, a3, a4, a5, a6, a7⟩
  · rw [hs] at a1
    exact sm_ck_s a1
  · rw [hs] at a1
    simp only [Bool.false_eq_true, if_false, Bool.and_eq_true] at a1
    exact ⟨sm_ck_s a1.1, sm_ck_s a1.2⟩
theorem sm_mgood_all : ∀ q ∈ sm_md, sm_mgood q := by
  unfold sm_md
  exact List.forall_mem_append.mpr ⟨sm_mgood_of sm_mchk0 sm_mcls0 (fun q hq => sm_cwa q (by unfold sm_md; simp only [List.mem_append, hq, true_or, or_true])), List.forall_mem_append.mpr ⟨sm_mgood_of sm_mchk1 sm_mcls1 (fun q hq => sm_cwa q (by unfold sm_md; simp only [List.mem_append, hq, true_or, or_true])), List.forall_mem_append.mpr ⟨sm_mgood_of sm_mchk2 sm_mcls2 (fun q hq => sm_cwa q (by unfold sm_md; simp only [List.mem_append, hq, true_or, or_true])), List.forall_mem_append.mpr ⟨sm_mgood_of sm_mchk3 sm_mcls3 (fun q hq => sm_cwa q (by unfold sm_md; simp only [List.mem_append, hq, true_or, or_true])), List.forall_mem_append.mpr ⟨sm_mgood_of sm_mchk4 sm_mcls4 (fun q hq => sm_cwa q (by unfold sm_md; simp only [List.mem_append, hq, true_or, or_true])), List.forall_mem_append.mpr ⟨sm_mgood_of sm_mchk5 sm_mcls5 (fun q hq => sm_cwa q (by unfold sm_md; simp only [List.mem_append, hq, true_or, or_true])), List.forall_mem_append.mpr ⟨sm_mgood_of sm_mchk6 sm_mcls6 (fun q hq => sm_cwa q (by unfold sm_md; simp only [List.mem_append, hq, true_or, or_true])), sm_mgood_of sm_mchk7 sm_mcls7 (fun q hq => sm_cwa q (by unfold sm_md; simp only [List.mem_append, hq, true_or, or_true]))⟩⟩⟩⟩⟩⟩⟩
def sm_m (k : Nat) : sm_MT := sm_md.getD k (⟨"MiceRegisters", "lower", "()J"⟩, prog_1_method_39_code, 1, some .long, 2, false, 0, 0, 0)
abbrev sm_Y (k : Nat) : MethodName := (sm_m k).1
abbrev sm_CC (k : Nat) : ByteArray := (sm_m k).2.1
abbrev sm_ML (k : Nat) : Nat := (sm_m k).2.2.1
abbrev sm_RT (k : Nat) : Option FieldType := (sm_m k).2.2.2.1
abbrev sm_O (k : Nat) : Nat := (sm_m k).2.2.2.2.1
theorem sm_m_in {k : Nat} (h : k < sm_md.length) : sm_m k ∈ sm_md := by
  unfold sm_m
  rw [List.getD_eq_getElem?_getD, List.getElem?_eq_getElem h]
  exact List.getElem_mem h
theorem sm_md_len : sm_md.length = 200 := by decide +kernel
/-- fields, one class' accesses -/
def sm_fchk (own : String) : List (Nat × Nat × Nat × Nat) → List Nat → Bool
  | [], _ => true
  | _ :: _, [] => false
  | q :: r, i :: is => (match sm_cl[q.2.1]? with
      | some c => decide (q.2.2.1 < c.2.2) && sm_ck i (.fieldLink own q.1 (c.2.1 q.2.2.1).1 (c.2.1 q.2.2.1).2.1 (c.2.1 q.2.2.1).2.2.1) && (decide (q.2.2.2 ≠ 0) || (!(c.2.1 q.2.2.1).2.2.2 && decide (parseFieldDescriptor (c.2.1 q.2.2.1).2.2.1 = some .int))) && (decide (q.2.2.2 ≠ 1) || (!(c.2.1 q.2.2.1).2.2.2 && decide (parseFieldDescriptor (c.2.1 q.2.2.1).2.2.1 = some .long)))
      | none => false) && sm_fchk own r is
