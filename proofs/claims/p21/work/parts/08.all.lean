/-! The program, gone on. -/
def sm_Kn (o nL : Nat) (scr : Option (Nat × (Nat → Int32))) : sm_K := (fun x => sm_lk (sm_fl o) x, fun x => sm_lk (sm_ci o) x, fun x => sm_lk (sm_cj o) x, fun x => (sm_lk (sm_st o) x).isSome, scr, nL, fun x => sm_lk (sm_na o) x)
def sm_B (k : Nat) : sm_P := (fun pc => sm_ch (sm_tl.getD k []) pc, sm_Kn (sm_O k) (sm_ML k) none, fun x => sm_lk (sm_ca (sm_O k)) x, sm_RT k)
theorem sm_an {a b : Bool} (h : (a && b) = true) : a = true ∧ b = true := by
  cases a
  · cases h
  · exact ⟨rfl, h⟩
def sm_cgood (o : Nat) (q : Nat × Nat × Nat × Nat × Nat) : Prop := q.2.2.1 < sm_md.length ∧ (parseMethodDescriptor (sm_Y q.2.2.1).desc).map (fun d => d.parameters.length) = some q.2.2.2.1 ∧ Jvm.Cond.initialized (sm_Y q.2.2.1).cls ∈ sm_tb ∧
    (q.2.1 = 0 → Jvm.Cond.methodLink (sm_own o) q.1 (sm_Y q.2.2.1) ∈ sm_tb ∧ (sm_m q.2.2.1).2.2.2.2.2.1 = false ∧ sm_O q.2.2.1 = q.2.2.2.2 ∧ q.2.2.2.2 < 4) ∧ (q.2.1 = 1 → Jvm.Cond.methodLink (sm_own o) q.1 (sm_Y q.2.2.1) ∈ sm_tb ∧ (sm_m q.2.2.1).2.2.2.2.2.1 = true ∧ (sm_Y q.2.2.1).cls = sm_own o) ∧ (q.2.1 = 2 → (sm_own o, q.1, sm_Y q.2.2.1, "MiceRegisters") ∈ sm_NS ∧ (sm_m q.2.2.1).2.2.2.2.2.1 = true)
theorem sm_cchk_1 {o i : Nat} {is : List Nat} {q : Nat × Nat × Nat × Nat × Nat} {r : List (Nat × Nat × Nat × Nat × Nat)} (h : sm_cchk o (q :: r) (i :: is) = true) : sm_cgood o q ∧ sm_cchk o r is = true := by
  rw [sm_cchk] at h
  obtain ⟨h, h5⟩ := sm_an h
  obtain ⟨h, h4⟩ := sm_an h
  obtain ⟨h, h3⟩ := sm_an h
  obtain ⟨h1, h2⟩ := sm_an h
  refine ⟨⟨of_decide_eq_true h1, of_decide_eq_true h2, sm_ck_s h3, fun e => ?_, fun e => ?_, fun e => ?_⟩, h5⟩
  · rw [if_pos e] at h4
    obtain ⟨h4, a4⟩ := sm_an h4
    obtain ⟨h4, a3⟩ := sm_an h4
    obtain ⟨a1, a2⟩ := sm_an h4
    exact ⟨sm_ck_s a1, of_decide_eq_true a2, of_decide_eq_true a3, of_decide_eq_true a4⟩
  · rw [if_neg (by rw [e]; decide), if_pos e] at h4
    obtain ⟨h4, a3⟩ := sm_an h4
    obtain ⟨a1, a2⟩ := sm_an h4
    exact ⟨sm_ck_s a1, of_decide_eq_true a2, of_decide_eq_true a3⟩
  · rw [if_neg (by rw [e]; decide), if_neg (by rw [e]; decide)] at h4
    obtain ⟨a1, a2⟩ := sm_an h4
    exact ⟨of_decide_eq_true a1, of_decide_eq_true a2⟩
theorem sm_cchk_s {o : Nat} (l : List (Nat × Nat × Nat × Nat × Nat)) : ∀ {is : List Nat}, sm_cchk o l is = true → ∀ q ∈ l, sm_cgood o q := by
  induction l with
  | nil => intro is _ q hq; exact absurd hq List.not_mem_nil
  | cons q0 r ih =>
    intro is h q hq
    cases is with
    | nil => rw [sm_cchk] at h; cases h
    | cons i is =>
      obtain ⟨h1, h2⟩ := sm_cchk_1 h
      rcases List.mem_cons.mp hq with rfl | hq
      · exact h1
      · exact ih h2 q hq
theorem sm_cl_at : ∀ ci, ci < 4 → ∃ q : vw_C, sm_cl[ci]? = some q ∧ q.1 = sm_own ci := by
  intro ci h
  match ci, h with
  | 0, _ => exact ⟨_, rfl, rfl⟩
  | 1, _ => exact ⟨_, rfl, rfl⟩
  | 2, _ => exact ⟨_, rfl, rfl⟩
  | 3, _ => exact ⟨_, rfl, rfl⟩
  | n + 4, h => omega
theorem sm_chks : ∀ o, o < 5 → sm_fchk (sm_own o) (sm_fl o) (sm_fp o) = true ∧ sm_cchk o (sm_ca o) (sm_cp o) = true ∧ (∀ w ∈ ((sm_ci o).map fun q => Jvm.Cond.constant (sm_own o) q.1 q.2), w ∈ sm_tb) ∧ (∀ w ∈ ((sm_cj o).map fun q => Jvm.Cond.constantLong (sm_own o) q.1 q.2), w ∈ sm_tb) ∧ (∀ w ∈ ((sm_st o).map fun q => Jvm.Cond.fieldLink (sm_own o) q.1 "MiceRegisters" "KIND_LETTERS" "[I"), w ∈ sm_tb) ∧
    (∀ w ∈ ((sm_na o).map fun q => Jvm.Cond.methodLink (sm_own o) q.1 (match q.2 with | 0 => Lib.Math.max.name | 1 => Lib.Math.min.name | 2 => Lib.Math.abs.name | _ => arraycopyName)), w ∈ sm_tb) := by
  intro o h
  match o, h with
  | 0, _ => exact ⟨sm_fok0, sm_cok0, sm_in _ sm_iok0, sm_in _ sm_jok0, sm_in _ sm_sok0, sm_in _ sm_nok0⟩
  | 1, _ => exact ⟨sm_fok1, sm_cok1, sm_in _ sm_iok1, sm_in _ sm_jok1, sm_in _ sm_sok1, sm_in _ sm_nok1⟩
  | 2, _ => exact ⟨sm_fok2, sm_cok2, sm_in _ sm_iok2, sm_in _ sm_jok2, sm_in _ sm_sok2, sm_in _ sm_nok2⟩
  | 3, _ => exact ⟨sm_fok3, sm_cok3, sm_in _ sm_iok3, sm_in _ sm_jok3, sm_in _ sm_sok3, sm_in _ sm_nok3⟩
  | 4, _ => exact ⟨sm_fok4, sm_cok4, sm_in _ sm_iok4, sm_in _ sm_jok4, sm_in _ sm_sok4, sm_in _ sm_nok4⟩
  | n + 5, h => omega
theorem sm_Ook (o nL : Nat) (ho : o < 5) (tb : Nat → Option (Instr × Nat)) (scr : Option (Nat × (Nat → Int32))) (rt : Option FieldType) : sm_Own sm_cl sm_tb (sm_own o) sm_Y sm_CC sm_ML sm_RT (tb, sm_Kn o nL scr, fun x => sm_lk (sm_ca o) x, rt) := by
  obtain ⟨c1, c2, c3, c4, c5, c6⟩ := sm_chks o ho
  have mg : ∀ k, k < sm_md.length → sm_mgood (sm_m k) := fun k hk => sm_mgood_all _ (sm_m_in hk)
  refine ⟨fun x ci k t h => sm_fchk_s c1 x ci k t (sm_lk_s h), fun x v h => c3 _ (List.mem_map.mpr ⟨_, sm_lk_s h, rfl⟩), fun x v h => c4 _ (List.mem_map.mpr ⟨_, sm_lk_s h, rfl⟩), fun x h => ?_, ⟨fun x h => c6 _ (List.mem_map.mpr ⟨_, sm_lk_s h, rfl⟩), fun x h => c6 _ (List.mem_map.mpr ⟨_, sm_lk_s h, rfl⟩), fun x h => c6 _ (List.mem_map.mpr ⟨_, sm_lk_s h, rfl⟩), fun x h => c6 _ (List.mem_map.mpr ⟨_, sm_lk_s h, rfl⟩)⟩, sm_jdk, fun x k np ci h => ?_, fun x k np ci h => ?_, fun x k np ci h => ?_⟩
  · obtain ⟨u, hu⟩ := Option.isSome_iff_exists.mp (show (sm_lk (sm_st o) x).isSome = true from h)
    exact c5 _ (List.mem_map.mpr ⟨_, sm_lk_s hu, rfl⟩)
  · obtain ⟨d1, d2, d3, d4, -, -⟩ := sm_cchk_s _ c2 _ (sm_lk_s h)
    obtain ⟨e1, e2, e3, e4⟩ := d4 rfl
    obtain ⟨g1, g2, g3, g4, g5, g6, g7, g8, g9⟩ := mg k d1
    obtain ⟨q, hq, hq1⟩ := sm_cl_at ci e4
    have hcls : (sm_Y k).cls = q.1 := by rw [hq1]; exact g6.trans (congrArg sm_own e3)
    have d3 : Jvm.Cond.initialized (sm_Y k).cls ∈ sm_tb := d3
    have gs : Jvm.Cond.selects (sm_Y k).cls (sm_Y k) (sm_Y k) ∈ sm_tb := (g3 e2).2
    rw [hcls] at d3 gs
    exact ⟨q, hq, hcls, e1, (g3 e2).1, gs, d3, g1, ⟨g8, g9, d2⟩, g5⟩
  · obtain ⟨d1, d2, d3, -, d4, -⟩ := sm_cchk_s _ c2 _ (sm_lk_s h)
    obtain ⟨e1, e2, e3⟩ := d4 rfl
    obtain ⟨g1, g2, g3, g4, g5, g6, g7, g8, g9⟩ := mg k d1
    have d3 : Jvm.Cond.initialized (sm_Y k).cls ∈ sm_tb := d3
    have e3 : (sm_Y k).cls = sm_own o := e3
    rw [e3] at d3
    exact ⟨e3, e1, g2 e2, d3, g1, ⟨g8, g9, d2⟩, g5⟩
  · obtain ⟨d1, d2, d3, -, -, d4⟩ := sm_cchk_s _ c2 _ (sm_lk_s h)
    obtain ⟨e1, e2⟩ := d4 rfl
    obtain ⟨g1, g2, g3, g4, g5, g6, g7, g8, g9⟩ := mg k d1
    exact ⟨_, e1, g2 e2, d3, g1, ⟨g8, g9, d2⟩, g5⟩
theorem sm_zip_at {α β : Type} {l : List α} {r : List β} {k : Nat} {a : α} {b : β} (h1 : k < l.length) (h2 : k < r.length) : (l.getD k a, r.getD k b) ∈ l.zip r := by
  apply List.mem_of_getElem? (i := k)
  rw [List.getElem?_zip_eq_some, List.getD_eq_getElem?_getD, List.getD_eq_getElem?_getD, List.getElem?_eq_getElem h1, List.getElem?_eq_getElem h2]
  exact ⟨rfl, rfl⟩
theorem sm_dec_g {md : List sm_MT} {tl : List (List (Nat × List (Nat × Instr × Nat)))} (hz : ∀ z ∈ md.zip tl, ∀ u ∈ z.2, ∀ q ∈ u.2, decode z.1.2.1 q.1 = .ok q.2) {k : Nat} {d : sm_MT} (h1 : k < md.length) (h2 : k < tl.length) (pc : Nat) (i : Instr) (n : Nat) (h : sm_ch (tl.getD k []) pc = some (i, n)) : decode (md.getD k d).2.1 pc = .ok (i, n) := by
  obtain ⟨u, hu, hm⟩ := sm_ch_s h
  have a := hz (md.getD k d, tl.getD k []) (sm_zip_at h1 h2) u hu (pc, i, n) hm
  dsimp only at a
  exact a
theorem sm_dec {k : Nat} (hk : k < 200) (pc : Nat) (i : Instr) (n : Nat) (h : (sm_B k).1 pc = some (i, n)) : decode (sm_CC k) pc = .ok (i, n) :=
  sm_dec_g sm_tz (Nat.lt_of_lt_of_eq hk sm_md_len.symm) (Nat.lt_of_lt_of_eq hk sm_tl_len.symm) pc i n h
/-- all methods' contracts, calls d deep at most -/
theorem sm_prog {l : Launch} {D : va_G} {cid : Nat → ClassId} {ad : Nat → Nat} : ∀ (d k : Nat) (vs : List Value) (h : List va_E) (o : Option Value) (h' : List va_E), sm_Ex 200 sm_ML sm_B d k vs h o h' → sm_C l D sm_cl cid ad (sm_Y k) (sm_ws sm_tb sm_Y sm_CC sm_ML sm_RT k) (sm_rm d) vs h o h' := by
  refine sm_all sm_tb_good (fun k hk => ?_)
  have hg := sm_mgood_all _ (sm_m_in (k := k) (by rw [sm_md_len]; exact hk))
  obtain ⟨g1, g2, g3, g4, g5, g6, g7, g8, g9⟩ := hg
  refine ⟨g4, ?_, fun pc i n h => sm_dec hk pc i n h, rfl, rfl, rfl⟩
  have e : (sm_Y k).cls = sm_own (sm_O k) := g6
  rw [e]
  exact sm_Ook (sm_O k) (sm_ML k) (Nat.lt_succ_of_lt g7) _ none (sm_RT k)
