/-! Both sides one after the other, over one heap. -/
theorem gm_i {h h' : List va_E} {a : Nat} (e : h'[a]? = h[a]?) : fm_i h' a = fm_i h a := by
  funext i
  unfold fm_i
  rw [e]
theorem gm_l {h h' : List va_E} {a : Nat} (e : h'[a]? = h[a]?) : fm_l h' a = fm_l h a := by
  funext i
  unfold fm_l
  rw [e]
theorem pt_c {d kc km : Nat} {vs : List Value} {h h1 h2 : List va_E} {o1 o2 o o' : Option Value} {mc mr : fl_M} {jc jr : fl_J} (x1 : sm_Ex 200 sm_ML sm_B d kc (.ref 0 :: vs) h o1 h1) (y1 : sm_Ex 200 sm_ML sm_B d km (.ref 81 :: vs) h1 o2 h2) (hs : fl_sh h) (lo : ∀ a, 81 ≤ a → h1[a]? = h[a]?) (hi : ∀ a, a < 81 → h2[a]? = h1[a]?)
    (ht : t2 (fm_i h) (fm_i h)) (hj : jd (fm_l h) (fm_l h)) (hF : fl_C kc (.ref 0 :: vs) (fm_i h) (fm_l h) (o, mc, jc)) (hG : fl_C km (.ref 81 :: vs) (fm_i h1) (fm_l h1) (o', mr, jr))
    (hP : (∀ a, 81 ≤ a → fm_i h1 a = fm_i h a) → t2 (fm_i h) (fm_i h1) → jd (fm_l h) (fm_l h1) → t2 mc mr ∧ jd jc jr) : o1 = o ∧ o2 = o' ∧ t2 (fm_i h2) (fm_i h2) ∧ jd (fm_l h2) (fm_l h2) ∧ fl_sh h2 := by
  obtain ⟨s1, a1, m1, j1⟩ := fl_use x1 hs hF
  obtain ⟨s2, a2, m2, j2⟩ := fl_use y1 s1 hG
  have l1 : ∀ a, 81 ≤ a → fm_i h1 a = fm_i h a := fun a ha => gm_i (lo a ha)
  obtain ⟨p1, p2⟩ := hP l1 (t2_c ht (fun _ _ => rfl) (fun k hk => l1 k (by omega)) (fun j _ => by rw [l1 82 (by decide)])) ⟨by rw [gm_l (lo 81 (by decide))]; exact hj.1, by rw [gm_l (lo 81 (by decide))]; exact hj.2⟩
  have m1 : fm_i h1 = mc := m1
  have m2 : fm_i h2 = mr := m2
  have j1 : fm_l h1 = jc := j1
  have j2 : fm_l h2 = jr := j2
  refine ⟨a1, a2, ?_, ?_, s2⟩
  · rw [← m1, ← m2] at p1
    by_cases h81 : True
    · refine t2_c p1 (fun c hc => ?_) (fun k hk => rfl) (fun j _ => rfl)
      rcases Nat.lt_or_ge c 81 with h8 | h8
      · exact gm_i (hi c h8)
      · omega
    · exact absurd trivial h81
  · rw [← j1, ← j2] at p2
    exact ⟨by rw [gm_l (hi 0 (by decide))]; exact p2.1, by rw [gm_l (hi 0 (by decide))]; exact p2.2⟩
