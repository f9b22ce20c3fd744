/-- which duels are fought -/
def dw_B (R : fl_M) (a b n : Int32) : Prop := ((¬ (a < 0)) ∧ (¬ ((R 81 1) - 1 < a))) ∧ ((¬ (b < 0)) ∧ (¬ ((R 81 1) - 1 < b))) ∧ (¬ (a = b)) ∧ ((¬ (n < 0)) ∧ (¬ (2 < n)))
theorem dw_r {R : fl_M} (J : fl_J) (a b n : Int32) (r1 : 0 ≤ (R 81 1).toInt ∧ (R 81 1).toInt ≤ 8) (r4 : 0 ≤ (R 81 4).toInt ∧ (R 81 4).toInt ≤ 4) (r9 : ∀ j, j < 4 → 0 ≤ (R 96 j).toInt ∧ (R 96 j).toInt ≤ 9) : ∃ (v : Int32) (X : fl_M), fl_C 180 [.ref 81, .int a, .int b, .int n] R J (some (.int v), X, J) ∧ fD R X ∧ (dw_B R a b n → v = 1) ∧ (¬ dw_B R a b n → v = -1) := by
  have id : fD R R := ⟨fun _ _ => rfl, fun _ _ => rfl, fun _ _ => rfl⟩
  by_cases h : dw_B R a b n
  · have hh := h
    obtain ⟨b1, b2, b3, b4⟩ := h
    have hz := dw_z (X := R) r1 r4 (fun j hj => (r9 j hj).1) 0 (by decide)
    have z96 := hz.1 96 (by decide)
    have hf : fD R (fl_u (lr_161_2 1 (lr_181_7 0 (lr_160_2 R))) 97 4 (v_181 a b 0 R)) := fD_u (fD_R id hz) (Or.inr rfl)
    have n0 := b4.1
    have n2 := b4.2
    rw [fi_l, fi_i0] at n0
    rw [fi_l, fj_2] at n2
    have en : (2 * n).toInt = 2 * n.toInt := by rw [fi_mul (by rw [fj_2]; omega) (by rw [fj_2]; omega), fj_2]
    by_cases c : 0 < 2 * n
    · have c' := c
      rw [fi_l, fi_i0, en] at c'
      obtain ⟨v, hv⟩ := m_182_e 0 (fl_u (lr_161_2 1 (lr_181_7 0 (lr_160_2 R))) 97 4 (v_181 a b 0 R))
      have e0 : (0 : Int32).toNatClampNeg = 0 := rfl
      have hu : ∀ j, j < 4 → 0 ≤ ((m_182 0 (fl_u (lr_161_2 1 (lr_181_7 0 (lr_160_2 R))) 97 4 (v_181 a b 0 R))) 96 j).toInt ∧ ((m_182 0 (fl_u (lr_161_2 1 (lr_181_7 0 (lr_160_2 R))) 97 4 (v_181 a b 0 R))) 96 j).toInt ≤ 9 := by
        intro j hj
        rw [hv, fl_un (by decide), e0]
        by_cases h : j = 0
        · rw [h, fl_us]; decide
        · rw [fl_uo (Or.inr h), fl_un (by decide), z96]; exact r9 j hj
      obtain ⟨X, x1, x2⟩ := dw_l J a b n (2 * n) r1 r4 (by omega) (dw_m (lf (m_182 0 (fl_u (lr_161_2 1 (lr_181_7 0 (lr_160_2 R))) 97 4 (v_181 a b 0 R)))) 0).toNat 0 .null (m_182 0 (fl_u (lr_161_2 1 (lr_181_7 0 (lr_160_2 R))) 97 4 (v_181 a b 0 R))) (by decide) (by rw [fi_i0]; omega) ⟨by rw [hv]; exact fD_u (fD_u hf (Or.inl rfl)) (Or.inr rfl), hu, fun j hj => by rw [fi_i0] at hj; omega⟩ (by rw [fi_i0]; exact Int.self_le_toNat _)
      exact ⟨1, X, fl_Co (B := fB180) rfl rfl (ts_180_0 a b n R J (fun _ _ z => absurd z b3) (fun _ _ _ _ _ => x2) (fun _ _ _ _ z => absurd c z) (fun _ _ _ z => absurd b4 z) (fun _ z => absurd b2 z) (fun z => absurd b1 z)), x1, fun _ => rfl, fun z => absurd hh z⟩
    · refine ⟨1, _, fl_Co (B := fB180) rfl rfl (ts_180_0 a b n R J (fun _ _ z => absurd z b3) (fun _ _ _ _ z => absurd z c) (fun _ _ _ _ _ => ts_180_66 a b n (2 * n) 0 .null _ J (fun z => absurd z c) (fun z => absurd z c) (fun z => absurd z c) (fun z => absurd z c) (fun z => absurd z c) (fun _ => rfl)) (fun _ _ _ z => absurd b4 z) (fun _ z => absurd b2 z) (fun z => absurd b1 z)), fD_11 hf, fun _ => rfl, fun z => absurd hh z⟩
  · exact ⟨-1, R, fl_Co (B := fB180) rfl rfl (ts_180_0 a b n R J (fun _ _ _ => rfl) (fun z1 z2 z3 z4 _ => absurd ⟨z1, z2, z3, z4⟩ h) (fun z1 z2 z3 z4 _ => absurd ⟨z1, z2, z3, z4⟩ h) (fun _ _ _ _ => rfl) (fun _ _ => rfl) (fun _ => rfl)), id, fun z => absurd z h, fun _ => rfl⟩
