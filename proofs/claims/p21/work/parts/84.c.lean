theorem dw_l {R : fl_M} (J : fl_J) (a b n tt : Int32) (r1 : 0 ≤ (R 81 1).toInt ∧ (R 81 1).toInt ≤ 8) (r4 : 0 ≤ (R 81 4).toInt ∧ (R 81 4).toInt ≤ 4) (ht : tt.toInt = 2 ∨ tt.toInt = 4) : ∀ (N : Nat) (tu : Int32) (u6 : Value) (M : fl_M), -1 ≤ tu.toInt → tu.toInt < tt.toInt → DI R M tu.toInt → dw_m (lf M) tu.toInt ≤ (N : Int) → ∃ X, fD R X ∧ fl_dn fB180 (66, [.ref 81, .int a, .int b, .int n, .int tt, .int tu, u6], [], M, J) (some (.int 1), X, J) := by
  have em : (-1 : Int32).toInt = -1 := rfl
  have t0 : 0 < tt := fi_l.mpr (by rw [fi_i0]; omega)
  have t4 : tt.toInt ≤ 4 := by omega
  intro N
  induction N with
  | zero =>
    intro tu u6 M h0 h1 hD hN
    by_cases c1 : tu < 0
    · exact ⟨_, fD_11 hD.1, ts_180_66 a b n tt tu u6 M J (fun _ _ => rfl) (fun _ z => absurd c1 z) (fun _ z => absurd c1 z) (fun _ z => absurd c1 z) (fun _ z => absurd c1 z) (fun z => absurd t0 z)⟩
    · rw [fi_l, fi_i0] at c1
      have := dw_m0 (l := lf M) (T := tu.toInt) (by omega) (fun j hj => (hD.2.1 j hj).2) (by omega)
      omega
  | succ N ih =>
    intro tu u6 M h0 h1 hD hN
    by_cases c1 : tu < 0
    · exact ⟨_, fD_11 hD.1, ts_180_66 a b n tt tu u6 M J (fun _ _ => rfl) (fun _ z => absurd c1 z) (fun _ z => absurd c1 z) (fun _ z => absurd c1 z) (fun _ z => absurd c1 z) (fun z => absurd t0 z)⟩
    have d1 := c1
    rw [fi_l, fi_i0] at d1
    have ck := fi_cl tu
    have ek : tu.toInt = (tu.toNatClampNeg : Nat) := by omega
    have e81 : M 81 1 = R 81 1 := hD.1.2.1 1 (by decide)
    have e84 : M 81 4 = R 81 4 := hD.1.2.1 4 (by decide)
    have k4 : tu.toNatClampNeg < 4 := by omega
    have hk := hD.2.1 tu.toNatClampNeg k4
    have t00 : 0 ≤ tu.toInt := by omega
    have tl4 : tu.toInt < 4 := by omega
    by_cases c2 : M 81 1 < M 96 tu.toNatClampNeg
    · have ep := dw_p1 t00 tl4
      obtain ⟨g1, g2, g3⟩ := dw_p2 ep t00 h1 t4
      by_cases c3 : tu + (-1) < 0
      · have d3 := c3
        rw [fi_l, fi_i0] at d3
        obtain ⟨X, x1, x2⟩ := ih (tu + (-1)) (.int (M 97 tu.toNatClampNeg)) (fl_u M 97 4 (M 97 tu.toNatClampNeg)) g1 g2 ⟨fD_u hD.1 (Or.inr rfl), fun j hj => by rw [fl_un (by decide)]; exact hD.2.1 j hj, fun j hj => (dw_j hj d3).elim⟩ (dw_neg d3 N)
        exact ⟨X, x1, ts_180_66 a b n tt tu u6 M J (fun _ z => absurd z c1) (fun _ _ _ _ => x2) (fun _ _ _ z => absurd c3 z) (fun _ _ z => absurd c2 z) (fun _ _ z => absurd c2 z) (fun z => absurd t0 z)⟩
      · have d3 := c3
        rw [fi_l, fi_i0] at d3
        obtain ⟨g4, g5, g6, g7⟩ := g3 (Int.not_lt.mp d3)
        have h8 := hD.2.2 (tu + (-1)).toNatClampNeg g7
        have k9 : (M 96 (tu + (-1)).toNatClampNeg).toInt < 2147483647 := Int.lt_of_le_of_lt h8 (by decide)
        have hu := dw_u96 (M := M) (Z := M) (k := (tu + (-1)).toNatClampNeg) (i := (tu + (-1)).toNatClampNeg) (x := M 96 (tu + (-1)).toNatClampNeg + 1) (v := v_183 (tu + (-1)) (M 97 ((tu + (-1)).toNatClampNeg)) (M 97 tu.toNatClampNeg)) rfl
        rw [fi_p1 k9] at hu
        obtain ⟨d, m⟩ := dw_s3 g4 g5 g6 hD (fD_u (fD_u hD.1 (Or.inr rfl)) (Or.inl rfl)) hu
        obtain ⟨X, x1, x2⟩ := ih (tu + (-1)) (.int (M 97 tu.toNatClampNeg)) _ g1 g2 d (dw_le m hN)
        exact ⟨X, x1, ts_180_66 a b n tt tu u6 M J (fun _ z => absurd z c1) (fun _ _ _ z => absurd z c3) (fun _ _ _ _ => x2) (fun _ _ z => absurd c2 z) (fun _ _ z => absurd c2 z) (fun z => absurd t0 z)⟩
    · have d2 := c2
      rw [fi_l, e81] at d2
      have k8 : (M 96 tu.toNatClampNeg).toInt ≤ 8 := by omega
      have k9 : (M 96 tu.toNatClampNeg).toInt < 2147483647 := by omega
      by_cases c4 : tu = tt - 1
      · have hz := dw_z (X := M) (by rw [e81]; exact r1) (by rw [e84]; exact r4) (fun j hj => (hD.2.1 j hj).1) tt t4
        have z96 := hz.1 96 (by decide)
        have hu := dw_u96 (M := M) (Z := lr_161_2 1 (lr_181_7 tt (lr_160_2 M))) (k := tu.toNatClampNeg) (i := tu.toNatClampNeg) (x := (lr_161_2 1 (lr_181_7 tt (lr_160_2 M))) 96 tu.toNatClampNeg + 1) (v := v_183 tu (M 97 tu.toNatClampNeg) (v_181 a b tt M)) z96
        have e2 : ((lr_161_2 1 (lr_181_7 tt (lr_160_2 M))) 96 tu.toNatClampNeg + 1).toInt = (M 96 tu.toNatClampNeg).toInt + 1 := by rw [z96]; exact fi_p1 k9
        rw [e2] at hu
        obtain ⟨d, m⟩ := dw_s1 ek k4 hD k8 (fD_u (fD_u (fD_R hD.1 hz) (Or.inr rfl)) (Or.inl rfl)) hu
        obtain ⟨X, x1, x2⟩ := ih tu u6 _ h0 h1 d (dw_le m hN)
        exact ⟨X, x1, ts_180_66 a b n tt tu u6 M J (fun _ z => absurd z c1) (fun _ _ z => absurd z c2) (fun _ _ z => absurd z c2) (fun _ _ _ _ => x2) (fun _ _ _ z => absurd c4 z) (fun z => absurd t0 z)⟩
      · have d4 : tu.toInt ≠ tt.toInt - 1 := fun z => c4 (fi_e.mpr (by rw [fi_sub (by rw [fi_i1]; omega) (by rw [fi_i1]; omega), fi_i1]; exact z))
        have e1 := fi_p1 (p := tu) (by omega)
        have cq := fi_cl (tu + 1)
        have eq : (tu + 1).toNatClampNeg = tu.toNatClampNeg + 1 := by omega
        have g1 : -1 ≤ (tu + 1).toInt := by omega
        have g2 : (tu + 1).toInt < tt.toInt := by omega
        have g5 : tu.toNatClampNeg + 1 < 4 := by omega
        obtain ⟨v, hv⟩ := m_182_e (tu + 1) M
        have hu : ∀ j, j < 4 → ((m_182 (tu + 1) M) 96 j).toInt = if j = tu.toNatClampNeg + 1 then 0 else (M 96 j).toInt := by
          intro j _
          rw [hv, fl_un (by decide), eq]
          by_cases h : j = tu.toNatClampNeg + 1
          · rw [h, fl_us, if_pos rfl]; rfl
          · rw [fl_uo (Or.inr h), if_neg h]
        obtain ⟨d, m⟩ := dw_s2 ek e1 g5 hD k8 (by rw [hv]; exact fD_u (fD_u hD.1 (Or.inl rfl)) (Or.inr rfl)) hu
        obtain ⟨X, x1, x2⟩ := ih (tu + 1) u6 _ g1 g2 d (dw_le m hN)
        exact ⟨X, x1, ts_180_66 a b n tt tu u6 M J (fun _ z => absurd z c1) (fun _ _ z => absurd z c2) (fun _ _ z => absurd z c2) (fun _ _ _ z => absurd z c4) (fun _ _ _ _ => x2) (fun z => absurd t0 z)⟩
