/-! Register: both sides answer alike, and the tie stands. -/
theorem rg_R {A B Z : fl_M} (hZ : ∀ c j, Z c j = if c = 82 ∧ j < 944 then 0 else B c j) (e0 : A 24 0 = B 81 19) (e1 : A 24 1 = B 81 22) (h8 : (A 24 0).toNatClampNeg ≤ 8) (h4 : (A 24 1).toNatClampNeg ≤ 4) :
    (∀ c j, ¬ (c = 82 ∧ 944 ≤ j) → lr_129_204 (lr_129_139 (lr_129_85 (fl_u (fl_u (fl_u Z 82 2 (-9)) 81 1 (Z 81 19)) 81 4 (Z 81 22)))) c j =
      if c = 85 ∧ j < (A 24 1).toNatClampNeg then B 94 (3 * j) else if c = 86 ∧ j < (A 24 1).toNatClampNeg then B 94 (3 * j + 2) else if c = 82 ∧ 20 ≤ j ∧ j < 20 + (A 24 1).toNatClampNeg then B 94 (3 * (j - 20) + 1) else
      if c = 83 ∧ j < (A 24 0).toNatClampNeg then B 92 j else if c = 84 ∧ j < (A 24 0).toNatClampNeg then B 93 j else if c = 82 ∧ 4 ≤ j ∧ j < 4 + (A 24 0).toNatClampNeg then B 93 (j - 4) else
      if c = 81 ∧ j = 4 then A 24 1 else if c = 81 ∧ j = 1 then A 24 0 else if c = 82 ∧ j = 2 then -9 else if c = 82 then 0 else B c j) ∧
    ∀ k, k < 3 → lr_129_204 (lr_129_139 (lr_129_85 (fl_u (fl_u (fl_u Z 82 2 (-9)) 81 1 (Z 81 19)) 81 4 (Z 81 22)))) 82 (944 + 944 * k) = -1 := by
  obtain ⟨Y, hY⟩ : ∃ Y : fl_M, Y = fl_u (fl_u (fl_u Z 82 2 (-9)) 81 1 (Z 81 19)) 81 4 (Z 81 22) := ⟨_, rfl⟩
  rw [← hY]
  have z1 : Z 81 19 = A 24 0 := by rw [hZ, if_neg (by omega), e0]
  have z4 : Z 81 22 = A 24 1 := by rw [hZ, if_neg (by omega), e1]
  have eY : ∀ c j, Y c j = if c = 81 ∧ j = 4 then A 24 1 else if c = 81 ∧ j = 1 then A 24 0 else if c = 82 ∧ j = 2 then -9 else if c = 82 ∧ j < 944 then 0 else B c j := fun c j => by
    rw [hY, z1, z4]
    unfold fl_u
    rw [hZ]
  have y1 : Y 81 1 = A 24 0 := by rw [eY, if_neg (by omega), if_pos ⟨rfl, rfl⟩]
  have y4 : Y 81 4 = A 24 1 := by rw [eY, if_pos ⟨rfl, rfl⟩]
  have eP := rg_85 (Y := Y) (by rw [y1]; exact h8)
  rw [y1] at eP
  obtain ⟨P, hP⟩ : ∃ P : fl_M, P = lr_129_85 Y := ⟨_, rfl⟩
  rw [← hP] at eP ⊢
  have p4 : P 81 4 = A 24 1 := by rw [eP, if_neg (by omega), if_neg (by omega), if_neg (by omega), y4]
  have eQ := rg_139 (Y := P) (by rw [p4]; exact h4)
  rw [p4] at eQ
  obtain ⟨Q, hQ⟩ : ∃ Q : fl_M, Q = lr_129_139 P := ⟨_, rfl⟩
  rw [← hQ] at eQ ⊢
  obtain ⟨r1, r2⟩ := rg_204 Q
  refine ⟨fun c j hc => ?_, r2⟩
  have yB : ∀ c, c ≠ 81 → c ≠ 82 → ∀ i, Y c i = B c i := fun c h1 h2 i => by rw [eY, if_neg (by omega), if_neg (by omega), if_neg (by omega), if_neg (by omega)]
  have pB : ∀ i, P 94 i = B 94 i := fun i => by rw [eP, if_neg (by omega), if_neg (by omega), if_neg (by omega), yB 94 (by decide) (by decide)]
  rw [r1 c j hc, eQ, pB, pB, pB, eP, yB 92 (by decide) (by decide), yB 93 (by decide) (by decide), yB 93 (by decide) (by decide), eY]
  by_cases h : c = 82
  · by_cases h9 : j < 944
    · simp only [h, h9, and_self, if_true]
    · exact absurd ⟨h, by omega⟩ hc
  · simp only [h, false_and, if_false]
theorem rg_tt {a : Nat} {n t : Int32} {b : Nat → Int32} {A B : fl_M} (h : ps a n t b A B) (hv : iv A) : tt (lr_21_66 (fl_u (m_23 15 24 (bgn 24 A)) 42 0 0)) (lr_129_204 (lr_129_139 (lr_129_85 (fl_u (fl_u (fl_u (lr_129_39 B) 82 2 (-9)) 81 1 ((lr_129_39 B) 81 19)) 81 4 ((lr_129_39 B) 81 22))))) := by
  obtain ⟨-, -, -, e0, e1, ⟨⟨i1, i2⟩, ⟨i3, i4⟩, -⟩, -, p10, p11⟩ := h
  obtain ⟨v1, v2⟩ := hv
  have c0 := fi_cl (A 24 0)
  have c1 := fi_cl (A 24 1)
  obtain ⟨rr, rk⟩ := rg_R (A := A) (B := B) (Z := lr_129_39 B) (rg_39 B) e0 e1 (by omega) (by omega)
  obtain ⟨R, hR⟩ : ∃ R : fl_M, R = lr_129_204 (lr_129_139 (lr_129_85 (fl_u (fl_u (fl_u (lr_129_39 B) 82 2 (-9)) 81 1 ((lr_129_39 B) 81 19)) 81 4 ((lr_129_39 B) 81 22)))) := ⟨_, rfl⟩
  rw [← hR] at rr rk ⊢
  have r811 : R 81 1 = A 24 0 := by rw [rr 81 1 (by omega)]; rfl
  have r814 : R 81 4 = A 24 1 := by rw [rr 81 4 (by omega)]; rfl
  have r83 : ∀ l, l < (A 24 0).toNatClampNeg → R 83 l = B 92 l := fun l hl => by
    rw [rr 83 l (by omega), if_neg (by omega), if_neg (by omega), if_neg (by omega), if_pos ⟨rfl, hl⟩]
  have r84 : ∀ l, l < (A 24 0).toNatClampNeg → R 84 l = B 93 l := fun l hl => by
    rw [rr 84 l (by omega), if_neg (by omega), if_neg (by omega), if_neg (by omega), if_neg (by omega), if_pos ⟨rfl, hl⟩]
  have r85 : ∀ l, l < (A 24 1).toNatClampNeg → R 85 l = B 94 (3 * l) := fun l hl => by
    rw [rr 85 l (by omega), if_pos ⟨rfl, hl⟩]
  have r86 : ∀ l, l < (A 24 1).toNatClampNeg → R 86 l = B 94 (3 * l + 2) := fun l hl => by
    rw [rr 86 l (by omega), if_neg (by omega), if_pos ⟨rfl, hl⟩]
  have rp : ∀ l, l < (A 24 1).toNatClampNeg → R 82 (20 + l) = B 94 (3 * l + 1) := fun l hl => by
    rw [rr 82 (20 + l) (by omega), if_neg (by omega), if_neg (by omega), if_pos ⟨rfl, by omega, by omega⟩, show 20 + l - 20 = l by omega]
  have rl : ∀ l, l < (A 24 0).toNatClampNeg → R 82 (4 + l) = B 93 l := fun l hl => by
    rw [rr 82 (4 + l) (by omega), if_neg (by omega), if_neg (by omega), if_neg (by omega), if_neg (by omega), if_neg (by omega), if_pos ⟨rfl, by omega, by omega⟩, show 4 + l - 4 = l by omega]
  have r0 : ∀ j, j < 20 → (j < 4 ∨ 12 ≤ j) → R 82 j = if j = 2 then -9 else 0 := fun j h1 h2 => by
    rw [rr 82 j (by omega), if_neg (by omega), if_neg (by omega), if_neg (by omega), if_neg (by omega), if_neg (by omega), if_neg (by omega), if_neg (by omega), if_neg (by omega)]
    by_cases h3 : j = 2
    · rw [if_pos ⟨rfl, h3⟩, if_pos h3]
    · rw [if_neg (fun z => h3 z.2), if_pos rfl, if_neg h3]
  have rz : ∀ l, l < 8 → R 82 (0 + 12 + l) = 0 := fun l hl => by
    rw [r0 (0 + 12 + l) (by omega) (by omega), if_neg (by omega)]
  have r1 : R 82 (0 + 1) = 0 := by rw [r0 (0 + 1) (by omega) (by omega), if_neg (by omega)]
  have r2 : R 82 (0 + 2) = -9 := by rw [r0 (0 + 2) (by omega) (by omega), if_pos rfl]
  have r3 : R 82 (0 + 3) = 0 := by rw [r0 (0 + 3) (by omega) (by omega), if_neg (by omega)]
  have rl' : ∀ l, l < (A 24 0).toNatClampNeg → R 82 (0 + 4 + l) = A 26 l ∧ 0 ≤ (A 26 l).toInt ∧ (A 26 l).toInt ≤ 40 := fun l hl => ⟨(rl l hl).trans (p10 l (by omega)).2.symm, v1 l (by omega)⟩
  have rp' : ∀ i, i < (A 24 1).toNatClampNeg → R 82 (0 + 20 + i) = A 31 i ∧ 0 ≤ (A 31 i).toInt ∧ (A 31 i).toInt < (A 24 0).toInt := fun i hi => ⟨(rp i hi).trans (p11 i (by omega)).2.1.symm, (v2 i (by omega)).2⟩
  obtain ⟨g0, g1, g2, g3, g4, g5, g6, g7⟩ := bg_eq (T := 24) (C := A) (by omega) (by omega)
  obtain ⟨G, hG⟩ : ∃ G : fl_M, G = bgn 24 A := ⟨_, rfl⟩
  rw [← hG] at g0 g1 g2 g3 g4 g5 g6 g7 ⊢
  have tG : tr 24 0 G R := by
    refine ⟨⟨g1.trans r811.symm, g2.trans r814.symm, by rw [g1]; exact ⟨i1, i2⟩, by rw [g2]; exact ⟨i3, i4⟩, fun l hl => ?_, fun i hi => ?_⟩, g3.trans r1.symm, g4.trans r2.symm, g5.trans r3.symm, fun l hl => ?_, fun i hi => ?_, fun l _ h8 => rz l h8⟩
    · rw [g1] at hl
      have q := p10 l (by omega)
      exact ⟨((congrFun (g0 25 (by decide) (by decide) (by decide) (by decide)) l).trans q.1).trans (r83 l hl).symm, ((congrFun (g0 26 (by decide) (by decide) (by decide) (by decide)) l).trans q.2).trans (r84 l hl).symm⟩
    · rw [g2] at hi
      have q := p11 i (by omega)
      have w := (v2 i (by omega)).1
      have e30 : G (24 + 6) i = A 30 i := congrFun (g0 30 (by decide) (by decide) (by decide) (by decide)) i
      exact ⟨((congrFun (g0 29 (by decide) (by decide) (by decide) (by decide)) i).trans q.1).trans (r85 i hi).symm, (e30.trans q.2.2).trans (r86 i hi).symm, by rw [e30]; exact w⟩
    · rw [g1] at hl
      obtain ⟨x1, x2⟩ := g6 l hl
      obtain ⟨y1, y2⟩ := rl' l hl
      have x1 : G (24 + 3) l = A 26 l := x1
      have l8 : l < 8 := by omega
      refine ⟨⟨x1.trans y1.symm, by rw [x1]; exact y2⟩, x2.trans (rz l l8).symm, ?_⟩
      rw [x2]
      exact ⟨by decide, by decide⟩
    · rw [g2] at hi
      have x := g7 i hi
      have x : G (24 + 8) i = A 31 i := x
      obtain ⟨y1, y2⟩ := rp' i hi
      exact ⟨x.trans y1.symm, by rw [x, g1]; exact y2⟩
  have tD := tk_rg (T := 15) (O := 24) (Or.inl (by omega)) tG
  have t7 := tk_7 (T := 15) (O := 24) (Or.inl (by omega)) tG
  obtain ⟨D, hD⟩ : ∃ D : fl_M, D = m_23 15 24 G := ⟨_, rfl⟩
  rw [← hD] at tD t7 ⊢
  obtain ⟨k1, k2⟩ := rg_66 (fl_u D 42 0 0)
  obtain ⟨C, hC⟩ : ∃ C : fl_M, C = lr_21_66 (fl_u D 42 0 0) := ⟨_, rfl⟩
  rw [← hC] at k1 k2 ⊢
  have oC : ∀ c, c < 42 → C c = D c := fun c hc => (k1 c (by omega)).trans (fl_un (by omega))
  have c42 : C 42 0 = 0 := by rw [k1 42 (by omega), fl_us]
  have tC : tr 15 0 C R := tr_cc tD (fun k hk => oC _ (by omega))
  have d0 : C 15 0 = A 24 0 := tC.1.1.trans r811
  have d1 : C 15 1 = A 24 1 := tC.1.2.1.trans r814
  have d22 : ∀ i, i < (A 24 1).toNatClampNeg → C 22 i = A 31 i := fun i hi => by
    rw [oC 22 (by omega)]
    exact (t7 i (by rw [g2]; exact hi)).trans (congrFun (g0 31 (by decide) (by decide) (by decide) (by decide)) i)
  have r00 : R 82 0 = 0 := by rw [r0 0 (by omega) (by omega), if_neg (by omega)]
  refine ⟨tC, ?_, by rw [c42]; decide, fun k hk => ?_⟩
  · unfold kh
    rw [c42, r00]
    refine ⟨rfl, by decide, by decide, fun _ => ⟨fun n hn => absurd hn (Nat.not_lt_zero n), ?_⟩⟩
    have hb0 : hb 0 (0 : Int32).toNatClampNeg 0 = 0 := if_neg (Nat.not_lt_zero 0)
    rw [hb0]
    refine ⟨r1, r2, r3, fun l hl => ?_, rz, fun i hi => ?_⟩
    · rw [d0] at hl
      obtain ⟨y1, y2⟩ := rl' l hl
      have e : R 84 l = A 26 l := (r84 l hl).trans (p10 l (by omega)).2.symm
      exact ⟨y1.trans e.symm, by rw [e]; exact y2⟩
    · rw [d1] at hi
      rw [d22 i hi, d0]
      exact rp' i hi
  · unfold kh
    rw [k2 k hk, rk k hk]
    exact ⟨rfl, by decide, by decide, fun z => absurd z (by decide)⟩
section RE
variable {C R : fl_M}
theorem re_p (h : t2 C R) (hf : f2 C R) (hK : C 999 = sm_kl) (t : Int32) : v_21 t C = v_129 t R ∧ t2 (m_21 t C) (m_129 t R) := by
  unfold v_21 v_129 m_21 m_129
  by_cases hA : (t < 0) ∨ (¬ (t < 4))
  · simp only [if_pos hA, if_neg (fun z => ft_A3.mp z hA)]
    exact ⟨trivial, h⟩
  · obtain ⟨r1, r2, r3⟩ := ft_R4 hA
    obtain ⟨t1, gl, gu, t2'⟩ := hf.2 _ r3
    simp only [if_neg hA, if_pos (ft_A3.mpr hA)]
    rw [← t1]
    by_cases hB : C 9 t.toNatClampNeg = -1
    · simp only [if_pos hB, if_pos ((ft_B gl).mpr hB)]
      exact ⟨trivial, t2_no h 1 (f := 1) (by decide)⟩
    · simp only [if_neg hB, if_neg (fun z => hB ((ft_B gl).mp z))]
      rw [← ra_fo hf hK r1 r2 hB]
      by_cases hz : ra_v C t = (-9)
      · simp only [if_pos hz]
        have hps := ra_ps hf hK r1 r2 hB hz
        have ht := rg_tt hps (iv_ra hK r1 r2)
        have zC := az_ra C t
        have zR := fz_fo R t
        obtain ⟨-, -, -, e0, e1, ⟨⟨i1, i2⟩, ⟨i3, i4⟩, -⟩, -⟩ := hps
        have c0 := fi_cl (ra_M C t 24 0)
        have c1 := fi_cl (ra_M C t 24 1)
        obtain ⟨rr, -⟩ := rg_R (A := ra_M C t) (B := fo_M R t) (Z := lr_129_39 (fo_M R t)) (rg_39 _) e0 e1 (by omega) (by omega)
        have ebg : lr_22_53 24 (lr_22_18 24 (fl_u (fl_u (fl_u (ra_M C t) 24 2 0) 24 3 (-9)) 24 4 0)) = bgn 24 (ra_M C t) := rfl
        rw [ebg]
        obtain ⟨g0, -⟩ := bg_eq (T := 24) (C := ra_M C t) (by omega) (by omega)
        have oC : ∀ c, (c < 15 ∨ 58 < c) → lr_21_66 (fl_u (m_23 15 24 (bgn 24 (ra_M C t))) 42 0 0) c = C c := fun c hc => by
          rw [(rg_66 _).1 c (by omega), fl_un (by omega)]
          have e : m_23 15 24 (bgn 24 (ra_M C t)) c = bgn 24 (ra_M C t) c := by funext j; exact fr_23 (by omega)
          rw [e, g0 c (by omega) (by omega) (by omega) (by omega), zC c (by omega)]
        obtain ⟨q1, q2, q3⟩ := h.2
        refine ⟨ht.1.1.2.1, ht, ?_, ?_, fun f hf => ?_⟩
        · intro z
          rw [oC 0 (by omega), rr 81 11 (by omega), q1 z]
          exact (zR.2 11 (by decide)).symm
        · rw [oC 0 (by omega), rr 81 14 (by omega), q2]
          exact (zR.2 14 (by decide)).symm
        · rw [oC 80 (by omega), rr 91 f (by omega), q3 f hf]
          exact (congrFun (zR.1 91 (by decide)) f).symm
      · simp only [if_neg hz]
        exact ⟨trivial, t2_z h (az_ra C t) (fz_fo R t)⟩
end RE
