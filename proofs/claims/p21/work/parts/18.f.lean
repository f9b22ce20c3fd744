/-! All of the registers: as it is, its deeds, the kept ones. -/
def kh (D b : Nat) (C R : fl_M) : Prop := C D 0 = R 82 b ∧ -1 ≤ (C D 0).toInt ∧ (C D 0).toInt ≤ 40 ∧ (0 ≤ (C D 0).toInt → ch D b C R (C D 0).toNatClampNeg)
def tt (C R : fl_M) : Prop := tr 15 0 C R ∧ kh 42 0 C R ∧ 0 ≤ (C 42 0).toInt ∧ ∀ k, k < 3 → kh (47 + 4 * k) (944 + 944 * k) C R
theorem kh_mv {D b D' b' : Nat} {C R C' R' : fl_M} (h : kh D b C R) (h8 : (C 15 0).toNatClampNeg ≤ 8 ∧ (C 15 1).toNatClampNeg ≤ 4) (r1 : R' 81 1 = R 81 1) (r4 : R' 81 4 = R 81 4) (eR : ∀ k, (83 ≤ k ∧ k ≤ 86) → R' k = R k) (hbb : ∀ j, j < 944 → R' 82 (b' + j) = R 82 (b + j)) (hD0 : C' D' 0 = C D 0) (hD : ∀ n, n < (C D 0).toNatClampNeg → C' (D' + 1) n = C (D + 1) n ∧ C' (D' + 2) n = C (D + 2) n ∧ C' (D' + 3) n = C (D + 3) n) (e0 : C' 15 0 = C 15 0) (e1 : C' 15 1 = C 15 1) (e22 : C' 22 = C 22) : kh D' b' C' R' := by
  obtain ⟨k1, k2, k3, k4⟩ := h
  have a := hbb 0 (by omega)
  rw [Nat.add_zero, Nat.add_zero] at a
  unfold kh
  rw [hD0]
  refine ⟨by rw [k1, a], k2, k3, fun h0 => ?_⟩
  exact ch_mv (k4 h0) (by rw [fi_cl]; omega) h8 r1 r4 eR (fun j _ hj => hbb j hj) hD e0 e1 e22
/-- what the tie doesn't see may change -/
theorem tt_c {C C' R R' : fl_M} (h : tt C R) (eC : ∀ c, ((15 ≤ c ∧ c ≤ 23) ∨ (42 ≤ c ∧ c ≤ 58)) → C' c = C c) (r1 : R' 81 1 = R 81 1) (r4 : R' 81 4 = R 81 4) (eR : ∀ k, (83 ≤ k ∧ k ≤ 86) → R' k = R k) (e82 : ∀ j, j < 3776 → R' 82 j = R 82 j) : tt C' R' := by
  obtain ⟨t1, t2, t3, t4⟩ := h
  have h8 := tr_n t1
  have e15 : C' 15 = C 15 := eC 15 (by omega)
  have e22 : C' 22 = C 22 := eC 22 (by omega)
  refine ⟨tr_rc (tr_cc t1 (fun k hk => eC _ (by omega))) r1 r4 eR (fun k h1 h2 => e82 _ (by omega)), kh_mv t2 h8 r1 r4 eR (fun j hj => e82 _ (by omega)) (by rw [eC 42 (by omega)]) (fun n _ => by rw [eC (42 + 1) (by omega), eC (42 + 2) (by omega), eC (42 + 3) (by omega)]; exact ⟨rfl, rfl, rfl⟩) (by rw [e15]) (by rw [e15]) e22, by rw [eC 42 (by omega)]; exact t3, fun k hk => ?_⟩
  exact kh_mv (t4 k hk) h8 r1 r4 eR (fun j hj => e82 _ (by omega)) (by rw [eC _ (by omega)]) (fun n _ => by rw [eC (47 + 4 * k + 1) (by omega), eC (47 + 4 * k + 2) (by omega), eC (47 + 4 * k + 3) (by omega)]; exact ⟨rfl, rfl, rfl⟩) (by rw [e15]) (by rw [e15]) e22
/-- a deed, on both sides -/
def kp (R : fl_M) : fl_M := fl_u (lr_149_2 R) 82 0 ((lr_149_2 R) 82 0 + 1)
theorem kp_e {C R : fl_M} (h : tt C R) (h4 : (C 42 0).toInt < 40) : (∀ c, c ≠ 82 → kp R c = R c) ∧ kp R 82 0 = R 82 0 + 1 ∧ (∀ j, 1 ≤ j → kp R 82 j = if 24 + 23 * (C 42 0).toNatClampNeg ≤ j ∧ j < 24 + 23 * (C 42 0).toNatClampNeg + 23 then R 82 (1 + (j - (24 + 23 * (C 42 0).toNatClampNeg))) else R 82 j) := by
  obtain ⟨t1, ⟨k1, k2, k3, k4⟩, t3, t4⟩ := h
  have e := fi_cl (C 42 0)
  have hk := kp_eq (R := R) (n := (C 42 0).toNatClampNeg) (by rw [← k1]; omega) (by omega)
  unfold kp
  refine ⟨fun c hc => ?_, ?_, fun j hj => ?_⟩
  · funext j
    rw [fl_uo (Or.inl hc), hk, if_neg (fun z => hc z.1)]
  · rw [fl_us, hk, if_neg (by omega)]
  · rw [fl_uo (Or.inr (by omega)), hk]
    by_cases hc : 24 + 23 * (C 42 0).toNatClampNeg ≤ j ∧ j < 24 + 23 * (C 42 0).toNatClampNeg + 23
    · rw [if_pos ⟨rfl, hc⟩, if_pos hc]
    · rw [if_neg (fun z => hc z.2), if_neg hc]
theorem do_tr {wh li am : Int32} {C R : fl_M} (h : tt C R) (h4 : (C 42 0).toInt < 40) : tr 15 0 (m_44 wh li am 42 C) (kp R) := by
  obtain ⟨e1, e2, e3⟩ := kp_e h h4
  refine tr_rc (tr_cc h.1 (fun k hk => ?_)) (by rw [e1 81 (by decide)]) (by rw [e1 81 (by decide)]) (fun k hk => e1 k (by omega)) (fun k h1 h2 => ?_)
  · funext j
    exact fr_44 (by omega)
  · rw [Nat.zero_add, e3 k h1, if_neg (by omega)]
theorem do_tt {wh li am : Int32} {C R R' : fl_M} (h : tt C R) (h4 : (C 42 0).toInt < 40) (r1 : ∀ c, c ≠ 82 → c ≤ 86 → R' c = kp R c) (r2 : ∀ j, 24 ≤ j → j < 3776 → R' 82 j = kp R 82 j) (r0 : R' 82 0 = kp R 82 0) (hop : ∀ M, tr 15 0 M (kp R) → tr 15 0 (m_45 wh li am 15 M) R') : tt (m_45 wh li am 15 (m_44 wh li am 42 C)) R' := by
  have t0 := do_tr (wh := wh) (li := li) (am := am) h h4
  obtain ⟨e1, e2, e3⟩ := kp_e h h4
  obtain ⟨t1, ⟨k1, k2, k3, k4⟩, t3, t4⟩ := h
  have h8 := tr_n t1
  have e := fi_cl (C 42 0)
  have hm := m44_eq (wh := wh) (li := li) (am := am) (D := 42) (C := C) (n := (C 42 0).toNatClampNeg) (by omega) (by omega)
  have c45 : ∀ c, (c < 15 ∨ 24 ≤ c) → m_45 wh li am 15 (m_44 wh li am 42 C) c = m_44 wh li am 42 C c := fun c hc => by funext j; exact fr_45 (by omega)
  have c15 : ∀ c, 15 ≤ c → c ≤ 23 → m_44 wh li am 42 C c = C c := fun c h1 h2 => by funext j; exact fr_44 (by omega)
  have x0 : m_45 wh li am 15 (m_44 wh li am 42 C) 15 0 = C 15 0 := by rw [st_45 (by omega) (by omega) (by omega) (by omega), c15 15 (by omega) (by omega)]
  have x1 : m_45 wh li am 15 (m_44 wh li am 42 C) 15 1 = C 15 1 := by rw [st_45 (by omega) (by omega) (by omega) (by omega), c15 15 (by omega) (by omega)]
  have x22 : m_45 wh li am 15 (m_44 wh li am 42 C) 22 = C 22 := by funext j; rw [st_45 (by omega) (by omega) (by omega) (by omega), c15 22 (by omega) (by omega)]
  have s42 : m_45 wh li am 15 (m_44 wh li am 42 C) 42 0 = C 42 0 + 1 := by rw [c45 42 (by omega), hm, fl_us]
  have i1 : (C 42 0 + 1).toInt = (C 42 0).toInt + 1 := fi_p1 (by omega)
  have q1 : R' 81 1 = R 81 1 := by rw [r1 81 (by decide) (by decide), e1 81 (by decide)]
  have q4 : R' 81 4 = R 81 4 := by rw [r1 81 (by decide) (by decide), e1 81 (by decide)]
  have qR : ∀ k, (83 ≤ k ∧ k ≤ 86) → R' k = R k := fun k hk => by rw [r1 k (by omega) (by omega), e1 k (by omega)]
  refine ⟨hop _ t0, ⟨?_, ?_, ?_, fun _ => ?_⟩, ?_, fun k hk => ?_⟩
  · rw [s42, r0, e2, k1]
  · rw [s42]; omega
  · rw [s42]; omega
  · rw [s42, show (C 42 0 + 1).toNatClampNeg = (C 42 0).toNatClampNeg + 1 by rw [fi_cl, i1]; omega]
    refine ch_add (k4 t3) (by omega) h8 e1 (fun j h1 h2 => e3 j h1) r1 (fun j h1 h2 => r2 j h1 (by omega)) hop (fun m hm' => ?_) ?_ ?_ ?_ x0 x1 x22
    · rw [c45 (42 + 1) (by omega), c45 (42 + 2) (by omega), c45 (42 + 3) (by omega), hm]
      refine ⟨?_, ?_, ?_⟩
      · rw [fl_uo (Or.inl (by omega)), fl_uo (Or.inl (by omega)), fl_uo (Or.inl (by omega)), fl_uo (Or.inr (by omega))]
      · rw [fl_uo (Or.inl (by omega)), fl_uo (Or.inl (by omega)), fl_uo (Or.inr (by omega)), fl_uo (Or.inl (by omega))]
      · rw [fl_uo (Or.inl (by omega)), fl_uo (Or.inr (by omega)), fl_uo (Or.inl (by omega)), fl_uo (Or.inl (by omega))]
    · rw [c45 (42 + 1) (by omega), hm, fl_uo (Or.inl (by omega)), fl_uo (Or.inl (by omega)), fl_uo (Or.inl (by omega)), fl_us]
    · rw [c45 (42 + 2) (by omega), hm, fl_uo (Or.inl (by omega)), fl_uo (Or.inl (by omega)), fl_us]
    · rw [c45 (42 + 3) (by omega), hm, fl_uo (Or.inl (by omega)), fl_us]
  · rw [s42]; omega
  · have cK : ∀ c, 47 ≤ c → m_45 wh li am 15 (m_44 wh li am 42 C) c = C c := fun c hc => by rw [c45 c (by omega)]; funext j; exact fr_44 (by omega)
    refine kh_mv (t4 k hk) h8 q1 q4 qR (fun j hj => ?_) (by rw [cK _ (by omega)]) (fun n _ => by rw [cK _ (by omega), cK _ (by omega), cK _ (by omega)]; exact ⟨rfl, rfl, rfl⟩) x0 x1 x22
    rw [r2 _ (by omega) (by omega), e3 _ (by omega), if_neg (by omega)]
/-- a year -/
theorem yr_p {C R : fl_M} (h : tt C R) : v_42 C = v_148 R ∧ tt (m_42 C) (m_148 R) := by
  have hh := h
  obtain ⟨t1, ⟨k1, k2, k3, k4⟩, t3, t4⟩ := h
  have s4 := t1.1.2.1
  unfold v_42 v_148 m_42 m_148
  rw [← s4, ← k1]
  by_cases c1 : C 15 1 = 0
  · rw [if_pos c1, if_pos c1, if_pos c1, if_pos c1]
    exact ⟨rfl, hh⟩
  · rw [if_neg c1, if_neg c1, if_neg c1, if_neg c1]
    by_cases c2 : C 42 0 = 40
    · have c3 : ¬ C 42 0 < 40 := fun z => by rw [c2] at z; exact absurd z (by decide)
      rw [if_neg c3, if_pos c2, if_neg c3, if_pos c2]
      exact ⟨rfl, hh⟩
    · have h4 : (C 42 0).toInt < 40 := by
        have := fi_ne c2
        rw [fi_i40] at this
        omega
      have c3 : C 42 0 < 40 := by rw [fi_l, fi_i40]; exact h4
      rw [if_pos c3, if_neg c2, if_pos c3, if_neg c2]
      have t0 := do_tr (wh := 0) (li := 0) (am := 0) hh h4
      have e45 : ∀ M, m_45 0 0 0 15 M = m_46 0 15 M := fun M => by unfold m_45; rw [if_neg (by decide), if_neg (by decide), if_neg (by decide)]
      have v45 : ∀ M, v_45 0 0 0 15 M = (lr_46_4 0 0 15 M).1 := fun M => by unfold v_45; rw [if_neg (by decide), if_neg (by decide), if_neg (by decide)]
      have n8 : (kp R 81 1).toInt ≤ 8 ∧ (kp R 81 4).toInt ≤ 4 := by
        rw [← t0.1.1, ← t0.1.2.1]
        exact ⟨t0.1.2.2.1.2, t0.1.2.2.2.1.2⟩
      refine ⟨?_, ?_⟩
      · rw [v45]
        exact (py_eq t0 tr_b0 0).1
      · refine do_tt hh h4 (fun c h1 _ => by funext j; exact fw_150 h1) (fun j h1 _ => pf_150 tr_b0 n8.1 n8.2 (Or.inr (by omega))) (pf_150 tr_b0 n8.1 n8.2 (Or.inl (by omega))) (fun M hM => ?_)
        rw [e45]
        exact (py_eq hM tr_b0 0).2
