/-! What a year of the reference leaves alone in its row; begun anew; done again. -/
theorem wr_b {R : fl_M} {bI i : Int32} (h8 : (R 81 1).toInt ≤ 8) : (lr_134_9 bI i (-9) 0 R).1 = (-9) ∨ (0 ≤ (lr_134_9 bI i (-9) 0 R).1.toInt ∧ (lr_134_9 bI i (-9) 0 R).1.toInt ≤ 7) := by
  unfold lr_134_9 lq_134_9
  have e1 := fi_cl (R 81 1)
  have key := it_p (f := ls_134_9 bI i R) (n := (R 81 1).toNatClampNeg) (a := (-9, 0)) (fun m q => q.1 = (-9) ∨ (0 ≤ q.1.toInt ∧ q.1.toInt < m)) (Or.inl rfl) (fun m q hm hq => ?_)
  · rcases key with k | ⟨k1, k2⟩
    · exact Or.inl k
    · exact Or.inr ⟨k1, by omega⟩
  · have em := fi_ti (m := m) (by omega)
    have old : q.1 = (-9) ∨ (0 ≤ q.1.toInt ∧ q.1.toInt < ((m + 1 : Nat) : Int)) := by
      rcases hq with h | ⟨h1, h2⟩
      · exact Or.inl h
      · exact Or.inr ⟨h1, by omega⟩
    have new : Int32.ofNat m = (-9) ∨ (0 ≤ (Int32.ofNat m).toInt ∧ (Int32.ofNat m).toInt < ((m + 1 : Nat) : Int)) := Or.inr ⟨by omega, by omega⟩
    unfold ls_134_9
    (repeat' split) <;> first | exact new | exact old
theorem pf_5 {R : fl_M} {bI s : Int32} {b : Nat} (hb : tr_b bI b) (h8 : (R 81 1).toInt ≤ 8) (h4 : (R 81 4).toInt ≤ 4) {j : Nat} (hj : j ≤ b ∨ b + 24 ≤ j) : (lr_150_5 bI s 0 R).2 82 j = R 82 j ∧ (lr_150_5 bI s 0 R).2 81 = R 81 := by
  unfold lr_150_5 lq_150_5
  have e4 := fi_cl (R 81 4)
  have key := it_p (f := ls_150_5 bI s) (n := (R 81 4).toNatClampNeg) (a := (0, R)) (fun m q => q.2 82 j = R 82 j ∧ q.2 81 = R 81) ⟨rfl, rfl⟩ (fun m q hm hq => ?_)
  · exact key
  · obtain ⟨q1, q2⟩ := hq
    have em := fi_ti (m := m) (by omega)
    have w := wr_b (R := q.2) (bI := bI) (i := Int32.ofNat m) (by rw [q2]; exact h8)
    unfold ls_150_5
    generalize (lr_134_9 bI (Int32.ofNat m) (-9) 0 q.2).1 = w' at w
    have iP : (bI + 20 + Int32.ofNat m).toNatClampNeg = b + 20 + (Int32.ofNat m).toNatClampNeg := tr_i2 hb (c := 20) fj_20 (by decide) (by omega) (by omega)
    have en := fi_at (m := m) (by omega)
    split
    · exact ⟨q1, q2⟩
    · split
      · exact ⟨q1, q2⟩
      · rename_i c1 c2
        rcases w with w | ⟨w0, w7⟩
        · exact absurd w c2
        · have iL : (bI + 4 + w').toNatClampNeg = b + 4 + w'.toNatClampNeg := tr_i2 hb (c := 4) fi_i4 (by decide) w0 (by omega)
          have ew := fi_cl w'
          split
          · dsimp only
            rw [iP, iL, en, fl_uo (Or.inr (by omega)), fl_uo (Or.inr (by omega)), fl_un (by decide), fl_un (by decide)]
            exact ⟨q1, q2⟩
          · dsimp only
            rw [iP, iL, en, fl_uo (Or.inr (by omega)), fl_uo (Or.inr (by omega)), fl_un (by decide), fl_un (by decide)]
            exact ⟨q1, q2⟩
theorem pf_130 {R : fl_M} {bI : Int32} {b : Nat} (hb : tr_b bI b) (h8 : (R 81 1).toInt ≤ 8) {j : Nat} (hj : j ≤ b ∨ b + 24 ≤ j) : (lr_150_130 bI R) 82 j = R 82 j := by
  unfold lr_150_130 lq_150_130
  have e4 := fi_cl (R 81 1)
  refine it_p (f := ls_150_130 bI) (n := (R 81 1).toNatClampNeg) (a := R) (fun m q => q 82 j = R 82 j) rfl (fun m q hm hq => ?_)
  have em := fi_ti (m := m) (by omega)
  have en := fi_at (m := m) (by omega)
  have iC : (bI + 12 + Int32.ofNat m).toNatClampNeg = b + 12 + m := by rw [tr_i2 hb (c := 12) fj_12 (by decide) (by omega) (by omega), en]
  unfold ls_150_130
  rw [iC]
  split
  · rw [fl_uo (Or.inr (by omega))]
    exact hq
  · rw [fl_uo (Or.inr (by omega))]
    exact hq
/-- a year of the reference's writes its own 23 places alone -/
theorem pf_150 {R : fl_M} {bI s : Int32} {b : Nat} (hb : tr_b bI b) (h8 : (R 81 1).toInt ≤ 8) (h4 : (R 81 4).toInt ≤ 4) {j : Nat} (hj : j ≤ b ∨ b + 24 ≤ j) : m_150 bI s R 82 j = R 82 j := by
  unfold m_150
  obtain ⟨p1, p2⟩ := pf_5 (s := s) hb h8 h4 hj
  rw [tr_i1 hb (c := 1) fi_i1 (by decide), fl_uo (Or.inr (by omega)), pf_130 hb (by rw [p2]; exact h8) hj, p1]
/-- begun anew -/
theorem bg_1 {T : Nat} {E : fl_M} (h8 : (E T 0).toNatClampNeg ≤ 8) : ∀ c j, lr_22_18 T E c j = if c = T + 3 ∧ j < (E T 0).toNatClampNeg then E (T + 2) j else if c = T + 4 ∧ j < (E T 0).toNatClampNeg then 0 else E c j := by
  unfold lr_22_18 lq_22_18
  refine it_p (f := ls_22_18 T) (n := (E T 0).toNatClampNeg) (a := E) (fun m q => ∀ c j, q c j = if c = T + 3 ∧ j < m then E (T + 2) j else if c = T + 4 ∧ j < m then 0 else E c j) (fun c j => by rw [if_neg (by omega), if_neg (by omega)]) (fun m q hm hq c j => ?_)
  have en := fi_at (m := m) (by omega)
  unfold ls_22_18
  rw [en]
  by_cases h3 : c = T + 3
  · subst h3
    rw [fl_uo (Or.inl (by omega))]
    by_cases hj : j = m
    · subst hj
      rw [fl_us, hq, if_neg (by omega), if_neg (by omega), if_pos ⟨rfl, by omega⟩]
    · rw [fl_uo (Or.inr hj), hq]
      by_cases hjm : j < m
      · rw [if_pos ⟨rfl, hjm⟩, if_pos ⟨rfl, by omega⟩]
      · rw [if_neg (by omega), if_neg (by omega), if_neg (by omega), if_neg (by omega)]
  · rw [if_neg (c := c = T + 3 ∧ j < m + 1) (by omega)]
    by_cases h4 : c = T + 4
    · subst h4
      by_cases hj : j = m
      · subst hj
        rw [fl_us, if_pos ⟨rfl, by omega⟩]
      · rw [fl_uo (Or.inr hj), fl_uo (Or.inl (by omega)), hq, if_neg (c := T + 4 = T + 3 ∧ j < m) (by omega)]
        by_cases hjm : j < m
        · rw [if_pos ⟨rfl, hjm⟩, if_pos ⟨rfl, by omega⟩]
        · rw [if_neg (by omega), if_neg (by omega)]
    · rw [fl_uo (Or.inl h4), fl_uo (Or.inl h3), hq, if_neg (by omega), if_neg (by omega), if_neg (by omega)]
theorem bg_2 {T : Nat} {E : fl_M} (h4 : (E T 1).toNatClampNeg ≤ 4) : ∀ c j, lr_22_53 T E c j = if c = T + 8 ∧ j < (E T 1).toNatClampNeg then E (T + 7) j else E c j := by
  unfold lr_22_53 lq_22_53
  refine it_p (f := ls_22_53 T) (n := (E T 1).toNatClampNeg) (a := E) (fun m q => ∀ c j, q c j = if c = T + 8 ∧ j < m then E (T + 7) j else E c j) (fun c j => by rw [if_neg (by omega)]) (fun m q hm hq c j => ?_)
  have en := fi_at (m := m) (by omega)
  unfold ls_22_53
  rw [en]
  by_cases h3 : c = T + 8
  · subst h3
    by_cases hj : j = m
    · subst hj
      rw [fl_us, hq, if_neg (by omega), if_pos ⟨rfl, by omega⟩]
    · rw [fl_uo (Or.inr hj), hq]
      by_cases hjm : j < m
      · rw [if_pos ⟨rfl, hjm⟩, if_pos ⟨rfl, by omega⟩]
      · rw [if_neg (by omega), if_neg (by omega)]
  · rw [fl_uo (Or.inl h3), hq, if_neg (by omega), if_neg (by omega)]
/-- the register as it is begun anew -/
def bgn (T : Nat) (C : fl_M) : fl_M := lr_22_53 T (lr_22_18 T (fl_u (fl_u (fl_u C T 2 0) T 3 (-9)) T 4 0))
theorem bg_eq {T : Nat} {C : fl_M} (h8 : (C T 0).toNatClampNeg ≤ 8) (h4 : (C T 1).toNatClampNeg ≤ 4) : (∀ c, c ≠ T → c ≠ T + 3 → c ≠ T + 4 → c ≠ T + 8 → bgn T C c = C c) ∧ bgn T C T 0 = C T 0 ∧ bgn T C T 1 = C T 1 ∧ bgn T C T 2 = 0 ∧ bgn T C T 3 = -9 ∧ bgn T C T 4 = 0 ∧ (∀ l, l < (C T 0).toNatClampNeg → bgn T C (T + 3) l = C (T + 2) l ∧ bgn T C (T + 4) l = 0) ∧ (∀ i, i < (C T 1).toNatClampNeg → bgn T C (T + 8) i = C (T + 7) i) := by
  obtain ⟨E, hE⟩ : ∃ E : fl_M, E = fl_u (fl_u (fl_u C T 2 0) T 3 (-9)) T 4 0 := ⟨_, rfl⟩
  have eO : ∀ c, c ≠ T → E c = C c := fun c hc => by rw [hE, fl_un hc, fl_un hc, fl_un hc]
  have e0 : E T 0 = C T 0 := by rw [hE, fl_uo (Or.inr (by decide)), fl_uo (Or.inr (by decide)), fl_uo (Or.inr (by decide))]
  have e1 : E T 1 = C T 1 := by rw [hE, fl_uo (Or.inr (by decide)), fl_uo (Or.inr (by decide)), fl_uo (Or.inr (by decide))]
  have e2 : E T 2 = 0 := by rw [hE, fl_uo (Or.inr (by decide)), fl_uo (Or.inr (by decide)), fl_us]
  have e3 : E T 3 = -9 := by rw [hE, fl_uo (Or.inr (by decide)), fl_us]
  have e4 : E T 4 = 0 := by rw [hE, fl_us]
  have f1 := bg_1 (T := T) (E := E) (by rw [e0]; exact h8)
  rw [e0] at f1
  have t1 : ∀ j, lr_22_18 T E T j = E T j := fun j => by rw [f1, if_neg (by omega), if_neg (by omega)]
  have f2 := bg_2 (T := T) (E := lr_22_18 T E) (by rw [t1, e1]; exact h4)
  rw [t1, e1] at f2
  have hb : bgn T C = lr_22_53 T (lr_22_18 T E) := by unfold bgn; rw [hE]
  have tT : ∀ j, bgn T C T j = E T j := fun j => by rw [hb, f2, if_neg (by omega), t1]
  refine ⟨fun c h1 h2 h3 h4 => ?_, by rw [tT, e0], by rw [tT, e1], by rw [tT, e2], by rw [tT, e3], by rw [tT, e4], fun l hl => ⟨?_, ?_⟩, fun i hi => ?_⟩
  · funext j
    rw [hb, f2, if_neg (by omega), f1, if_neg (by omega), if_neg (by omega), eO c h1]
  · rw [hb, f2, if_neg (by omega), f1, if_pos ⟨rfl, hl⟩, eO _ (by omega)]
  · rw [hb, f2, if_neg (by omega), f1, if_neg (by omega), if_pos ⟨rfl, hl⟩]
  · rw [hb, f2, if_pos ⟨rfl, hi⟩, f1, if_neg (by omega), if_neg (by omega), eO _ (by omega)]
/-- begun anew: what was first -/
theorem bg_tr {x : Nat} {C R : fl_M} (h : tr_s 15 C R) (hf : ch_f x C R) : tr 15 x (bgn 15 C) R := by
  obtain ⟨s1, s2, s3, s4, s5, s6⟩ := h
  obtain ⟨f1, f2, f3, f4, f5, f6⟩ := hf
  obtain ⟨g0, g1, g2, g3, g4, g5, g6, g7⟩ := bg_eq (T := 15) (C := C) (by rw [fi_cl]; omega) (by rw [fi_cl]; omega)
  refine ⟨tr_sc ⟨s1, s2, s3, s4, s5, s6⟩ g1 g2 (fun k hk => g0 _ (by omega) (by omega) (by omega) (by omega)) rfl rfl (fun _ _ => rfl), ?_⟩
  unfold tr_d
  rw [g1, g2, g3, g4, g5, f1, f2, f3]
  refine ⟨rfl, rfl, rfl, fun l hl => ?_, fun i hi => ?_, fun l _ h2 => f5 l h2⟩
  · obtain ⟨a1, a2⟩ := g6 l hl
    obtain ⟨b1, b2, b3⟩ := f4 l hl
    have e := (s5 l hl).2
    have n8 : l < 8 := by rw [fi_cl] at hl; omega
    rw [a1, a2, b1, f5 l n8, e]
    exact ⟨⟨rfl, b2, b3⟩, rfl, by decide, by decide⟩
  · rw [g7 i hi]
    obtain ⟨b1, b2⟩ := f6 i hi
    exact ⟨b1.symm, b2⟩
/-- the deeds done again, as far as n -/
theorem ag_tr {D b sz n : Nat} {C R E : fl_M} (hw : ch_w D b C R sz) (hn : n ≤ sz) (h4 : n ≤ 40) (h0 : tr 15 (hb b sz 0) E R) (hE : (E 42 0).toNatClampNeg = n) (hD : ∀ m, m < n → E 43 m = C (D + 1) m ∧ E 44 m = C (D + 2) m ∧ E 45 m = C (D + 3) m) : tr 15 (hb b sz n) (lr_51_9 E) R ∧ (∀ c, (c < 15 ∨ 24 ≤ c) → lr_51_9 E c = E c) ∧ (∀ k, (k = 0 ∨ k = 1) → lr_51_9 E 15 k = E 15 k) ∧ lr_51_9 E 22 = E 22 := by
  have fr : ∀ c, (c < 15 ∨ 24 ≤ c) → lr_51_9 E c = E c := fun c hc => by funext j; exact fr_51_9 (by omega)
  have key := it_p (f := ls_51_9) (n := n) (a := E) (fun m q => tr 15 (hb b sz m) q R ∧ (∀ c, (c < 15 ∨ 24 ≤ c) → q c = E c) ∧ (∀ k, (k = 0 ∨ k = 1) → q 15 k = E 15 k) ∧ q 22 = E 22) ⟨h0, fun _ _ => rfl, fun _ _ => rfl, rfl⟩ (fun m q hm hq => ?_)
  · unfold lr_51_9 lq_51_9
    rw [hE]
    exact key
  · obtain ⟨q1, q2, q3, q4⟩ := hq
    have en := fi_at (m := m) (by omega)
    obtain ⟨d1, d2, d3⟩ := hD m hm
    unfold ls_51_9
    rw [en, q2 43 (by omega), q2 44 (by omega), q2 45 (by omega), d1, d2, d3]
    refine ⟨hw m (by omega) q q1, fun c hc => ?_, fun k hk => ?_, ?_⟩
    · funext j
      rw [st_45 (by omega) (by omega) (by omega) (by omega), q2 c hc]
    · rw [st_45 (by omega) (by omega) (by omega) (by omega), q3 k hk]
    · funext j
      rw [st_45 (by omega) (by omega) (by omega) (by omega), q4]
