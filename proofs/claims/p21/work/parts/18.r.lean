/-! Chances that a line is left alone; the mean. -/
theorem l_ad {x y : Int64} {a b : Int} (hx : x.toInt = a) (hy : y.toInt = b) (h0 : 0 ≤ a) (h1 : 0 ≤ b) (h2 : a + b < 9000000000000000000) : (x + y).toInt = a + b := by
  rw [Int64.toInt_add, hx, hy]
  unfold Int.bmod
  dsimp only
  split <;> omega
section OD
variable {C R : fl_M}
/-- so many mice -/
theorem od_k (h : tt C R) : ∃ k : Nat, k < 5 ∧ (C 15 1).toNatClampNeg = k ∧ ((1 : Int32) <<< ((C 15 1) &&& 31)).toNatClampNeg = 2 ^ k ∧ 2 ^ k ≤ 16 := by
  obtain ⟨a0, a1, s1, s4, sd, d0, d4⟩ := tt_n h
  have e := fi_cl (C 15 1)
  have b := (bit_k a1.1 (by omega)).2
  refine ⟨(C 15 1).toNatClampNeg, by omega, rfl, ?_, ?_⟩
  · rw [fi_cl, b, fi_cl]
    have : ((2 : Int) ^ (C 15 1).toInt.toNat) = ((2 ^ (C 15 1).toInt.toNat : Nat) : Int) := by rw [Int.natCast_pow]; rfl
    rw [this]
    rfl
  · exact Nat.pow_le_pow_right (by decide) (show (C 15 1).toNatClampNeg ≤ 4 by omega)
theorem p_of {p : Int32} (h0 : ¬ p < 0) (h1 : ¬ 12 < p) : ∃ n : Nat, n < 13 ∧ p = Int32.ofNat n := by
  rw [fi_l, fi_i0] at h0
  rw [fi_l, fj_12] at h1
  refine ⟨p.toNatClampNeg, by rw [fi_cl]; omega, ?_⟩
  rw [fi_e, fi_ti (by rw [fi_cl]; omega), fi_cl]
  omega
theorem we_C {X : fl_M} {k : Nat} (h : (X 15 1).toNatClampNeg = k) (s p : Int32) : lr_85_5 s p 1 X = wt k p s := by
  unfold lr_85_5 lq_85_5 wt
  rw [h]
theorem we_R {Y : fl_M} {k : Nat} (h : (Y 81 4).toNatClampNeg = k) (s p : Int32) : lr_185_5 s p 1 Y = wt k p s := by
  unfold lr_185_5 lq_185_5 wt
  rw [h]
  rfl
theorem we_A {X : fl_M} {k : Nat} (h : (X 15 1).toNatClampNeg = k) : lr_86_4 1 X = wa k := by
  unfold lr_86_4 lq_86_4 wa
  rw [h]
/-- both walk through the sets of mice that sleep -/
theorem od_e (h : tt C R) {l p : Int32} (l0 : 0 ≤ l.toInt) (l2 : l.toNatClampNeg < (C 15 0).toNatClampNeg) (p0 : ¬ p < 0) (p1 : ¬ 12 < p) : (lr_83_25 l p 0 C).1 = (lr_184_30 l p 0 0 R).1 ∧ (lr_184_30 l p 0 0 R).2.1 = lr_86_4 1 (lr_83_25 l p 0 C).2 ∧ 0 ≤ (lr_83_25 l p 0 C).1.toInt ∧ (0 < (lr_184_30 l p 0 0 R).2.1.toInt ∧ (lr_184_30 l p 0 0 R).2.1.toInt ≤ 20736) ∧ fC C (lr_83_25 l p 0 C).2 ∧ fR R (lr_184_30 l p 0 0 R).2.2 := by
  obtain ⟨k, k5, hk, hN, h16⟩ := od_k h
  obtain ⟨n, n13, rfl⟩ := p_of p0 p1
  obtain ⟨a0, a1, s1, s4, sd, d0, d4⟩ := tt_n h
  have ecl := fi_cl l
  have ecn := fi_cl (C 15 0)
  have key := it_r (f := ls_83_25 l (Int32.ofNat n)) (g := ls_184_30 l (Int32.ofNat n)) (n := 2 ^ k) (a := (0, C)) (b := (0, 0, R)) (fun m x y => x.1 = y.1 ∧ y.2.1 = fx_it (fun m q => q + wt k (Int32.ofNat n) (Int32.ofNat m)) m 0 ∧ (0 ≤ x.1.toInt ∧ x.1.toInt ≤ 20736 * m) ∧ fC C x.2 ∧ fR R y.2.2) ⟨rfl, rfl, ⟨(show (0 : Int) ≤ (0 : Int64).toInt by decide), (show (0 : Int64).toInt ≤ 20736 * ((0 : Nat) : Int) by decide)⟩, fun _ _ => rfl, ⟨fun _ _ => rfl, fun _ _ => rfl⟩⟩ ?_
  · obtain ⟨e1, e2, e3, e4, e5⟩ := key
    have lC : lr_83_25 l (Int32.ofNat n) 0 C = fx_it (ls_83_25 l (Int32.ofNat n)) (2 ^ k) (0, C) := by unfold lr_83_25 lq_83_25; rw [hN]
    have lR : lr_184_30 l (Int32.ofNat n) 0 0 R = fx_it (ls_184_30 l (Int32.ofNat n)) (2 ^ k) (0, 0, R) := by unfold lr_184_30 lq_184_30; rw [← s4, hN]
    obtain ⟨w1, w2, w3⟩ := wt_s k k5 n n13
    rw [lC, lR, e2, w1, we_A (k := k) (by rw [e4 15 (by omega)]; exact hk)]
    exact ⟨e1, rfl, e3.1, ⟨w2, w3⟩, e4, e5⟩
  · intro m x y hm hR
    obtain ⟨xa, X⟩ := x
    obtain ⟨ya, yb, Y⟩ := y
    obtain ⟨r1, r2, r3, r4, r5⟩ := hR
    dsimp only at r1 r2 r3 r4 r5
    subst r1
    have g := as_0 h r4 r5
    obtain ⟨-, g2⟩ := as_y g (Int32.ofNat m)
    have gk := (as_k h g2).1
    have el := as_l g2 l0 l2 gk
    have i4 : (4 + l : Int32).toNatClampNeg = 4 + l.toNatClampNeg := fj_nn (fj_pa (a := 4) rfl (show l.toInt = (l.toNatClampNeg : Nat) by omega) (by omega))
    have e18 : m_150 3776 (Int32.ofNat m) (lr_160_2 Y) 82 (4 + l.toNatClampNeg) = C 18 l.toNatClampNeg := by
      rw [g2.2.2.2 _ (by omega)]
      have z := (h.1.2.2.2.2.1 _ l2).1.1
      rw [Nat.zero_add] at z
      exact z.symm
    have c18 : m_46 (Int32.ofNat m) 24 (m_23 24 15 X) 18 = C 18 := g2.2.1 18 (by omega)
    have c15 : m_46 (Int32.ofNat m) 24 (m_23 24 15 X) 15 = C 15 := g2.2.1 15 (by omega)
    have wC := we_C (X := m_46 (Int32.ofNat m) 24 (m_23 24 15 X)) (k := k) (by rw [c15]; exact hk) (Int32.ofNat m) (Int32.ofNat n)
    have wR := we_R (Y := Y) (k := k) (by rw [r5.1 81 (by decide), ← s4]; exact hk) (Int32.ofNat m) (Int32.ofNat n)
    have wb := wt_b k k5 n n13 m (by omega)
    have st : yb + wt k (Int32.ofNat n) (Int32.ofNat m) = fx_it (fun m q => q + wt k (Int32.ofNat n) (Int32.ofNat m)) (m + 1) 0 := by rw [fx_it_s, ← r2]
    have ad := l_ad (x := xa) (y := wt k (Int32.ofNat n) (Int32.ofNat m)) rfl rfl r3.1 wb.1 (by omega)
    unfold ls_83_25 ls_184_30
    dsimp only
    rw [wC, wR, el, i4, e18, c18]
    by_cases c : m_46 (Int32.ofNat m) 24 (m_23 24 15 X) 27 l.toNatClampNeg = C 18 l.toNatClampNeg
    · simp only [if_pos c]
      exact ⟨trivial, st, ⟨by rw [ad]; omega, by rw [ad]; omega⟩, g2.2.1, g2.2.2⟩
    · simp only [if_neg c]
      exact ⟨by rw [Int64.add_zero], st, ⟨by omega, by omega⟩, g2.2.1, g2.2.2⟩
theorem od_p (h : t2 C R) {J J' : fl_J} (hj : jd J J') (l p : Int32) : v_83 l p C = v_184 l p R ∧ t2 (m_83 l p C) (m_184 l p R) ∧ jd (j_83 l p C J) (j_184 l p R J') := by
  obtain ⟨a0, a1, s1, s4, sd, d0, d4⟩ := tt_n h.1
  have hA := ln_A (x := C 15 0) (l := l) a0.1 (by omega)
  unfold v_83 v_184 m_83 m_184 j_83 j_184
  rw [← s1]
  by_cases c1 : (l < 0) ∨ (¬ (l < (C 15 0)))
  · simp only [if_pos c1, if_neg (fun z => hA.mp z c1)]
    exact ⟨trivial, h, hj⟩
  · simp only [if_neg c1, if_pos (hA.mpr c1)]
    obtain ⟨l0, l1, l2⟩ := ln_R c1
    by_cases c2 : p < 0
    · simp only [if_pos c2, if_neg (fun z : (¬ (p < 0)) ∧ (¬ (12 < p)) => z.1 c2)]
      exact ⟨trivial, h, hj⟩
    · by_cases c3 : 12 < p
      · simp only [if_neg c2, if_pos c3, if_neg (fun z : (¬ (p < 0)) ∧ (¬ (12 < p)) => z.2 c3)]
        exact ⟨trivial, h, hj⟩
      · simp only [if_neg c2, if_neg c3, if_pos (⟨c2, c3⟩ : (¬ (p < 0)) ∧ (¬ (12 < p)))]
        obtain ⟨e1, e2, e3, e4, e5, e6⟩ := od_e h.1 l0 l2 c2 c3
        refine ⟨trivial, as_t2 h e5 e6, ?_⟩
        rw [← e2, e1]
        exact tp_e (by rw [← e1]; exact e3) e4.1 e4.2
theorem mi_e (h : tt C R) {p : Int32} (p0 : ¬ p < 0) (p1 : ¬ 12 < p) : (lr_87_30 p 0 C).1 = (lr_187_32 p 0 0 R).1 ∧ (lr_187_32 p 0 0 R).2.1 = lr_86_4 1 (lr_87_30 p 0 C).2 ∧ 0 ≤ (lr_87_30 p 0 C).1.toInt ∧ (0 < (lr_187_32 p 0 0 R).2.1.toInt ∧ (lr_187_32 p 0 0 R).2.1.toInt ≤ 20736) ∧ fC C (lr_87_30 p 0 C).2 ∧ fR R (lr_187_32 p 0 0 R).2.2 := by
  obtain ⟨k, k5, hk, hN, h16⟩ := od_k h
  obtain ⟨n, n13, rfl⟩ := p_of p0 p1
  obtain ⟨a0, a1, s1, s4, sd, d0, d4⟩ := tt_n h
  have key := it_r (f := ls_87_30 (Int32.ofNat n)) (g := ls_187_32 (Int32.ofNat n)) (n := 2 ^ k) (a := (0, C)) (b := (0, 0, R)) (fun m x y => x.1 = y.1 ∧ y.2.1 = fx_it (fun m q => q + wt k (Int32.ofNat n) (Int32.ofNat m)) m 0 ∧ (0 ≤ x.1.toInt ∧ x.1.toInt ≤ 6635520 * m) ∧ fC C x.2 ∧ fR R y.2.2) ⟨rfl, rfl, ⟨(show (0 : Int) ≤ (0 : Int64).toInt by decide), (show (0 : Int64).toInt ≤ 6635520 * ((0 : Nat) : Int) by decide)⟩, fun _ _ => rfl, ⟨fun _ _ => rfl, fun _ _ => rfl⟩⟩ ?_
  · obtain ⟨e1, e2, e3, e4, e5⟩ := key
    have lC : lr_87_30 (Int32.ofNat n) 0 C = fx_it (ls_87_30 (Int32.ofNat n)) (2 ^ k) (0, C) := by unfold lr_87_30 lq_87_30; rw [hN]
    have lR : lr_187_32 (Int32.ofNat n) 0 0 R = fx_it (ls_187_32 (Int32.ofNat n)) (2 ^ k) (0, 0, R) := by unfold lr_187_32 lq_187_32; rw [← s4, hN]
    obtain ⟨w1, w2, w3⟩ := wt_s k k5 n n13
    rw [lC, lR, e2, w1, we_A (k := k) (by rw [e4 15 (by omega)]; exact hk)]
    exact ⟨e1, rfl, e3.1, ⟨w2, w3⟩, e4, e5⟩
  · intro m x y hm hR
    obtain ⟨xa, X⟩ := x
    obtain ⟨ya, yb, Y⟩ := y
    obtain ⟨r1, r2, r3, r4, r5⟩ := hR
    dsimp only at r1 r2 r3 r4 r5
    subst r1
    have g := as_0 h r4 r5
    obtain ⟨-, g2⟩ := as_y g (Int32.ofNat m)
    have c15 : m_46 (Int32.ofNat m) 24 (m_23 24 15 X) 15 = C 15 := g2.2.1 15 (by omega)
    have wC := we_C (X := m_46 (Int32.ofNat m) 24 (m_23 24 15 X)) (k := k) (by rw [c15]; exact hk) (Int32.ofNat m) (Int32.ofNat n)
    have wR := we_R (Y := Y) (k := k) (by rw [r5.1 81 (by decide), ← s4]; exact hk) (Int32.ofNat m) (Int32.ofNat n)
    have wb := wt_b k k5 n n13 m (by omega)
    have st : yb + wt k (Int32.ofNat n) (Int32.ofNat m) = fx_it (fun m q => q + wt k (Int32.ofNat n) (Int32.ofNat m)) (m + 1) 0 := by rw [fx_it_s, ← r2]
    have eS := al_eq g2.1 tr_bt
    have bS := al_b g2.1
    unfold ls_87_30 ls_187_32
    dsimp only
    rw [wC, wR, ← eS]
    generalize lr_66_4 0 24 (m_46 (Int32.ofNat m) 24 (m_23 24 15 X)) = S at bS
    generalize wt k (Int32.ofNat n) (Int32.ofNat m) = W at *
    have m0 : 0 ≤ W.toInt * S.toInt := Int.mul_nonneg wb.1 bS.1
    have m1 : W.toInt * S.toInt ≤ 20736 * 320 := Int.mul_le_mul wb.2 bS.2 bS.1 (by decide)
    have em : (W * S.toInt64).toInt = W.toInt * S.toInt := by
      rw [Int64.toInt_mul, Int32.toInt_toInt64]
      unfold Int.bmod
      dsimp only
      split <;> omega
    have ad := l_ad (x := xa) (y := W * S.toInt64) rfl em r3.1 m0 (by omega)
    exact ⟨rfl, st, ⟨by rw [ad]; omega, by rw [ad]; omega⟩, g2.2.1, g2.2.2⟩
theorem mi_p (h : t2 C R) {J J' : fl_J} (hj : jd J J') (p : Int32) : v_87 p C = v_187 p R ∧ t2 (m_87 p C) (m_187 p R) ∧ jd (j_87 p C J) (j_187 p R J') := by
  obtain ⟨a0, a1, s1, s4, sd, d0, d4⟩ := tt_n h.1
  unfold v_87 v_187 m_87 m_187 j_87 j_187
  rw [← s4]
  by_cases c2 : p < 0
  · simp only [if_pos c2, if_neg (fun z : (¬ (p < 0)) ∧ (¬ (12 < p)) => z.1 c2)]
    exact ⟨trivial, h, hj⟩
  · by_cases c3 : 12 < p
    · simp only [if_neg c2, if_pos c3, if_neg (fun z : (¬ (p < 0)) ∧ (¬ (12 < p)) => z.2 c3)]
      exact ⟨trivial, h, hj⟩
    · simp only [if_neg c2, if_neg c3, if_pos (⟨c2, c3⟩ : (¬ (p < 0)) ∧ (¬ (12 < p)))]
      by_cases c5 : C 15 1 = 0
      · simp only [if_pos c5]
        exact ⟨trivial, h, hj⟩
      · simp only [if_neg c5]
        obtain ⟨e1, e2, e3, e4, e5, e6⟩ := mi_e h.1 c2 c3
        refine ⟨trivial, as_t2 h e5 e6, ?_⟩
        rw [← e2, e1]
        exact tp_e (by rw [← e1]; exact e3) e4.1 e4.2
end OD
