/-! Both readings are one. -/
theorem fg_iff {b : Nat → Int32} {n q lo hi : Int32} : (fg b n q lo hi = true) ↔ (q < n ∧ ((¬ (b q.toNatClampNeg - 48 < lo)) ∧ (¬ (hi < b q.toNatClampNeg - 48)))) := by
  unfold fg
  simp
theorem fi_i48 : (48 : Int32).toInt = 48 := rfl
/-- a figure at a place: the same on both sides -/
theorem fr_eq {b : Nat → Int32} {n q lo hi : Int32} {R : fl_M} (h17 : R 81 17 = q) (h18 : R 81 18 = n) (hq : q.toInt ≤ n.toInt) (hb : q.toInt < n.toInt → rh R = b q.toNatClampNeg ∧ -128 ≤ (b q.toNatClampNeg).toInt ∧ (b q.toNatClampNeg).toInt ≤ 127) (hlo : 0 ≤ lo.toInt ∧ lo.toInt ≤ 9) (hhi : -1 ≤ hi.toInt ∧ hi.toInt ≤ 9) : fg b n q lo hi = rg R lo hi := by
  apply Bool.eq_iff_iff.mpr
  rw [fg_iff, rg_eq, h17, h18]
  have el : (48 + lo).toInt = 48 + lo.toInt := by rw [fi_add (by rw [fi_i48]; omega) (by rw [fi_i48]; omega), fi_i48]
  have eh : (48 + hi).toInt = 48 + hi.toInt := by rw [fi_add (by rw [fi_i48]; omega) (by rw [fi_i48]; omega), fi_i48]
  by_cases hc : q.toInt < n.toInt
  · obtain ⟨r1, r2, r3⟩ := hb hc
    have eb : (b q.toNatClampNeg - 48).toInt = (b q.toNatClampNeg).toInt - 48 := by rw [fi_sub (by rw [fi_i48]; omega) (by rw [fi_i48]; omega), fi_i48]
    rw [r1, fi_l, fi_l, fi_l, fi_l, fi_l, fi_e, eb, el, eh]
    omega
  · rw [fi_l, fi_e]
    omega
/-- what both have read so far -/
def ps (a : Nat) (n t : Int32) (b : Nat → Int32) (C R : fl_M) : Prop :=
  C a = b ∧ R 81 16 = 60 * t ∧ R 81 18 = n ∧ C 24 0 = R 81 19 ∧ C 24 1 = R 81 22 ∧ cI C ∧ (∀ i : Nat, (i : Int) < n.toInt → R 90 (60 * t.toNatClampNeg + i) = b i) ∧
  (∀ j : Nat, (j : Int) < (C 24 0).toInt → C 25 j = R 92 j ∧ C 26 j = R 93 j) ∧ (∀ j : Nat, (j : Int) < (C 24 1).toInt → C 29 j = R 94 (3 * j) ∧ C 31 j = R 94 (3 * j + 1) ∧ C 30 j = R 94 (3 * j + 2))
/-- a text's bytes -/
def pb (n : Int32) (b : Nat → Int32) : Prop := n.toInt ≤ 60 ∧ ∀ i : Nat, (i : Int) < n.toInt → -128 ≤ (b i).toInt ∧ (b i).toInt ≤ 127
section PAR
variable {a : Nat} {n t : Int32} {b : Nat → Int32} {C R : fl_M}
theorem rh_b (h : ps a n t b C R) (ht : 0 ≤ t.toInt ∧ t.toInt ≤ 3) (hb : pb n b) {X : fl_M} {q : Int32} (hX : X 90 = R 90) (h16 : X 81 16 = R 81 16) (h17 : X 81 17 = q) (h0 : 0 ≤ q.toInt) : q.toInt < n.toInt → rh X = b q.toNatClampNeg ∧ -128 ≤ (b q.toNatClampNeg).toInt ∧ (b q.toNatClampNeg).toInt ≤ 127 := by
  intro hq
  have e := fi_cl q
  have hn := hb.1
  have h1 := hb.2 q.toNatClampNeg (by omega)
  refine ⟨?_, h1⟩
  unfold rh
  rw [h16, h17, h.2.1, fi_60 ht.1 ht.2 h0 (by omega), hX]
  exact h.2.2.2.2.2.2.1 q.toNatClampNeg (by omega)
/-- the place moved: all else stands -/
theorem ps_mv {x : Int32} (h : ps a n t b C R) : ps a n t b C (fl_u R 81 17 x) := by
  obtain ⟨p1, p2, p3, p4, p5, p6, p9, p10, p11⟩ := h
  exact ⟨p1, p2, p3, p4, p5, p6, fun i hi => by rw [fl_un (by decide)]; exact p9 i hi, fun j hj => by rw [fl_un (by decide), fl_un (by decide)]; exact p10 j hj, fun j hj => by rw [fl_un (by decide)]; exact p11 j hj⟩
/-- a line -/
theorem li_eq (h : ps a n t b C R) (ht : 0 ≤ t.toInt ∧ t.toInt ≤ 3) (hb : pb n b) (ha : 11 ≤ a ∧ a ≤ 14) (h0 : 0 ≤ (R 81 17).toInt) (hn : (R 81 17).toInt < n.toInt) :
    (rl_v R = 0 ∧ ¬ ln_v C a n (R 81 17) = (-9) ∧ ln_v C a n (R 81 17) = rl_M R 81 17 ∧ ps a n t b (ln_M C a n (R 81 17)) (rl_M R)) ∨ (¬ rl_v R = 0 ∧ ln_v C a n (R 81 17) = (-9) ∧ ps a n t b (ln_M C a n (R 81 17)) (rl_M R)) := by
  have hh := h
  obtain ⟨p1, p2, p3, p4, p5, ⟨p6, p7, p8⟩, p9, p10, p11⟩ := h
  have n6 := hb.1
  have e1 := fi_p1 (p := R 81 17) (by omega)
  have e2 := fi_p1 (p := R 81 17 + 1) (by omega)
  have e3 := fi_p1 (p := R 81 17 + 1 + 1) (by omega)
  have i2 : R 81 17 + 2 = R 81 17 + 1 + 1 := by
    rw [fi_e, fi_add (by rw [show (2 : Int32).toInt = 2 from rfl]; omega) (by rw [show (2 : Int32).toInt = 2 from rfl]; omega), show (2 : Int32).toInt = 2 from rfl, e2, e1]
    omega
  have i3 : R 81 17 + 3 = R 81 17 + 1 + 1 + 1 := by
    rw [fi_e, fi_add (by rw [fi_i3]; omega) (by rw [fi_i3]; omega), fi_i3, e3, e2, e1]
    omega
  have n9 : ∀ x : Int32, 0 ≤ x.toInt → ¬ x = (-9) := fun x hx z => by
    rw [z, show (-9 : Int32).toInt = -9 from rfl] at hx
    omega
  have f1 : fg (C a) n (R 81 17 + 1) 0 9 = rg (fl_u R 81 17 ((R 81 17) + 1)) 0 9 := by
    rw [p1]
    exact fr_eq rfl p3 (by omega) (rh_b hh ht hb (by rw [fl_un (by decide)]) rfl rfl (by omega)) (by decide) (by decide)
  have f2 : (R 81 17 + 1).toInt < n.toInt → fg (C a) n (R 81 17 + 1 + 1) 0 9 = rg (fl_u (fl_u R 81 17 ((R 81 17) + 1)) 81 17 (((R 81 17) + 1) + 1)) 0 9 := by
    intro hq
    rw [p1]
    exact fr_eq rfl p3 (by omega) (rh_b hh ht hb (by rw [fl_un (by decide), fl_un (by decide)]) rfl rfl (by omega)) (by decide) (by decide)
  have f3 : (R 81 17 + 1 + 1).toInt < n.toInt → fg (C a) n (R 81 17 + 1 + 1 + 1) 0 9 = rg (fl_u (fl_u (fl_u R 81 17 ((R 81 17) + 1)) 81 17 (((R 81 17) + 1) + 1)) 81 17 ((((R 81 17) + 1) + 1) + 1)) 0 9 := by
    intro hq
    rw [p1]
    exact fr_eq rfl p3 (by omega) (rh_b hh ht hb (by rw [fl_un (by decide), fl_un (by decide), fl_un (by decide)]) rfl rfl (by omega)) (by decide) (by decide)
  have c8 : C 24 0 < 8 ↔ ¬ R 81 19 = 8 := by
    rw [← p4, fi_l, fi_e, fi_8]
    omega
  unfold ln_v ln_M rl_v rl_M
  by_cases m0 : 0 < R 81 22
  · have m1 : 0 < C 24 1 := by rw [p5]; exact m0
    by_cases l8 : R 81 19 = 8
    · simp only [if_pos m1, if_pos l8]
      exact Or.inl ⟨by first | rfl | trivial, n9 _ h0, by first | rfl | trivial | exact i2, hh⟩
    · simp only [if_pos m1, if_neg l8, if_pos m0]
      exact Or.inl ⟨by first | rfl | trivial, n9 _ h0, by first | rfl | trivial | exact i2, hh⟩
  · have m1 : ¬ 0 < C 24 1 := by rw [p5]; exact m0
    by_cases l8 : R 81 19 = 8
    · have l9 : ¬ C 24 0 < 8 := fun z => c8.mp z l8
      simp only [if_neg m1, if_pos l8, if_neg l9]
      exact Or.inl ⟨by first | rfl | trivial, n9 _ h0, by first | rfl | trivial | exact i2, hh⟩
    · have l9 := c8.mpr l8
      simp only [if_neg m1, if_neg m0, if_neg l8, if_pos l9]
      by_cases g1 : rg (fl_u R 81 17 ((R 81 17) + 1)) 0 9 = true
      · have k1 : fg (C a) n (R 81 17 + 1) 0 9 = true := f1.trans g1
        have z1 := fg_lt k1
        simp only [if_pos g1, if_pos k1]
        by_cases g2 : rg (fl_u (fl_u R 81 17 ((R 81 17) + 1)) 81 17 (((R 81 17) + 1) + 1)) 0 9 = true
        · have k2 : fg (C a) n (R 81 17 + 1 + 1) 0 9 = true := (f2 z1).trans g2
          have z2 := fg_lt k2
          simp only [if_pos g2, if_pos k2]
          by_cases g3 : rg (fl_u (fl_u (fl_u R 81 17 ((R 81 17) + 1)) 81 17 (((R 81 17) + 1) + 1)) 81 17 ((((R 81 17) + 1) + 1) + 1)) 0 9 = true
          · have k3 : fg (C a) n (R 81 17 + 1 + 1 + 1) 0 9 = true := (f3 z2).trans g3
            have z3 := fg_lt k3
            simp only [if_pos g3, if_pos k3]
            have v1 : rv (fl_u R 81 17 ((R 81 17) + 1)) = C a (R 81 17 + 1).toNatClampNeg - 48 := by
              unfold rv
              rw [(rh_b hh ht hb (X := fl_u R 81 17 ((R 81 17) + 1)) (by rw [fl_un (by decide)]) rfl rfl (by show 0 ≤ (R 81 17 + 1).toInt; omega) z1).1, p1]
              rfl
            have v2 : rv (fl_u (fl_u R 81 17 ((R 81 17) + 1)) 81 17 (((R 81 17) + 1) + 1)) = C a (R 81 17 + 2).toNatClampNeg - 48 := by
              unfold rv
              rw [(rh_b hh ht hb (X := fl_u (fl_u R 81 17 ((R 81 17) + 1)) 81 17 (((R 81 17) + 1) + 1)) (by rw [fl_un (by decide), fl_un (by decide)]) rfl rfl (by show 0 ≤ (R 81 17 + 1 + 1).toInt; omega) z2).1, p1, i2]
              rfl
            have v3 : rv (fl_u (fl_u (fl_u R 81 17 ((R 81 17) + 1)) 81 17 (((R 81 17) + 1) + 1)) 81 17 ((((R 81 17) + 1) + 1) + 1)) = C a (R 81 17 + 3).toNatClampNeg - 48 := by
              unfold rv
              rw [(rh_b hh ht hb (X := fl_u (fl_u (fl_u R 81 17 ((R 81 17) + 1)) 81 17 (((R 81 17) + 1) + 1)) 81 17 ((((R 81 17) + 1) + 1) + 1)) (by rw [fl_un (by decide), fl_un (by decide), fl_un (by decide)]) rfl rfl (by show 0 ≤ (R 81 17 + 1 + 1 + 1).toInt; omega) z3).1, p1, i3]
              rfl
            have as : ∀ x y : Int32, x + (y - 48) = x + y - 48 := fun x y => by rw [Int32.sub_eq_add_neg, Int32.sub_eq_add_neg, Int32.add_assoc]
            rw [v1, v2, v3, as]
            generalize (10 * (C a (R 81 17 + 2).toNatClampNeg - 48) + C a (R 81 17 + 3).toNatClampNeg - 48) = L
            by_cases b1 : L < 1
            · have q : ¬ ((¬ L < 1) ∧ (¬ 40 < L)) := fun z => z.1 b1
              simp only [if_pos b1, if_neg q]
              exact Or.inl ⟨by first | rfl | trivial, n9 _ (by rw [i2]; omega), by first | rfl | trivial | exact i2, ps_mv (ps_mv (ps_mv (ps_mv (ps_mv hh))))⟩
            · by_cases b2 : 40 < L
              · have q : ¬ ((¬ L < 1) ∧ (¬ 40 < L)) := fun z => z.2 b2
                simp only [if_neg b1, if_pos b2, if_neg q]
                exact Or.inl ⟨by first | rfl | trivial, n9 _ (by rw [i2]; omega), by first | rfl | trivial | exact i2, ps_mv (ps_mv (ps_mv (ps_mv (ps_mv hh))))⟩
              · have q : (¬ L < 1) ∧ (¬ 40 < L) := ⟨b1, b2⟩
                simp only [if_neg b1, if_neg b2, if_pos q]
                refine Or.inr ⟨by first | decide | trivial, by first | rfl | trivial, ?_⟩
                have l9 := fi_l.mp l9
                rw [fi_8] at l9
                have el := fi_p1 (p := C 24 0) (by omega)
                have ec := fi_cl (C 24 0)
                refine ⟨?_, p2, p3, ?_, p5, ⟨⟨show 0 ≤ (C 24 0 + 1).toInt by omega, show (C 24 0 + 1).toInt ≤ 8 by omega⟩, p7, ?_⟩, fun i hi => ?_, fun j hj => ?_, fun j hj => ?_⟩
                · rw [fl_un (by omega), fl_un (by omega), fl_un (by omega)]
                  exact p1
                · show C 24 0 + 1 = R 81 19 + 1
                  rw [p4]
                · rw [fl_un (by decide), fl_un (by decide), fl_un (by decide)]
                  exact p8
                · rw [fl_un (by decide), fl_un (by decide), fl_un (by decide), fl_un (by decide), fl_un (by decide), fl_un (by decide), fl_un (by decide)]
                  exact p9 i hi
                · have hj : (j : Int) < (C 24 0 + 1).toInt := hj
                  rw [← p4]
                  rw [fl_un (show 25 ≠ 24 by decide), fl_un (show 26 ≠ 24 by decide), fl_un (show 25 ≠ 26 by decide), fl_un (show 92 ≠ 81 by decide), fl_un (show 93 ≠ 81 by decide), fl_un (show 92 ≠ 93 by decide)]
                  unfold fl_u
                  by_cases hjl : j = (C 24 0).toNatClampNeg
                  · simp [hjl]
                  · have h2 := p10 j (by omega)
                    simp [hjl, h2.1, h2.2]
                · have hj : (j : Int) < (C 24 1).toInt := hj
                  rw [fl_un (show 29 ≠ 24 by decide), fl_un (show 29 ≠ 26 by decide), fl_un (show 29 ≠ 25 by decide), fl_un (show 31 ≠ 24 by decide), fl_un (show 31 ≠ 26 by decide), fl_un (show 31 ≠ 25 by decide), fl_un (show 30 ≠ 24 by decide), fl_un (show 30 ≠ 26 by decide), fl_un (show 30 ≠ 25 by decide), fl_un (show 94 ≠ 81 by decide), fl_un (show 94 ≠ 93 by decide), fl_un (show 94 ≠ 92 by decide), fl_un (show 94 ≠ 81 by decide), fl_un (show 94 ≠ 81 by decide), fl_un (show 94 ≠ 81 by decide), fl_un (show 94 ≠ 81 by decide)]
                  exact p11 j hj
          · have k3 : ¬ fg (C a) n (R 81 17 + 1 + 1 + 1) 0 9 = true := fun z => g3 ((f3 z2).symm.trans z)
            simp only [if_neg g3, if_neg k3]
            exact Or.inl ⟨by first | rfl | trivial, n9 _ (by omega), by first | rfl | trivial | exact i2, ps_mv (ps_mv (ps_mv hh))⟩
        · have k2 : ¬ fg (C a) n (R 81 17 + 1 + 1) 0 9 = true := fun z => g2 ((f2 z1).symm.trans z)
          simp only [if_neg g2, if_neg k2]
          exact Or.inl ⟨by first | rfl | trivial, n9 _ (by omega), by first | rfl | trivial | exact i2, ps_mv (ps_mv hh)⟩
      · have k1 : ¬ fg (C a) n (R 81 17 + 1) 0 9 = true := fun z => g1 (f1.symm.trans z)
        simp only [if_neg g1, if_neg k1]
        exact Or.inl ⟨by first | rfl | trivial, n9 _ (by omega), by first | rfl | trivial | exact i2, ps_mv hh⟩
/-- a mouse -/
theorem mi_eq (h : ps a n t b C R) (ht : 0 ≤ t.toInt ∧ t.toInt ≤ 3) (hb : pb n b) (ha : 11 ≤ a ∧ a ≤ 14) (h0 : 0 ≤ (R 81 17).toInt) (hn : (R 81 17).toInt < n.toInt) :
    (rm_v R = 0 ∧ ¬ mo_v C a n (R 81 17) = (-9) ∧ mo_v C a n (R 81 17) = rm_M R 81 17 ∧ ps a n t b (mo_M C a n (R 81 17)) (rm_M R)) ∨ (¬ rm_v R = 0 ∧ mo_v C a n (R 81 17) = (-9) ∧ ps a n t b (mo_M C a n (R 81 17)) (rm_M R)) := by
  have hh := h
  obtain ⟨p1, p2, p3, p4, p5, ⟨p6, p7, p8⟩, p9, p10, p11⟩ := h
  have n6 := hb.1
  have e1 := fi_p1 (p := R 81 17) (by omega)
  have e2 := fi_p1 (p := R 81 17 + 1) (by omega)
  have i2 : R 81 17 + 2 = R 81 17 + 1 + 1 := by
    rw [fi_e, fi_add (by rw [show (2 : Int32).toInt = 2 from rfl]; omega) (by rw [show (2 : Int32).toInt = 2 from rfl]; omega), show (2 : Int32).toInt = 2 from rfl, e2, e1]
    omega
  have n9 : ∀ x : Int32, 0 ≤ x.toInt → ¬ x = (-9) := fun x hx z => by
    rw [z, show (-9 : Int32).toInt = -9 from rfl] at hx
    omega
  have r0 : rh R = C a (R 81 17).toNatClampNeg := by
    rw [(rh_b hh ht hb rfl rfl rfl h0 hn).1, p1]
  have c4 : C 24 1 < 4 ↔ ¬ R 81 22 = 4 := by
    rw [← p5, fi_l, fi_e, fi_i4]
    omega
  unfold mo_v mo_M rm_v rm_M
  rw [r0]
  by_cases k : fk (C a (R 81 17).toNatClampNeg) = (-9)
  · simp only [if_pos k]
    exact Or.inl ⟨by first | rfl | trivial, n9 _ h0, by first | rfl | trivial | exact i2, hh⟩
  · simp only [if_neg k]
    by_cases l0 : R 81 19 = 0
    · have l1 : C 24 0 = 0 := p4.trans l0
      by_cases m4 : R 81 22 = 4
      · simp only [if_pos l1, if_pos m4]
        exact Or.inl ⟨by first | rfl | trivial, n9 _ h0, by first | rfl | trivial | exact i2, hh⟩
      · simp only [if_pos l1, if_neg m4, if_pos l0]
        exact Or.inl ⟨by first | rfl | trivial, n9 _ h0, by first | rfl | trivial | exact i2, hh⟩
    · have l1 : ¬ C 24 0 = 0 := fun z => l0 (p4.symm.trans z)
      by_cases m4 : R 81 22 = 4
      · have m5 : ¬ C 24 1 < 4 := fun z => c4.mp z m4
        simp only [if_neg l1, if_pos m4, if_neg m5]
        exact Or.inl ⟨by first | rfl | trivial, n9 _ h0, by first | rfl | trivial | exact i2, hh⟩
      · have m5 := c4.mpr m4
        simp only [if_neg l1, if_neg m4, if_neg l0, if_pos m5]
        have l2 := fi_ne l1
        rw [fi_i0] at l2
        have eh : (C 24 0 - 1).toInt = (C 24 0).toInt - 1 := by rw [fi_sub (by rw [fi_i1]; omega) (by rw [fi_i1]; omega), fi_i1]
        have f1 : fg (C a) n (R 81 17 + 1) 0 (C 24 0 - 1) = rg (fl_u R 81 17 ((R 81 17) + 1)) 0 ((R 81 19) - 1) := by
          rw [← p4, p1]
          exact fr_eq rfl p3 (by omega) (rh_b hh ht hb (by rw [fl_un (by decide)]) rfl rfl (by omega)) (by decide) (by omega)
        have f2 : (R 81 17 + 1).toInt < n.toInt → fg (C a) n (R 81 17 + 2) 1 9 = rg (fl_u (fl_u R 81 17 ((R 81 17) + 1)) 81 17 (((R 81 17) + 1) + 1)) 1 9 := by
          intro hq
          rw [p1, i2]
          exact fr_eq rfl p3 (by omega) (rh_b hh ht hb (by rw [fl_un (by decide), fl_un (by decide)]) rfl rfl (by omega)) (by decide) (by decide)
        by_cases g1 : rg (fl_u R 81 17 ((R 81 17) + 1)) 0 ((R 81 19) - 1) = true
        · have k1 : fg (C a) n (R 81 17 + 1) 0 (C 24 0 - 1) = true := f1.trans g1
          have z1 := fg_lt k1
          simp only [if_pos g1, if_pos k1]
          by_cases g2 : rg (fl_u (fl_u R 81 17 ((R 81 17) + 1)) 81 17 (((R 81 17) + 1) + 1)) 1 9 = true
          · have k2 : fg (C a) n (R 81 17 + 2) 1 9 = true := (f2 z1).trans g2
            have z2 := fg_lt k2
            rw [i2] at z2
            simp only [if_pos g2, if_pos k2]
            have v1 : rv (fl_u R 81 17 ((R 81 17) + 1)) = C a (R 81 17 + 1).toNatClampNeg - 48 := by
              unfold rv
              rw [(rh_b hh ht hb (X := fl_u R 81 17 ((R 81 17) + 1)) (by rw [fl_un (by decide)]) rfl rfl (by show 0 ≤ (R 81 17 + 1).toInt; omega) z1).1, p1]
              rfl
            have v2 : rv (fl_u (fl_u R 81 17 ((R 81 17) + 1)) 81 17 (((R 81 17) + 1) + 1)) = C a (R 81 17 + 2).toNatClampNeg - 48 := by
              unfold rv
              rw [(rh_b hh ht hb (X := fl_u (fl_u R 81 17 ((R 81 17) + 1)) 81 17 (((R 81 17) + 1) + 1)) (by rw [fl_un (by decide), fl_un (by decide)]) rfl rfl (by show 0 ≤ (R 81 17 + 1 + 1).toInt; omega) z2).1, p1, i2]
              rfl
            rw [v1, v2, fl_un (show a ≠ 31 by omega), fl_un (show a ≠ 29 by omega)]
            refine Or.inr ⟨by first | decide | trivial, by first | rfl | trivial, ?_⟩
            have m6 := fi_l.mp m5
            rw [fi_i4] at m6
            have el := fi_p1 (p := C 24 1) (by omega)
            have ec := fi_cl (C 24 1)
            have em : (3 * C 24 1).toInt = 3 * (C 24 1).toInt := by rw [fi_mul (by rw [fi_i3]; omega) (by rw [fi_i3]; omega), fi_i3]
            have x0 : (3 * C 24 1).toNatClampNeg = 3 * (C 24 1).toNatClampNeg := by rw [fi_cl, em]; omega
            have x1 : (3 * C 24 1 + 1).toNatClampNeg = 3 * (C 24 1).toNatClampNeg + 1 := by rw [fi_cl, fi_p1 (by omega), em]; omega
            have x2 : (3 * C 24 1 + 2).toNatClampNeg = 3 * (C 24 1).toNatClampNeg + 2 := by
              rw [fi_cl, fi_add (by rw [show (2 : Int32).toInt = 2 from rfl]; omega) (by rw [show (2 : Int32).toInt = 2 from rfl]; omega), em, show (2 : Int32).toInt = 2 from rfl]
              omega
            rw [← p5, x0, x1, x2]
            refine ⟨?_, p2, p3, p4, rfl, ⟨p6, ⟨show 0 ≤ (C 24 1 + 1).toInt by omega, show (C 24 1 + 1).toInt ≤ 4 by omega⟩, ?_⟩, fun i hi => ?_, fun j hj => ?_, fun j hj => ?_⟩
            · rw [fl_un (by omega), fl_un (by omega), fl_un (by omega), fl_un (by omega)]
              exact p1
            · rw [fl_un (by decide), fl_un (by decide), fl_un (by decide), fl_un (by decide)]
              exact p8
            · rw [fl_un (by decide), fl_un (by decide), fl_un (by decide), fl_un (by decide), fl_un (by decide), fl_un (by decide), fl_un (by decide)]
              exact p9 i hi
            · have hj : (j : Int) < (C 24 0).toInt := hj
              have h2 := p10 j hj
              unfold fl_u
              simp [h2.1, h2.2]
            · have hj : (j : Int) < (C 24 1 + 1).toInt := hj
              by_cases hjl : j = (C 24 1).toNatClampNeg
              · subst hjl
                unfold fl_u
                simp
              · have h2 := p11 j (by omega)
                have d0 : ¬ 3 * j = 3 * (C 24 1).toNatClampNeg := by omega
                have d1 : ¬ 3 * j = 3 * (C 24 1).toNatClampNeg + 1 := by omega
                have d2 : ¬ 3 * j = 3 * (C 24 1).toNatClampNeg + 2 := by omega
                have d3 : ¬ 3 * j + 1 = 3 * (C 24 1).toNatClampNeg := by omega
                have d4 : ¬ 3 * j + 1 = 3 * (C 24 1).toNatClampNeg + 1 := by omega
                have d5 : ¬ 3 * j + 1 = 3 * (C 24 1).toNatClampNeg + 2 := by omega
                have d6 : ¬ 3 * j + 2 = 3 * (C 24 1).toNatClampNeg := by omega
                have d7 : ¬ 3 * j + 2 = 3 * (C 24 1).toNatClampNeg + 1 := by omega
                have d8 : ¬ 3 * j + 2 = 3 * (C 24 1).toNatClampNeg + 2 := by omega
                unfold fl_u
                simp only [hjl, d0, d1, d2, d3, d4, d5, d6, d7, d8, and_false, and_true, if_false, if_true, false_and, Nat.reduceEqDiff]
                simpa using h2
          · have k2 : ¬ fg (C a) n (R 81 17 + 2) 1 9 = true := fun z => g2 ((f2 z1).symm.trans z)
            simp only [if_neg g2, if_neg k2]
            exact Or.inl ⟨by first | rfl | trivial, n9 _ (by rw [i2]; omega), by first | rfl | trivial | exact i2, ps_mv (ps_mv hh)⟩
        · have k1 : ¬ fg (C a) n (R 81 17 + 1) 0 (C 24 0 - 1) = true := fun z => g1 (f1.symm.trans z)
          simp only [if_neg g1, if_neg k1]
          exact Or.inl ⟨by first | rfl | trivial, n9 _ (by omega), by first | rfl | trivial | exact i2, ps_mv hh⟩
/-- blanks: how much is left of the way doesn't matter -/
theorem sk_fu (hn : n.toInt ≤ 60) : ∀ (f g : Nat) (p : Int32), 0 ≤ p.toInt → n.toInt ≤ p.toInt + f → n.toInt ≤ p.toInt + g → sk b n f p = sk b n g p := by
  intro f
  induction f with
  | zero =>
    intro g p h0 hf hg
    have no : ¬ p < n := fun z => by have z := fi_l.mp z; omega
    cases g with
    | zero => rfl
    | succ g => unfold sk; rw [if_neg no]
  | succ f ih =>
    intro g p h0 hf hg
    cases g with
    | zero =>
      have no : ¬ p < n := fun z => by have z := fi_l.mp z; omega
      unfold sk
      rw [if_neg no]
    | succ g =>
      unfold sk
      split
      · rename_i h1
        have h1 := fi_l.mp h1
        have e := fi_p1 (p := p) (by omega)
        split
        · exact ih g (p + 1) (by omega) (by omega) (by omega)
        · rfl
      · rfl
theorem sk_st (hn : n.toInt ≤ 60) {p : Int32} (h0 : 0 ≤ p.toInt) (h1 : p < n) (h2 : b p.toNatClampNeg = 32) : sk b n 60 p = sk b n 60 (p + 1) := by
  have z := fi_l.mp h1
  have e := fi_p1 (p := p) (by omega)
  have e1 : sk b n 60 p = sk b n 59 (p + 1) := by
    show (if p < n then (if b p.toNatClampNeg = 32 then sk b n 59 (p + 1) else p) else p) = _
    rw [if_pos h1, if_pos h2]
  rw [e1]
  exact sk_fu hn 59 60 (p + 1) (by omega) (by omega) (by omega)
theorem sk_nb {p : Int32} (h : ¬ (p < n ∧ b p.toNatClampNeg = 32)) : sk b n 60 p = p := by
  show (if p < n then (if b p.toNatClampNeg = 32 then sk b n 59 (p + 1) else p) else p) = _
  split
  · rename_i h1
    split
    · rename_i h2
      exact absurd ⟨h1, h2⟩ h
    · rfl
  · rfl
theorem sk_le (hn : n.toInt ≤ 60) : ∀ (f : Nat) (p : Int32), 0 ≤ p.toInt → p.toInt ≤ n.toInt → (sk b n f p).toInt ≤ n.toInt := by
  intro f
  induction f with
  | zero => intro p _ h; exact h
  | succ f ih =>
    intro p h0 h
    unfold sk
    split
    · rename_i h1
      have h1 := fi_l.mp h1
      have e := fi_p1 (p := p) (by omega)
      split
      · exact ih (p + 1) (by omega) (by omega)
      · exact h
    · exact h
/-- skip, as a move of the place -/
theorem rsk_sk (h : ps a n t b C R) (ht : 0 ≤ t.toInt ∧ t.toInt ≤ 3) (hb : pb n b) : ∀ (f : Nat) (X : fl_M), X 90 = R 90 → X 81 16 = R 81 16 → X 81 18 = n → 0 ≤ (X 81 17).toInt → rsk f X = fl_u X 81 17 (sk b n f (X 81 17)) := by
  intro f
  have self : ∀ X : fl_M, X = fl_u X 81 17 (X 81 17) := by
    intro X
    funext c j
    unfold fl_u
    split
    · rename_i z
      rw [z.1, z.2]
    · rfl
  induction f with
  | zero => intro X _ _ _ _; exact self X
  | succ f ih =>
    intro X h90 h16 h18 h0
    unfold rsk sk
    rw [h18]
    by_cases h1 : X 81 17 < n
    · have z := fi_l.mp h1
      have n6 := hb.1
      have e := fi_p1 (p := X 81 17) (by omega)
      rw [if_pos h1, if_pos h1, (rh_b h ht hb h90 h16 rfl h0 z).1]
      by_cases h2 : b (X 81 17).toNatClampNeg = 32
      · rw [if_pos h2, if_pos h2, ih (fl_u X 81 17 (X 81 17 + 1)) (by rw [fl_un (by decide)]; exact h90) h16 h18 (show 0 ≤ (X 81 17 + 1).toInt by omega)]
        funext c j
        unfold fl_u
        split
        · rfl
        · rfl
      · rw [if_neg h2, if_neg h2]
        exact self X
    · rw [if_neg h1, if_neg h1]
      exact self X
theorem rpar_0 {g : Nat} {v : Int32} {M : fl_M} (h : v = 0) : rpar g v M = (M 81 17, M) := by
  cases g with
  | zero => unfold rpar; rw [if_pos h]
  | succ g => unfold rpar; rw [if_pos h]
theorem rIps (h : ps a n t b C R) (h0 : 0 ≤ (R 81 17).toInt) (hn : (R 81 17).toInt < n.toInt) (n6 : n.toInt ≤ 60) (ht : 0 ≤ t.toInt ∧ t.toInt ≤ 3) : rI R := by
  obtain ⟨p1, p2, p3, p4, p5, ⟨p6, p7, p8⟩, p9, p10, p11⟩ := h
  have et : (60 * t).toInt = 60 * t.toInt := by rw [fi_mul (by rw [fi_i60]; omega) (by rw [fi_i60]; omega), fi_i60]
  refine ⟨?_, ?_, ?_, ?_⟩
  · rw [p2, et]; omega
  · rw [p3]; omega
  · rw [← p4]; exact p6
  · rw [← p5]; exact p7
/-- both read on alike -/
theorem pa_eq (ht : 0 ≤ t.toInt ∧ t.toInt ≤ 3) (hb : pb n b) (ha : 11 ≤ a ∧ a ≤ 14) : ∀ (f : Nat) (p : Int32) (C R : fl_M) (v : Int32) (g : Nat), ps a n t b C R → ¬ v = 0 → 0 ≤ p.toInt → p.toInt ≤ n.toInt → R 81 17 = sk b n 60 p → n.toInt ≤ p.toInt + f → n.toInt ≤ (R 81 17).toInt + g →
    (cpar a n f p C).1 = (rpar g v R).1 ∧ ((cpar a n f p C).1 = (-9) → ps a n t b (cpar a n f p C).2 (rpar g v R).2) := by
  have n6 := hb.1
  have fin : ∀ (p : Int32) (C R : fl_M) (v : Int32) (g : Nat), ps a n t b C R → ¬ v = 0 → 0 ≤ p.toInt → p.toInt ≤ n.toInt → R 81 17 = sk b n 60 p → ¬ p < n → (if C 24 1 = 0 then n else (-9)) = (rpar g v R).1 ∧ (rpar g v R).2 = R := by
    intro p C R v g hps hv h0 hp hs hno
    have q : R 81 17 = n := by
      rw [hs, sk_nb (fun z => hno z.1), fi_e]
      have := fi_ge.mp hno
      omega
    have q2 : ¬ R 81 17 < R 81 18 := by
      rw [q, hps.2.2.1, fi_l]
      omega
    have m : C 24 1 = 0 ↔ ¬ 0 < R 81 22 := by
      have := hps.2.2.2.2.2.1.2.1
      rw [← hps.2.2.2.2.1, fi_e, fi_l, fi_i0]
      omega
    have e : rpar g v R = (if 0 < R 81 22 then (-9) else R 81 17, R) := by
      cases g with
      | zero => unfold rpar; rw [if_neg hv]
      | succ g => unfold rpar; rw [if_neg hv, if_neg q2]
    rw [e, q]
    refine ⟨?_, rfl⟩
    by_cases h1 : 0 < R 81 22
    · rw [if_pos h1, if_neg (fun z => m.mp z h1)]
    · rw [if_neg h1, if_pos (m.mpr h1)]
  intro f
  induction f with
  | zero =>
    intro p C R v g hps hv h0 hp hs hf hg
    have hno : ¬ p < n := fun z => by have z := fi_l.mp z; omega
    obtain ⟨q1, q2⟩ := fin p C R v g hps hv h0 hp hs hno
    unfold cpar
    exact ⟨q1, fun _ => by rw [q2]; exact hps⟩
  | succ f ih =>
    intro p C R v g hps hv h0 hp hs hf hg
    unfold cpar
    by_cases h1 : p < n
    · have z1 := fi_l.mp h1
      have e1 := fi_p1 (p := p) (by omega)
      rw [if_pos h1, hps.1]
      by_cases h2 : b p.toNatClampNeg = 32
      · rw [if_pos h2]
        exact ih (p + 1) C R v g hps hv (by omega) (by omega) (by rw [hs]; exact sk_st n6 h0 h1 h2) (by omega) hg
      · rw [if_neg h2]
        have hp17 : R 81 17 = p := by rw [hs]; exact sk_nb (fun z => h2 z.2)
        have hr : rh R = b p.toNatClampNeg := (rh_b hps ht hb rfl rfl hp17 h0 z1).1
        have hlt : R 81 17 < R 81 18 := by rw [hp17, hps.2.2.1]; exact h1
        obtain ⟨g', rfl⟩ : ∃ g', g = g' + 1 := ⟨g - 1, by rw [hp17] at hg; omega⟩
        have er : rpar (g' + 1) v R = (if rh R = 108 then (if rl_v R = 0 then rpar g' (rl_v R) (rl_M R) else rpar g' (rl_v R) (rsk 60 (rl_M R))) else (if rm_v R = 0 then rpar g' (rm_v R) (rm_M R) else rpar g' (rm_v R) (rsk 60 (rm_M R)))) := by
          show (if v = 0 then _ else if R 81 17 < R 81 18 then _ else _) = _
          rw [if_neg hv, if_pos hlt]
        rw [er, hr]
        have p0 : 0 ≤ (R 81 17).toInt := by rw [hp17]; exact h0
        have pn : (R 81 17).toInt < n.toInt := by rw [hp17]; exact z1
        -- how a good item goes on
        have on : ∀ (C' R' : fl_M) (v' : Int32) (q : Int32), ps a n t b C' R' → ¬ v' = 0 → R' 81 17 = q → p.toInt + 1 ≤ q.toInt → q.toInt ≤ n.toInt → (cpar a n f q C').1 = (rpar g' v' (rsk 60 R')).1 ∧ ((cpar a n f q C').1 = (-9) → ps a n t b (cpar a n f q C').2 (rpar g' v' (rsk 60 R')).2) := by
          intro C' R' v' q hps' hv' hq hq1 hq2
          have er' := rsk_sk hps' ht hb 60 R' rfl rfl hps'.2.2.1 (by rw [hq]; omega)
          rw [er', hq]
          have sg := sk_ge (b := b) n6 60 q (by omega)
          refine ih q C' (fl_u R' 81 17 (sk b n 60 q)) v' g' (ps_mv hps') hv' (by omega) hq2 rfl (by omega) ?_
          show n.toInt ≤ (sk b n 60 q).toInt + g'
          rw [hp17] at hg
          omega
        by_cases h3 : b p.toNatClampNeg = 108
        · rw [if_pos h3, if_pos h3]
          have hl := li_eq hps ht hb ha p0 pn
          rw [hp17] at hl
          rcases hl with ⟨u1, u2, u3, u4⟩ | ⟨u1, u2, u4⟩
          · rw [if_neg u2, if_pos u1, rpar_0 u1]
            exact ⟨u3, fun y => absurd y u2⟩
          · rw [if_pos u2, if_neg u1]
            have pl := rl_pl u1
            have e2 := fi_p1 (p := p + 1) (by omega)
            have e3 := fi_p1 (p := p + 1 + 1) (by omega)
            have e4 := fi_p1 (p := p + 1 + 1 + 1) (by omega)
            have e5 : (p + 3).toInt = p.toInt + 3 := by rw [fi_add (by rw [fi_i3]; omega) (by rw [fi_i3]; omega), fi_i3]
            have e6 := fi_p1 (p := p + 3) (by omega)
            have q4 : rl_M R 81 17 = p + 3 + 1 := by
              rw [pl.1, hp17, fi_e]
              omega
            refine on _ _ _ _ u4 u1 q4 (by omega) ?_
            have w := (rI_rl (M := R) (rIps hps p0 pn n6 ht) (by rw [hps.2.2.1]; exact pn)).2.1.2.1
            rw [q4, pl.2, hps.2.2.1] at w
            exact w
        · rw [if_neg h3, if_neg h3]
          have hl := mi_eq hps ht hb ha p0 pn
          rw [hp17] at hl
          rcases hl with ⟨u1, u2, u3, u4⟩ | ⟨u1, u2, u4⟩
          · rw [if_neg u2, if_pos u1, rpar_0 u1]
            exact ⟨u3, fun y => absurd y u2⟩
          · rw [if_pos u2, if_neg u1]
            have pl := rm_pl u1
            have e2 := fi_p1 (p := p + 1) (by omega)
            have e3 := fi_p1 (p := p + 1 + 1) (by omega)
            have e5 : (p + 2).toInt = p.toInt + 2 := by rw [fi_add (by rw [show (2 : Int32).toInt = 2 from rfl]; omega) (by rw [show (2 : Int32).toInt = 2 from rfl]; omega)]; rfl
            have e6 := fi_p1 (p := p + 2) (by omega)
            have q4 : rm_M R 81 17 = p + 2 + 1 := by
              rw [pl.1, hp17, fi_e]
              omega
            refine on _ _ _ _ u4 u1 q4 (by omega) ?_
            have w := (rI_rm (M := R) (rIps hps p0 pn n6 ht) (by rw [hps.2.2.1]; exact pn)).2.1.2.1
            rw [q4, pl.2, hps.2.2.1] at w
            exact w
    · rw [if_neg h1]
      obtain ⟨q1, q2⟩ := fin p C R v g hps hv h0 hp hs h1
      exact ⟨q1, fun _ => by rw [q2]; exact hps⟩
end PAR
