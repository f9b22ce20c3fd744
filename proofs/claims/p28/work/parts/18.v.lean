/-! Both readings are one. -/
theorem fg_iff {b : Nat → Int32} {n q lo hi : Int32} : (fg b n q lo hi = true) ↔ (q < n ∧ ((¬ (b q.toNatClampNeg - 48 < lo)) ∧ (¬ (hi < b q.toNatClampNeg - 48)))) := by
  unfold fg
  simp
theorem fi_i48 : (48 : Int32).toInt = 48 := rfl
/-- a figure at a place: the same on both sides -/
theorem fr_eq {b : Nat → Int32} {n q lo hi : Int32} {R : fl_M} (h17 : R 81 17 = q) (h18 : R 81 18 = n) (hq : q.toInt ≤ n.toInt) (hb : q.toInt < n.toInt → rh R = b q.toNatClampNeg ∧ -128 ≤ (b q.toNatClampNeg).toInt ∧ (b q.toNatClampNeg).toInt ≤ 127) (hlo : 0 ≤ lo.toInt ∧ lo.toInt ≤ 9) (hhi : -1 ≤ hi.toInt ∧ hi.toInt ≤ 9) : fg b n q lo hi = rg R lo hi := by
  apply Bool.eq_iff_iff.mpr
  rw [fg_iff, rg_eq, h17, h18]
  have el : (48 + lo).toInt = 48 + lo.toInt := by rw [fi_add (by rw [fi_i48]; omega) (by rw [fi_i48]; omega), fi_i48]
  have eh : (48 + hi).toInt = 48 + hi.toInt := by rw [fi_add (by rw [fi_i48]; omega) (by rw [fi_i48]; omega), fi_i48]
  by_cases hc : q.toInt < n.toInt
  · obtain ⟨r1, r2, r3⟩ := hb hc
    have eb : (b q.toNatClampNeg - 48).toInt = (b q.toNatClampNeg).toInt - 48 := by rw [fi_sub (by rw [fi_i48]; omega) (by rw [fi_i48]; omega), fi_i48]
    rw [r1, fi_l, fi_l, fi_l, fi_l, fi_l, fi_e, eb, el, eh]
    omega
  · rw [fi_l, fi_e]
    omega
/-- what both have read so far -/
def ps (a : Nat) (n t : Int32) (b : Nat → Int32) (C R : fl_M) : Prop :=
  C a = b ∧ R 81 16 = 60 * t ∧ R 81 18 = n ∧ C 24 0 = R 81 19 ∧ C 24 1 = R 81 22 ∧ cI C ∧ (∀ i : Nat, (i : Int) < n.toInt → R 90 (60 * t.toNatClampNeg + i) = b i) ∧
  (∀ j : Nat, (j : Int) < (C 24 0).toInt → C 25 j = R 92 j ∧ C 26 j = R 93 j) ∧ (∀ j : Nat, (j : Int) < (C 24 1).toInt → C 29 j = R 94 (3 * j) ∧ C 31 j = R 94 (3 * j + 1) ∧ C 30 j = R 94 (3 * j + 2))
/-- a text's bytes -/
def pb (n : Int32) (b : Nat → Int32) : Prop := n.toInt ≤ 60 ∧ ∀ i : Nat, (i : Int) < n.toInt → -128 ≤ (b i).toInt ∧ (b i).toInt ≤ 127
section PAR
variable {a : Nat} {n t : Int32} {b : Nat → Int32} {C R : fl_M}
theorem rh_b (h : ps a n t b C R) (ht : 0 ≤ t.toInt ∧ t.toInt ≤ 3) (hb : pb n b) {X : fl_M} {q : Int32} (hX : X 90 = R 90) (h16 : X 81 16 = R 81 16) (h17 : X 81 17 = q) (h0 : 0 ≤ q.toInt) : q.toInt < n.toInt → rh X = b q.toNatClampNeg ∧ -128 ≤ (b q.toNatClampNeg).toInt ∧ (b q.toNatClampNeg).toInt ≤ 127 := by
  intro hq
  have e := fi_cl q
  have hn := hb.1
  have h1 := hb.2 q.toNatClampNeg (by omega)
  refine ⟨?_, h1⟩
  unfold rh
  rw [h16, h17, h.2.1, fi_60 ht.1 ht.2 h0 (by omega), hX]
  exact h.2.2.2.2.2.2.1 q.toNatClampNeg (by omega)
/-- the place moved: all else stands -/
theorem ps_mv {x : Int32} (h : ps a n t b C R) : ps a n t b C (fl_u R 81 17 x) := by
  obtain ⟨p1, p2, p3, p4, p5, p6, p9, p10, p11⟩ := h
  exact ⟨p1, p2, p3, p4, p5, p6, fun i hi => by rw [fl_un (by decide)]; exact p9 i hi, fun j hj => by rw [fl_un (by decide), fl_un (by decide)]; exact p10 j hj, fun j hj => by rw [fl_un (by decide)]; exact p11 j hj⟩
/-- a line -/
theorem li_eq (h : ps a n t b C R) (ht : 0 ≤ t.toInt ∧ t.toInt ≤ 3) (hb : pb n b) (ha : 11 ≤ a ∧ a ≤ 14) (h0 : 0 ≤ (R 81 17).toInt) (hn : (R 81 17).toInt < n.toInt) :
    (rl_v R = 0 ∧ ¬ ln_v C a n (R 81 17) = (-9) ∧ ln_v C a n (R 81 17) = rl_M R 81 17 ∧ ps a n t b (ln_M C a n (R 81 17)) (rl_M R)) ∨ (¬ rl_v R = 0 ∧ ln_v C a n (R 81 17) = (-9) ∧ ps a n t b (ln_M C a n (R 81 17)) (rl_M R)) := by
  have hh := h
  obtain ⟨p1, p2, p3, p4, p5, ⟨p6, p7, p8⟩, p9, p10, p11⟩ := h
  have n6 := hb.1
  have e1 := fi_p1 (p := R 81 17) (by omega)
  have e2 := fi_p1 (p := R 81 17 + 1) (by omega)
  have e3 := fi_p1 (p := R 81 17 + 1 + 1) (by omega)
  have i2 : R 81 17 + 2 = R 81 17 + 1 + 1 := by
    rw [fi_e, fi_add (by rw [show (2 : Int32).toInt = 2 from rfl]; omega) (by rw [show (2 : Int32).toInt = 2 from rfl]; omega), show (2 : Int32).toInt = 2 from rfl, e2, e1]
    omega
  have i3 : R 81 17 + 3 = R 81 17 + 1 + 1 + 1 := by
    rw [fi_e, fi_add (by rw [fi_i3]; omega) (by rw [fi_i3]; omega), fi_i3, e3, e2, e1]
    omega
  have n9 : ∀ x : Int32, 0 ≤ x.toInt → ¬ x = (-9) := fun x hx z => by
    rw [z, show (-9 : Int32).toInt = -9 from rfl] at hx
    omega
  have f1 : fg (C a) n (R 81 17 + 1) 0 9 = rg (fl_u R 81 17 ((R 81 17) + 1)) 0 9 := by
    rw [p1]
    exact fr_eq rfl p3 (by omega) (rh_b hh ht hb (by rw [fl_un (by decide)]) rfl rfl (by omega)) (by decide) (by decide)
  have f2 : (R 81 17 + 1).toInt < n.toInt → fg (C a) n (R 81 17 + 1 + 1) 0 9 = rg (fl_u (fl_u R 81 17 ((R 81 17) + 1)) 81 17 (((R 81 17) + 1) + 1)) 0 9 := by
    intro hq
    rw [p1]
    exact fr_eq rfl p3 (by omega) (rh_b hh ht hb (by rw [fl_un (by decide), fl_un (by decide)]) rfl rfl (by omega)) (by decide) (by decide)
  have f3 : (R 81 17 + 1 + 1).toInt < n.toInt → fg (C a) n (R 81 17 + 1 + 1 + 1) 0 9 = rg (fl_u (fl_u (fl_u R 81 17 ((R 81 17) + 1)) 81 17 (((R 81 17) + 1) + 1)) 81 17 ((((R 81 17) + 1) + 1) + 1)) 0 9 := by
    intro hq
    rw [p1]
    exact fr_eq rfl p3 (by omega) (rh_b hh ht hb (by rw [fl_un (by decide), fl_un (by decide), fl_un (by decide)]) rfl rfl (by omega)) (by decide) (by decide)
  have c8 : C 24 0 < 8 ↔ ¬ R 81 19 = 8 := by
    rw [← p4, fi_l, fi_e, fi_8]
    omega
  unfold ln_v ln_M rl_v rl_M
  by_cases m0 : 0 < R 81 22
  · have m1 : 0 < C 24 1 := by rw [p5]; exact m0
    by_cases l8 : R 81 19 = 8
    · simp only [if_pos m1, if_pos l8]
      exact Or.inl ⟨by first | rfl | trivial, n9 _ h0, by first | rfl | trivial | exact i2, hh⟩
    · simp only [if_pos m1, if_neg l8, if_pos m0]
      exact Or.inl ⟨by first | rfl | trivial, n9 _ h0, by first | rfl | trivial | exact i2, hh⟩
  · have m1 : ¬ 0 < C 24 1 := by rw [p5]; exact m0
    by_cases l8 : R 81 19 = 8
    · have l9 : ¬ C 24 0 < 8 := fun z => c8.mp z l8
      simp only [if_neg m1, if_pos l8, if_neg l9]
      exact Or.inl ⟨by first | rfl | trivial, n9 _ h0, by first | rfl | trivial | exact i2, hh⟩
    · have l9 := c8.mpr l8
      simp only [if_neg m1, if_neg m0, if_neg l8, if_pos l9]
      by_cases g1 : rg (fl_u R 81 17 ((R 81 17) + 1)) 0 9 = true
      · have k1 : fg (C a) n (R 81 17 + 1) 0 9 = true := f1.trans g1
        have z1 := fg_lt k1
        simp only [if_pos g1, if_pos k1]
        by_cases g2 : rg (fl_u (fl_u R 81 17 ((R 81 17) + 1)) 81 17 (((R 81 17) + 1) + 1)) 0 9 = true
        · have k2 : fg (C a) n (R 81 17 + 1 + 1) 0 9 = true := (f2 z1).trans g2
          have z2 := fg_lt k2
          simp only [if_pos g2, if_pos k2]
          by_cases g3 : rg (fl_u (fl_u (fl_u R 81 17 ((R 81 17) + 1)) 81 17 (((R 81 17) + 1) + 1)) 81 17 ((((R 81 17) + 1) + 1) + 1)) 0 9 = true
          · have k3 : fg (C a) n (R 81 17 + 1 + 1 + 1) 0 9 = true := (f3 z2).trans g3
            have z3 := fg_lt k3
            simp only [if_pos g3, if_pos k3]
            have v1 : rv (fl_u R 81 17 ((R 81 17) + 1)) = C a (R 81 17 + 1).toNatClampNeg - 48 := by
              unfold rv
              rw [(rh_b hh ht hb (X := fl_u R 81 17 ((R 81 17) + 1)) (by rw [fl_un (by decide)]) rfl rfl (by show 0 ≤ (R 81 17 + 1).toInt; omega) z1).1, p1]
              rfl
            have v2 : rv (fl_u (fl_u R 81 17 ((R 81 17) + 1)) 81 17 (((R 81 17) + 1) + 1)) = C a (R 81 17 + 2).toNatClampNeg - 48 := by
              unfold rv
              rw [(rh_b hh ht hb (X := fl_u (fl_u R 81 17 ((R 81 17) + 1)) 81 17 (((R 81 17) + 1) + 1)) (by rw [fl_un (by decide), fl_un (by decide)]) rfl rfl (by show 0 ≤ (R 81 17 + 1 + 1).toInt; omega) z2).1, p1, i2]
              rfl
            have v3 : rv (fl_u (fl_u (fl_u R 81 17 ((R 81 17) + 1)) 81 17 (((R 81 17) + 1) + 1)) 81 17 ((((R 81 17) + 1) + 1) + 1)) = C a (R 81 17 + 3).toNatClampNeg - 48 := by
              unfold rv
              rw [(rh_b hh ht hb (X := fl_u (fl_u (fl_u R 81 17 ((R 81 17) + 1)) 81 17 (((R 81 17) + 1) + 1)) 81 17 ((((R 81 17) + 1) + 1) + 1)) (by rw [fl_un (by decide), fl_un (by decide), fl_un (by decide)]) rfl rfl (by show 0 ≤ (R 81 17 + 1 + 1 + 1).toInt; omega) z3).1, p1, i3]
              rfl
            have as : ∀ x y : Int32, x + (y - 48) = x + y - 48 := fun x y => by rw [Int32.sub_eq_add_neg, Int32.sub_eq_add_neg, Int32.add_assoc]
            rw [v1, v2, v3, as]
            generalize (10 * (C a (R 81 17 + 2).toNatClampNeg - 48) + C a (R 81 17 + 3).toNatClampNeg - 48) = L
            by_cases b1 : L < 1
            · have q : ¬ ((¬ L < 1) ∧ (¬ 40 < L)) := fun z => z.1 b1
              simp only [if_pos b1, if_neg q]
              exact Or.inl ⟨by first | rfl | trivial, n9 _ (by rw [i2]; omega), by first | rfl | trivial | exact i2, ps_mv (ps_mv (ps_mv (ps_mv (ps_mv hh))))⟩
            · by_cases b2 : 40 < L
              · have q : ¬ ((¬ L < 1) ∧ (¬ 40 < L)) := fun z => z.2 b2
                simp only [if_neg b1, if_pos b2, if_neg q]
                exact Or.inl ⟨by first | rfl | trivial, n9 _ (by rw [i2]; omega), by first | rfl | trivial | exact i2, ps_mv (ps_mv (ps_mv (ps_mv (ps_mv hh))))⟩
              · have q : (¬ L < 1) ∧ (¬ 40 < L) := ⟨b1, b2⟩
                simp only [if_neg b1, if_neg b2, if_pos q]
                refine Or.inr ⟨by first | decide | trivial, by first | rfl | trivial, ?_⟩
                have l9 := fi_l.mp l9
                rw [fi_8] at l9
                have el := fi_p1 (p := C 24 0) (by omega)
                have ec := fi_cl (C 24 0)
                refine ⟨?_, p2, p3, ?_, p5, ⟨⟨show 0 ≤ (C 24 0 + 1).toInt by omega, show (C 24 0 + 1).toInt ≤ 8 by omega⟩, p7, ?_⟩, fun i hi => ?_, fun j hj => ?_, fun j hj => ?_⟩
                · rw [fl_un (by omega), fl_un (by omega), fl_un (by omega)]
                  exact p1
                · show C 24 0 + 1 = R 81 19 + 1
                  rw [p4]
                · rw [fl_un (by decide), fl_un (by decide), fl_un (by decide)]
                  exact p8
                · rw [fl_un (by decide), fl_un (by decide), fl_un (by decide), fl_un (by decide), fl_un (by decide), fl_un (by decide), fl_un (by decide)]
                  exact p9 i hi
                · have hj : (j : Int) < (C 24 0 + 1).toInt := hj
                  rw [← p4]
                  rw [fl_un (show 25 ≠ 24 by decide), fl_un (show 26 ≠ 24 by decide), fl_un (show 25 ≠ 26 by decide), fl_un (show 92 ≠ 81 by decide), fl_un (show 93 ≠ 81 by decide), fl_un (show 92 ≠ 93 by decide)]
                  unfold fl_u
                  by_cases hjl : j = (C 24 0).toNatClampNeg
                  · simp [hjl]
                  · have h2 := p10 j (by omega)
                    simp [hjl, h2.1, h2.2]
                · have hj : (j : Int) < (C 24 1).toInt := hj
                  rw [fl_un (show 29 ≠ 24 by decide), fl_un (show 29 ≠ 26 by decide), fl_un (show 29 ≠ 25 by decide), fl_un (show 31 ≠ 24 by decide), fl_un (show 31 ≠ 26 by decide), fl_un (show 31 ≠ 25 by decide), fl_un (show 30 ≠ 24 by decide), fl_un (show 30 ≠ 26 by decide), fl_un (show 30 ≠ 25 by decide), fl_un (show 94 ≠ 81 by decide), fl_un (show 94 ≠ 93 by decide), fl_un (show 94 ≠ 92 by decide), fl_un (show 94 ≠ 81 by decide), fl_un (show 94 ≠ 81 by decide), fl_un (show 94 ≠ 81 by decide), fl_un (show 94 ≠ 81 by decide)]
                  exact p11 j hj
          · have k3 : ¬ fg (C a) n (R 81 17 + 1 + 1 + 1) 0 9 = true := fun z => g3 ((f3 z2).symm.trans z)
            simp only [if_neg g3, if_neg k3]
            exact Or.inl ⟨by first | rfl | trivial, n9 _ (by omega), by first | rfl | trivial | exact i2, ps_mv (ps_mv (ps_mv hh))⟩
        · have k2 : ¬ fg (C a) n (R 81 17 + 1 + 1) 0 9 = true := fun z => g2 ((f2 z1).symm.trans z)
          simp only [if_neg g2, if_neg k2]
          exact Or.inl ⟨by first | rfl | trivial, n9 _ (by omega), by first | rfl | trivial | exact i2, ps_mv (ps_mv hh)⟩
      · have k1 : ¬ fg (C a) n (R 81 17 + 1) 0 9 = true := fun z => g1 (f1.symm.trans z)
        simp only [if_neg g1, if_neg k1]
        exact Or.inl ⟨by first | rfl | trivial, n9 _ (by omega), by first | rfl | trivial | exact i2, ps_mv hh⟩
/-- a mouse -/
theorem mi_eq (h : ps a n t b C R) (ht : 0 ≤ t.toInt ∧ t.toInt ≤ 3) (hb : pb n b) (ha : 11 ≤ a ∧ a ≤ 14) (h0 : 0 ≤ (R 81 17).toInt) (hn : (R 81 17).toInt < n.toInt) :
    (rm_v R = 0 ∧ ¬ mo_v C a n (R 81 17) = (-9) ∧ mo_v C a n (R 81 17) = rm_M R 81 17 ∧ ps a n t b (mo_M C a n (R 81 17)) (rm_M R)) ∨ (¬ rm_v R = 0 ∧ mo_v C a n (R 81 17) = (-9) ∧ ps a n t b (mo_M C a n (R 81 17)) (rm_M R)) := by
  have hh := h
  obtain ⟨p1, p2, p3, p4, p5, ⟨p6, p7, p8⟩, p9, p10, p11⟩ := h
  have n6 := hb.1
  have e1 := fi_p1 (p := R 81 17) (by omega)
  have e2 := fi_p1 (p := R 81 17 + 1) (by omega)
  have i2 : R 81 17 + 2 = R 81 17 + 1 + 1 := by
    rw [fi_e, fi_add (by rw [show (2 : Int32).toInt = 2 from rfl]; omega) (by rw [show (2 : Int32).toInt = 2 from rfl]; omega), show (2 : Int32).toInt = 2 from rfl, e2, e1]
    omega
  have n9 : ∀ x : Int32, 0 ≤ x.toInt → ¬ x = (-9) := fun x hx z => by
    rw [z, show (-9 : Int32).toInt = -9 from rfl] at hx
    omega
  have r0 : rh R = C a (R 81 17).toNatClampNeg := by
    rw [(rh_b hh ht hb rfl rfl rfl h0 hn).1, p1]
  have c4 : C 24 1 < 4 ↔ ¬ R 81 22 = 4 := by
    rw [← p5, fi_l, fi_e, fi_i4]
    omega
  unfold mo_v mo_M rm_v rm_M
  rw [r0]
  by_cases k : fk (C a (R 81 17).toNatClampNeg) = (-9)
  · simp only [if_pos k]
    exact Or.inl ⟨by first | rfl | trivial, n9 _ h0, by first | rfl | trivial | exact i2, hh⟩
  · simp only [if_neg k]
    by_cases l0 : R 81 19 = 0
    · have l1 : C 24 0 = 0 := p4.trans l0
      by_cases m4 : R 81 22 = 4
      · simp only [if_pos l1, if_pos m4]
        exact Or.inl ⟨by first | rfl | trivial, n9 _ h0, by first | rfl | trivial | exact i2, hh⟩
      · simp only [if_pos l1, if_neg m4, if_pos l0]
        exact Or.inl ⟨by first | rfl | trivial, n9 _ h0, by first | rfl | trivial | exact i2, hh⟩
    · have l1 : ¬ C 24 0 = 0 := fun z => l0 (p4.symm.trans z)
      by_cases m4 : R 81 22 = 4
      · have m5 : ¬ C 24 1 < 4 := fun z => c4.mp z m4
        simp only [if_neg l1, if_pos m4, if_neg m5]
        exact Or.inl ⟨by first | rfl | trivial, n9 _ h0, by first | rfl | trivial | exact i2, hh⟩
      · have m5 := c4.mpr m4
        simp only [if_neg l1, if_neg m4, if_neg l0, if_pos m5]
        have l2 := fi_ne l1
        rw [fi_i0] at l2
        have eh : (C 24 0 - 1).toInt = (C 24 0).toInt - 1 := by rw [fi_sub (by rw [fi_i1]; omega) (by rw [fi_i1]; omega), fi_i1]
        have f1 : fg (C a) n (R 81 17 + 1) 0 (C 24 0 - 1) = rg (fl_u R 81 17 ((R 81 17) + 1)) 0 ((R 81 19) - 1) := by
          rw [← p4, p1]
          exact fr_eq rfl p3 (by omega) (rh_b hh ht hb (by rw [fl_un (by decide)]) rfl rfl (by omega)) (by decide) (by omega)
        have f2 : (R 81 17 + 1).toInt < n.toInt → fg (C a) n (R 81 17 + 2) 1 9 = rg (fl_u (fl_u R 81 17 ((R 81 17) + 1)) 81 17 (((R 81 17) + 1) + 1)) 1 9 := by
          intro hq
          rw [p1, i2]
          exact fr_eq rfl p3 (by omega) (rh_b hh ht hb (by rw [fl_un (by decide), fl_un (by decide)]) rfl rfl (by omega)) (by decide) (by decide)
        by_cases g1 : rg (fl_u R 81 17 ((R 81 17) + 1)) 0 ((R 81 19) - 1) = true
        · have k1 : fg (C a) n (R 81 17 + 1) 0 (C 24 0 - 1) = true := f1.trans g1
          have z1 := fg_lt k1
          simp only [if_pos g1, if_pos k1]
          by_cases g2 : rg (fl_u (fl_u R 81 17 ((R 81 17) + 1)) 81 17 (((R 81 17) + 1) + 1)) 1 9 = true
          · have k2 : fg (C a) n (R 81 17 + 2) 1 9 = true := (f2 z1).trans g2
            have z2 := fg_lt k2
            rw [i2] at z2
            simp only [if_pos g2, if_pos k2]
            have v1 : rv (fl_u R 81 17 ((R 81 17) + 1)) = C a (R 81 17 + 1).toNatClampNeg - 48 := by
              unfold rv
              rw [(rh_b hh ht hb (X := fl_u R 81 17 ((R 81 17) + 1)) (by rw [fl_un (by decide)]) rfl rfl (by show 0 ≤ (R 81 17 + 1).toInt; omega) z1).1, p1]
              rfl
            have v2 : rv (fl_u (fl_u R 81 17 ((R 81 17) + 1)) 81 17 (((R 81 17) + 1) + 1)) = C a (R 81 17 + 2).toNatClampNeg - 48 := by
              unfold rv
              rw [(rh_b hh ht hb (X := fl_u (fl_u R 81 17 ((R 81 17) + 1)) 81 17 (((R 81 17) + 1) + 1)) (by rw [fl_un (by decide), fl_un (by decide)]) rfl rfl (by show 0 ≤ (R 81 17 + 1 + 1).toInt; omega) z2).1, p1, i2]
              rfl
            rw [v1, v2, fl_un (show a ≠ 31 by omega), fl_un (show a ≠ 29 by omega)]
            refine Or.inr ⟨by first | decide | trivial, by first | rfl | trivial, ?_⟩
            have m6 := fi_l.mp m5
            rw [fi_i4] at m6
            have el := fi_p1 (p := C 24 1) (by omega)
            have ec := fi_cl (C 24 1)
            have em : (3 * C 24 1).toInt = 3 * (C 24 1).toInt := by rw [fi_mul (by rw [fi_i3]; omega) (by rw [fi_i3]; omega), fi_i3]
            have x0 : (3 * C 24 1).toNatClampNeg = 3 * (C 24 1).toNatClampNeg := by rw [fi_cl, em]; omega
            have x1 : (3 * C 24 1 + 1).toNatClampNeg = 3 * (C 24 1).toNatClampNeg + 1 := by rw [fi_cl, fi_p1 (by omega), em]; omega
            have x2 : (3 * C 24 1 + 2).toNatClampNeg = 3 * (C 24 1).toNatClampNeg + 2 := by
              rw [fi_cl, fi_add (by rw [show (2 : Int32).toInt = 2 from rfl]; omega) (by rw [show (2 : Int32).toInt = 2 from rfl]; omega), em, show (2 : Int32).toInt = 2 from rfl]
              omega
            rw [← p5, x0, x1, x2]
            refine ⟨?_, p2, p3, p4, rfl, ⟨p6, ⟨show 0 ≤ (C 24 1 + 1).toInt by omega, show (C 24 1 + 1).toInt ≤ 4 by omega⟩, ?_⟩, fun i hi => ?_, fun j hj => ?_, fun j hj => ?_⟩
            · rw [fl_un (by omega), fl_un (by omega), fl_un (by omega), fl_un (by omega)]
              exact p1
            · rw [fl_un (by decide), fl_un (by decide), fl_un (by decide), fl_un (by decide)]
              exact p8
            · rw [fl_un (by decide), fl_un (by decide), fl_un (by decide), fl_un (by decide), fl_un (by decide), fl_un (by decide), fl_un (by decide)]
              exact p9 i hi
            · have hj : (j : Int) < (C 24 0).toInt := hj
              have h2 := p10 j hj
              unfold fl_u
              simp [h2.1, h2.2]
            · have hj : (j : Int) < (C 24 1 + 1).toInt := hj
              by_cases hjl : j = (C 24 1).toNatClampNeg
              · subst hjl
                unfold fl_u
                simp
              · have h2 := p11 j (by omega)
                have d0 : ¬ 3 * j = 3 * (C 24 1).toNatClampNeg := by omega
                have d1 : ¬ 3 * j = 3 * (C 24 1).toNatClampNeg + 1 := by omega
                have d2 : ¬ 3 * j = 3 * (C 24 1).toNatClampNeg + 2 := by omega
                have d3 : ¬ 3 * j + 1 = 3 * (C 24 1).toNatClampNeg := by omega
                have d4 : ¬ 3 * j + 1 = 3 * (C 24 1).toNatClampNeg + 1 := by omega
                have d5 : ¬ 3 * j + 1 = 3 * (C 24 1).toNatClampNeg + 2 := by omega
                have d6 : ¬ 3 * j + 2 = 3 * (C 24 1).toNatClampNeg := by omega
                have d7 : ¬ 3 * j + 2 = 3 * (C 24 1).toNatClampNeg + 1 := by omega
                have d8 : ¬ 3 * j + 2 = 3 * (C 24 1).toNatClampNeg + 2 := by omega
                unfold fl_u
                simp only [hjl, d0, d1, d2, d3, d4, d5, d6, d7, d8, and_false, and_true, if_false, if_true, false_and, Nat.reduceEqDiff]
                simpa using h2
          · have k2 : ¬ fg (C a) n (R 81 17 + 2) 1 9 = true := fun z => g2 ((f2 z1).symm.trans z)
            simp only [if_neg g2, if_neg k2]
            exact Or.inl ⟨by first | rfl | trivial, n9 _ (by rw [i2]; omega), by first | rfl | trivial | exact i2, ps_mv (ps_mv hh)⟩
        · have k1 : ¬ fg (C a) n (R 81 17 + 1) 0 (C 24 0 - 1) = true := fun z => g1 (f1.symm.trans z)
          simp only [if_neg g1, if_neg k1]
          exact Or.inl ⟨by first | rfl | trivial, n9 _ (by omega), by first | rfl | trivial | exact i2, ps_mv hh⟩
/-- blanks: how much is left of the way doesn't matter -/
theorem sk_fu (hn : n.toInt ≤ 60) : ∀ (f g : Nat) (p : Int32), 0 ≤ p.toInt → n.toInt ≤ p.toInt + f → n.toInt ≤ p.toInt + g → sk b n f p = sk b n g p := by
  intro f
  induction f with
  | zero =>
    intro g p h0 hf hg
    have no : ¬ p < n := fun z => by have z := fi_l.mp z; omega
    cases g with
    | zero => rfl
    | succ g => unfold sk; rw [if_neg no]
  | succ f ih =>
    intro g p h0 hf hg
    cases g with
    | zero =>
      have no : ¬ p < n := fun z => by have z := fi_l.mp z; omega
      unfold sk
      rw [if_neg no]
    | succ g =>
      unfold sk
      split
      · rename_i h1
        have h1 := fi_l.mp h1
        have e := fi_p1 (p := p) (by omega)
        split
        · exact ih g (p + 1) (by omega) (by omega) (by omega)
        · rfl
      · rfl
theorem sk_st (hn : n.toInt ≤ 60) {p : Int32} (h0 : 0 ≤ p.toInt) (h1 : p < n) (h2 : b p.toNatClampNeg = 32) : sk b n 60 p = sk b n 60 (p + 1) := by
  have z := fi_l.mp h1
  have e := fi_p1 (p := p) (by omega)
  have e1 : sk b n 60 p = sk b n 59 (p + 1) := by
    show (if p < n then (if b p.toNatClampNeg = 32 then sk b n 59 (p + 1) else p) else p) = _
    rw [if_pos h1, if_pos h2]
  rw [e1]
  exact sk_fu hn 59 60 (p + 1) (by omega) (by omega) (by omega)
theorem sk_nb {p : Int32} (h : ¬ (p < n ∧ b p.toNatClampNeg = 32)) : sk b n 60 p = p := by
  show (if p < n then (if b p.toNatClampNeg = 32 then sk b n 59 (p + 1) else p) else p) = _
  split
  · rename_i h1
    split
    · rename_i h2
      exact absurd ⟨h1, h2⟩ h
    · rfl
  · rfl
theorem sk_le (hn : n.toInt ≤ 60) : ∀ (f : Nat) (p : Int32), 0 ≤ p.toInt → p.toInt ≤ n.toInt → (sk b n f p).toInt ≤ n.toInt := by
  intro f
  induction f with
  | zero => intro p _ h; exact h
  | succ f ih =>
    intro p h0 h
    unfold sk
    split
    · rename_i h1
      have h1 := fi_l.mp h1
      have e := fi_p1 (p := p) (by omega)
      split
      · exact ih (p + 1) (by omega) (by omega)
      · exact h
    · exact h
/-- skip, as a move of the place -/
theorem rsk_sk (h : ps a n t b C R) (ht : 0 ≤ t.toInt ∧ t.toInt ≤ 3) (hb : pb n b) : ∀ (f : Nat) (X : fl_M), X 90 = R 90 → X 81 16 = R 81 16 → X 81 18 = n → 0 ≤ (X 81 17).toInt → rsk f X = fl_u X 81 17 (sk b n f (X 81 17)) := by
  intro f
  have self : ∀ X : fl_M, X = fl_u X 81 17 (X 81 17) := by
    intro X
    funext c j
    unfold fl_u
    split
    · rename_i z
      rw [z.1, z.2]
    · rfl
  induction f with
  | zero => intro X _ _ _ _; exact self X
  | succ f ih =>
    intro X h90 h16 h18 h0
    unfold rsk sk
    rw [h18]
    by_cases h1 : X 81 17 < n
    · have z := fi_l.mp h1
      have n6 := hb.1
      have e := fi_p1 (p := X 81 17) (by omega)
      rw [if_pos h1, if_pos h1, (rh_b h ht hb h90 h16 rfl h0 z).1]
      by_cases h2 : b (X 81 17).toNatClampNeg = 32
      · rw [if_pos h2, if_pos h2, ih (fl_u X 81 17 (X 81 17 + 1)) (by rw [fl_un (by decide)]; exact h90) h16 h18 (show 0 ≤ (X 81 17 + 1).toInt by omega)]
        funext c j
        unfold fl_u
        split
        · rfl
        · rfl
      · rw [if_neg h2, if_neg h2]
        exact self X
    · rw [if_neg h1, if_neg h1]
      exact self X
theorem rpar_0 {g : Nat} {v : Int32} {M : fl_M} (h : v = 0) : rpar g v M = (M 81 17, M) := by
  cases g with
  | zero => unfold rpar; rw [if_pos h]
  | succ g => unfold rpar; rw [if_pos h]
theorem rIps (h : ps a n t b C R) (h0 : 0 ≤ (R 81 17).toInt) (hn : (R 81 17).toInt < n.toInt) (n6 : n.toInt ≤ 60) (ht : 0 ≤ t.toInt ∧ t.toInt ≤ 3) : rI R := by
  obtain ⟨p1, p2, p3, p4, p5, ⟨p6, p7, p8⟩, p9, p10, p11⟩ := h
  have et : (60 * t).toInt = 60 * t.toInt := by rw [fi_mul (by rw [fi_i60]; omega) (by rw [fi_i60]; omega), fi_i60]
  refine ⟨?_, ?_, ?_, ?_⟩
  · rw [p2, et]; omega
  · rw [p3]; omega
  · rw [← p4]; exact p6
  · rw [← p5]; exact p7
/-- both read on alike -/
theorem pa_eq (ht : 0 ≤ t.toInt ∧ t.toInt ≤ 3) (hb : pb n b) (ha : 11 ≤ a ∧ a ≤ 14) : ∀ (f : Nat) (p : Int32) (C R : fl_M) (v : Int32) (g : Nat), ps a n t b C R → ¬ v = 0 → 0 ≤ p.toInt → p.toInt ≤ n.toInt → R 81 17 = sk b n 60 p → n.toInt ≤ p.toInt + f → n.toInt ≤ (R 81 17).toInt + g →
    (cpar a n f p C).1 = (rpar g v R).1 ∧ ((cpar a n f p C).1 = (-9) → ps a n t b (cpar a n f p C).2 (rpar g v R).2) := by
  have n6 := hb.1
  have fin : ∀ (p : Int32) (C R : fl_M) (v : Int32) (g : Nat), ps a n t b C R → ¬ v = 0 → 0 ≤ p.toInt → p.toInt ≤ n.toInt → R 81 17 = sk b n 60 p → ¬ p < n → (if C 24 1 = 0 then n else (-9)) = (rpar g v R).1 ∧ (rpar g v R).2 = R := by
    intro p C R v g hps hv h0 hp hs hno
    have q : R 81 17 = n := by
      rw [hs, sk_nb (fun z => hno z.1), fi_e]
      have := fi_ge.mp hno
      omega
    have q2 : ¬ R 81 17 < R 81 18 := by
      rw [q, hps.2.2.1, fi_l]
      omega
    have m : C 24 1 = 0 ↔ ¬ 0 < R 81 22 := by
      have := hps.2.2.2.2.2.1.2.1
      rw [← hps.2.2.2.2.1, fi_e, fi_l, fi_i0]
      omega
    have e : rpar g v R = (if 0 < R 81 22 then (-9) else R 81 17, R) := by
      cases g with
      | zero => unfold rpar; rw [if_neg hv]
      | succ g => unfold rpar; rw [if_neg hv, if_neg q2]
    rw [e, q]
    refine ⟨?_, rfl⟩
    by_cases h1 : 0 < R 81 22
    · rw [if_pos h1, if_neg (fun z => m.mp z h1)]
    · rw [if_neg h1, if_pos (m.mpr h1)]
  intro f
  induction f with
  | zero =>
    intro p C R v g hps hv h0 hp hs hf hg
    have hno : ¬ p < n := fun z => by have z := fi_l.mp z; omega
    obtain ⟨q1, q2⟩ := fin p C R v g hps hv h0 hp hs hno
    unfold cpar
    exact ⟨q1, fun _ => by rw [q2]; exact hps⟩
  | succ f ih =>
    intro p C R v g hps hv h0 hp hs hf hg
    unfold cpar
    by_cases h1 : p < n
    · have z1 := fi_l.mp h1
      have e1 := fi_p1 (p := p) (by omega)
      rw [if_pos h1, hps.1]
      by_cases h2 : b p.toNatClampNeg = 32
      · rw [if_pos h2]
        exact ih (p + 1) C R v g hps hv (by omega) (by omega) (by rw [hs]; exact sk_st n6 h0 h1 h2) (by omega) hg
      · rw [if_neg h2]
        have hp17 : R 81 17 = p := by rw [hs]; exact sk_nb (fun z => h2 z.2)
        have hr : rh R = b p.toNatClampNeg := (rh_b hps ht hb rfl rfl hp17 h0 z1).1
        have hlt : R 81 17 < R 81 18 := by rw [hp17, hps.2.2.1]; exact h1
        obtain ⟨g', rfl⟩ : ∃ g', g = g' + 1 := ⟨g - 1, by rw [hp17] at hg; omega⟩
        have er : rpar (g' + 1) v R = (if rh R = 108 then (if rl_v R = 0 then rpar g' (rl_v R) (rl_M R) else rpar g' (rl_v R) (rsk 60 (rl_M R))) else (if rm_v R = 0 then rpar g' (rm_v R) (rm_M R) else rpar g' (rm_v R) (rsk 60 (rm_M R)))) := by
          show (if v = 0 then _ else if R 81 17 < R 81 18 then _ else _) = _
          rw [if_neg hv, if_pos hlt]
        rw [er, hr]
        have p0 : 0 ≤ (R 81 17).toInt := by rw [hp17]; exact h0
        have pn : (R 81 17).toInt < n.toInt := by rw [hp17]; exact z1
        -- how a good item goes on
        have on : ∀ (C' R' : fl_M) (v' : Int32) (q : Int32), ps a n t b C' R' → ¬ v' = 0 → R' 81 17 = q → p.toInt + 1 ≤ q.toInt → q.toInt ≤ n.toInt → (cpar a n f q C').1 = (rpar g' v' (rsk 60 R')).1 ∧ ((cpar a n f q C').1 = (-9) → ps a n t b (cpar a n f q C').2 (rpar g' v' (rsk 60 R')).2) := by
          intro C' R' v' q hps' hv' hq hq1 hq2
          have er' := rsk_sk hps' ht hb 60 R' rfl rfl hps'.2.2.1 (by rw [hq]; omega)
          rw [er', hq]
          have sg := sk_ge (b := b) n6 60 q (by omega)
          refine ih q C' (fl_u R' 81 17 (sk b n 60 q)) v' g' (ps_mv hps') hv' (by omega) hq2 rfl (by omega) ?_
          show n.toInt ≤ (sk b n 60 q).toInt + g'
          rw [hp17] at hg
          omega
        by_cases h3 : b p.toNatClampNeg = 108
        · rw [if_pos h3, if_pos h3]
          have hl := li_eq hps ht hb ha p0 pn
          rw [hp17] at hl
          rcases hl with ⟨u1, u2, u3, u4⟩ | ⟨u1, u2, u4⟩
          · rw [if_neg u2, if_pos u1, rpar_0 u1]
            exact ⟨u3, fun y => absurd y u2⟩
          · rw [if_pos u2, if_neg u1]
            have pl := rl_pl u1
            have e2 := fi_p1 (p := p + 1) (by omega)
            have e3 := fi_p1 (p := p + 1 + 1) (by omega)
            have e4 := fi_p1 (p := p + 1 + 1 + 1) (by omega)
            have e5 : (p + 3).toInt = p.toInt + 3 := by rw [fi_add (by rw [fi_i3]; omega) (by rw [fi_i3]; omega), fi_i3]
            have e6 := fi_p1 (p := p + 3) (by omega)
            have q4 : rl_M R 81 17 = p + 3 + 1 := by
              rw [pl.1, hp17, fi_e]
              omega
            refine on _ _ _ _ u4 u1 q4 (by omega) ?_
            have w := (rI_rl (M := R) (rIps hps p0 pn n6 ht) (by rw [hps.2.2.1]; exact pn)).2.1.2.1
            rw [q4, pl.2, hps.2.2.1] at w
            exact w
        · rw [if_neg h3, if_neg h3]
          have hl := mi_eq hps ht hb ha p0 pn
          rw [hp17] at hl
          rcases hl with ⟨u1, u2, u3, u4⟩ | ⟨u1, u2, u4⟩
          · rw [if_neg u2, if_pos u1, rpar_0 u1]
            exact ⟨u3, fun y => absurd y u2⟩
          · rw [if_pos u2, if_neg u1]
            have pl := rm_pl u1
            have e2 := fi_p1 (p := p + 1) (by omega)
            have e3 := fi_p1 (p := p + 1 + 1) (by omega)
            have e5 : (p + 2).toInt = p.toInt + 2 := by rw [fi_add (by rw [show (2 : Int32).toInt = 2 from rfl]; omega) (by rw [show (2 : Int32).toInt = 2 from rfl]; omega)]; rfl
            have e6 := fi_p1 (p := p + 2) (by omega)
            have q4 : rm_M R 81 17 = p + 2 + 1 := by
              rw [pl.1, hp17, fi_e]
              omega
            refine on _ _ _ _ u4 u1 q4 (by omega) ?_
            have w := (rI_rm (M := R) (rIps hps p0 pn n6 ht) (by rw [hps.2.2.1]; exact pn)).2.1.2.1
            rw [q4, pl.2, hps.2.2.1] at w
            exact w
    · rw [if_neg h1]
      obtain ⟨q1, q2⟩ := fin p C R v g hps hv h0 hp hs h1
      exact ⟨q1, fun _ => by rw [q2]; exact hps⟩
end PAR
/-! Fault: a text is read alike on both sides. -/
def ra_v (M : fl_M) (t : Int32) : Int32 := (if (sk ((fl_u (fl_u M 24 0 0) 24 1 0) (fl_ar 10 t.toNatClampNeg)) (M 9 t.toNatClampNeg) 60 0) < (M 9 t.toNatClampNeg) then (if ((fl_u (fl_u M 24 0 0) 24 1 0) (fl_ar 10 t.toNatClampNeg) ((sk ((fl_u (fl_u M 24 0 0) 24 1 0) (fl_ar 10 t.toNatClampNeg)) (M 9 t.toNatClampNeg) 60 0).toNatClampNeg)) = 114 then (cpar (fl_ar 10 t.toNatClampNeg) (M 9 t.toNatClampNeg) 60 ((sk ((fl_u (fl_u M 24 0 0) 24 1 0) (fl_ar 10 t.toNatClampNeg)) (M 9 t.toNatClampNeg) 60 0) + 1) (fl_u (fl_u M 24 0 0) 24 1 0)).1 else sk ((fl_u (fl_u M 24 0 0) 24 1 0) (fl_ar 10 t.toNatClampNeg)) (M 9 t.toNatClampNeg) 60 0) else sk ((fl_u (fl_u M 24 0 0) 24 1 0) (fl_ar 10 t.toNatClampNeg)) (M 9 t.toNatClampNeg) 60 0)
def ra_M (M : fl_M) (t : Int32) : fl_M := (if (sk ((fl_u (fl_u M 24 0 0) 24 1 0) (fl_ar 10 t.toNatClampNeg)) (M 9 t.toNatClampNeg) 60 0) < (M 9 t.toNatClampNeg) then (if ((fl_u (fl_u M 24 0 0) 24 1 0) (fl_ar 10 t.toNatClampNeg) ((sk ((fl_u (fl_u M 24 0 0) 24 1 0) (fl_ar 10 t.toNatClampNeg)) (M 9 t.toNatClampNeg) 60 0).toNatClampNeg)) = 114 then (cpar (fl_ar 10 t.toNatClampNeg) (M 9 t.toNatClampNeg) 60 ((sk ((fl_u (fl_u M 24 0 0) 24 1 0) (fl_ar 10 t.toNatClampNeg)) (M 9 t.toNatClampNeg) 60 0) + 1) (fl_u (fl_u M 24 0 0) 24 1 0)).2 else (fl_u (fl_u M 24 0 0) 24 1 0)) else (fl_u (fl_u M 24 0 0) 24 1 0))
def fo_v (M : fl_M) (t : Int32) : Int32 := (if (hd_v (fl_u (fl_u (fl_u (fl_u (fl_u M 81 16 (60 * t)) 81 17 0) 81 18 (M 89 t.toNatClampNeg)) 81 19 0) 81 22 0)) = 0 then (rpar 60 (hd_v (fl_u (fl_u (fl_u (fl_u (fl_u M 81 16 (60 * t)) 81 17 0) 81 18 (M 89 t.toNatClampNeg)) 81 19 0) 81 22 0)) (hd_M (fl_u (fl_u (fl_u (fl_u (fl_u M 81 16 (60 * t)) 81 17 0) 81 18 (M 89 t.toNatClampNeg)) 81 19 0) 81 22 0))).1 else (rpar 60 (hd_v (fl_u (fl_u (fl_u (fl_u (fl_u M 81 16 (60 * t)) 81 17 0) 81 18 (M 89 t.toNatClampNeg)) 81 19 0) 81 22 0)) (rsk 60 (hd_M (fl_u (fl_u (fl_u (fl_u (fl_u M 81 16 (60 * t)) 81 17 0) 81 18 (M 89 t.toNatClampNeg)) 81 19 0) 81 22 0)))).1)
def fo_M (M : fl_M) (t : Int32) : fl_M := (if (hd_v (fl_u (fl_u (fl_u (fl_u (fl_u M 81 16 (60 * t)) 81 17 0) 81 18 (M 89 t.toNatClampNeg)) 81 19 0) 81 22 0)) = 0 then (rpar 60 (hd_v (fl_u (fl_u (fl_u (fl_u (fl_u M 81 16 (60 * t)) 81 17 0) 81 18 (M 89 t.toNatClampNeg)) 81 19 0) 81 22 0)) (hd_M (fl_u (fl_u (fl_u (fl_u (fl_u M 81 16 (60 * t)) 81 17 0) 81 18 (M 89 t.toNatClampNeg)) 81 19 0) 81 22 0))).2 else (rpar 60 (hd_v (fl_u (fl_u (fl_u (fl_u (fl_u M 81 16 (60 * t)) 81 17 0) 81 18 (M 89 t.toNatClampNeg)) 81 19 0) 81 22 0)) (rsk 60 (hd_M (fl_u (fl_u (fl_u (fl_u (fl_u M 81 16 (60 * t)) 81 17 0) 81 18 (M 89 t.toNatClampNeg)) 81 19 0) 81 22 0)))).2)
/-- a text is read alike -/
theorem ra_fo {C R : fl_M} {t : Int32} (hf : f2 C R) (hK : C 999 = sm_kl) (h0 : 0 ≤ t.toInt) (h3 : t.toInt ≤ 3) (hs : ¬ C 9 t.toNatClampNeg = (-1)) : ra_v C t = fo_v R t := by
  have ct := fi_cl t
  have hT4 : t.toNatClampNeg < 4 := by omega
  obtain ⟨t1, gl, gu, t2⟩ := hf.2 _ hT4
  have g1 := And.intro gl gu
  have s0 := fi_ne hs
  rw [fi_m1] at s0
  have n0 : 0 ≤ (C 9 t.toNatClampNeg).toInt := by omega
  have hb : pb (C 9 t.toNatClampNeg) (C (11 + t.toNatClampNeg)) := ⟨g1.2, fun i hi => (t2 i hi).2⟩
  have hps : ps (11 + t.toNatClampNeg) (C 9 t.toNatClampNeg) t (C (11 + t.toNatClampNeg)) (fl_u (fl_u C 24 0 0) 24 1 0) (fl_u (fl_u (fl_u (fl_u (fl_u R 81 16 (60 * t)) 81 17 0) 81 18 (R 89 t.toNatClampNeg)) 81 19 0) 81 22 0) := by
    refine ⟨by rw [fl_un (by omega), fl_un (by omega)], rfl, ?_, rfl, rfl, cI_0 hK, fun i hi => ?_, fun j hj => ?_, fun j hj => ?_⟩
    · show R 89 t.toNatClampNeg = _
      rw [← t1]
    · rw [fl_un (by decide), fl_un (by decide), fl_un (by decide), fl_un (by decide), fl_un (by decide)]
      exact (t2 i hi).1.symm
    · have hj : (j : Int) < (0 : Int32).toInt := hj
      rw [fi_i0] at hj
      omega
    · have hj : (j : Int) < (0 : Int32).toInt := hj
      rw [fi_i0] at hj
      omega
  have hC : (fl_u (fl_u C 24 0 0) 24 1 0) (11 + t.toNatClampNeg) = C (11 + t.toNatClampNeg) := hps.1
  unfold ra_v fo_v
  rw [fl_ar10, hC]
  generalize hE : (fl_u (fl_u (fl_u (fl_u (fl_u R 81 16 (60 * t)) 81 17 0) 81 18 (R 89 t.toNatClampNeg)) 81 19 0) 81 22 0) = E at hps ⊢
  have e17 : E 81 17 = 0 := by rw [← hE]; rfl
  have er := rsk_sk hps ⟨h0, h3⟩ hb 60 E rfl rfl hps.2.2.1 (by rw [e17]; decide)
  rw [e17] at er
  generalize hp : sk (C (11 + t.toNatClampNeg)) (C 9 t.toNatClampNeg) 60 0 = p at er ⊢
  have pge : 0 ≤ p.toInt := by
    have z := sk_ge (b := C (11 + t.toNatClampNeg)) g1.2 60 0 (by decide)
    rw [fi_i0, hp] at z
    exact z
  have hv : hd_v E = if p < C 9 t.toNatClampNeg then (if C (11 + t.toNatClampNeg) p.toNatClampNeg = 114 then 1 else 0) else 0 := by
    unfold hd_v
    rw [er]
    show (if p < E 81 18 then (if rh (fl_u E 81 17 p) = 114 then (1 : Int32) else 0) else 0) = _
    rw [hps.2.2.1]
    by_cases h1 : p < C 9 t.toNatClampNeg
    · rw [if_pos h1, if_pos h1, (rh_b hps ⟨h0, h3⟩ hb (X := fl_u E 81 17 p) (by rw [fl_un (by decide)]) rfl rfl pge (fi_l.mp h1)).1, fl_us]
    · rw [if_neg h1, if_neg h1]
  have hm0 : hd_v E = 0 → hd_M E 81 17 = p := by
    intro z
    unfold hd_M
    rw [er]
    rw [hv] at z
    show (if p < E 81 18 then (if rh (fl_u E 81 17 p) = 114 then _ else _) else _ : fl_M) 81 17 = p
    rw [hps.2.2.1]
    by_cases h1 : p < C 9 t.toNatClampNeg
    · rw [if_pos h1, (rh_b hps ⟨h0, h3⟩ hb (X := fl_u E 81 17 p) (by rw [fl_un (by decide)]) rfl rfl pge (fi_l.mp h1)).1, fl_us]
      rw [if_pos h1] at z
      by_cases h2 : C (11 + t.toNatClampNeg) p.toNatClampNeg = 114
      · rw [if_pos h2] at z
        exact absurd z (by decide)
      · rw [if_neg h2]
        show p + 0 = p
        exact Int32.add_zero p
    · rw [if_neg h1]
      show p + 0 = p
      exact Int32.add_zero p
  by_cases h1 : p < C 9 t.toNatClampNeg
  · rw [if_pos h1]
    by_cases h2 : C (11 + t.toNatClampNeg) p.toNatClampNeg = 114
    · rw [if_pos h2]
      have v1 : hd_v E = 1 := by rw [hv, if_pos h1, if_pos h2]
      have v0 : ¬ hd_v E = 0 := by rw [v1]; decide
      rw [if_neg v0]
      have z1 := fi_l.mp h1
      have e1 := fi_p1 (p := p) (by omega)
      have hm : hd_M E = fl_u (fl_u E 81 17 p) 81 17 (p + 1) := by
        unfold hd_M
        rw [er]
        show (if p < E 81 18 then (if rh (fl_u E 81 17 p) = 114 then fl_u (fl_u E 81 17 p) 81 17 (p + 1) else _) else _) = _
        rw [hps.2.2.1, if_pos h1, (rh_b hps ⟨h0, h3⟩ hb (X := fl_u E 81 17 p) (by rw [fl_un (by decide)]) rfl rfl pge z1).1, fl_us, if_pos h2]
      have hps2 := ps_mv (x := p + 1) (ps_mv (x := p) hps)
      have er2 := rsk_sk hps2 ⟨h0, h3⟩ hb 60 (fl_u (fl_u E 81 17 p) 81 17 (p + 1)) rfl rfl hps.2.2.1 (show 0 ≤ (p + 1).toInt by omega)
      rw [hm, er2]
      have sg := sk_ge (b := C (11 + t.toNatClampNeg)) g1.2 60 (p + 1) (by omega)
      refine (pa_eq ⟨h0, h3⟩ hb ⟨by omega, by omega⟩ 60 (p + 1) _ _ (hd_v E) 60 (ps_mv hps2) v0 (by omega) (by omega) rfl (by omega) ?_).1
      show (C 9 t.toNatClampNeg).toInt ≤ (sk (C (11 + t.toNatClampNeg)) (C 9 t.toNatClampNeg) 60 (p + 1)).toInt + (60 : Nat)
      omega
    · rw [if_neg h2]
      have v0 : hd_v E = 0 := by rw [hv, if_pos h1, if_neg h2]
      rw [if_pos v0, rpar_0 v0]
      exact (hm0 v0).symm
  · rw [if_neg h1]
    have v0 : hd_v E = 0 := by rw [hv, if_neg h1]
    rw [if_pos v0, rpar_0 v0]
    exact (hm0 v0).symm
section TOLD
variable {C R : fl_M}
theorem as_p (hq : qa) (h : t2 C R) : C 0 12 = R 81 11 := h.2.1 hq
theorem fn_p (h : t2 C R) : C 0 11 = R 81 14 := h.2.2.1
theorem up_p {J J' : fl_J} (h : jd J J') : J 0 13 = J' 81 12 := h.1
theorem lw_p {J J' : fl_J} (h : jd J J') : J 0 14 = J' 81 13 := h.2
end TOLD
/-! Fault, register: exact contracts. -/
def fB14 : sm_P := (fun pc => sm_ch sm_t14 pc, sm_Kn 2 2 none, fun x => sm_lk sm_ca2 x, some .int)
def v_14 (t : Int32) (M : fl_M) : Int32 := (if (t < 0) ∨ (¬ (t < 4)) then (-1) else (if (M 9 t.toNatClampNeg) = (-1) then (-3) else ra_v M t))
def m_14 (t : Int32) (M : fl_M) : fl_M := (if (t < 0) ∨ (¬ (t < 4)) then M else (if (M 9 t.toNatClampNeg) = (-1) then (fl_u (fl_u M 0 11 1) 80 1 ((M 80 1) + 1)) else (ra_M M t)))
theorem cc_14 (M : fl_M) (J : fl_J) (t : Int32) (hs : ∀ q, q < 4 → (M 9 q).toInt ≤ 60) (hK : M 999 = sm_kl) : fl_C 14 [.ref 0, .int t] M J (some (.int (v_14 t M)), (m_14 t M), J) :=
 fl_Co (B := fB14) rfl rfl <|
 fl_td (s' := (1, [.ref 0, .int t], [.int t], M, J)) (fl_n 1 rfl) <|
 fl_td (s' := (4, [.ref 0, .int t], [.int (if (t < 0) ∨ (¬ (t < 4)) then 1 else 0)], M, J)) (fl_cs (o := some (.int (if (t < 0) ∨ (¬ (t < 4)) then 1 else 0))) rfl rfl rfl (cc_12 M J t) rfl) <|
 fl_dnot (fl_if (t := 9) rfl rfl) fl_b0 (fun h1 =>
  fl_td (s' := (8, [.ref 0, .int t], [.int (-1)], M, J)) (fl_n 1 rfl) <|
  fl_rt rfl (fun _ => rfl) (by unfold v_14 m_14; first | (simp only [if_pos h1]; done) | rfl)) (fun h1 =>
  fl_td (s' := (16, [.ref 0, .int t], [.int (-1), .int (M 9 t.toNatClampNeg)], M, J)) (fl_n 5 rfl) <|
  fl_dnot (fl_ic (t := 25) rfl rfl) fl_cF (fun h2 =>
   fl_td (s' := (21, [.ref 0, .int t], [.int 1, .ref 0], M, J)) (fl_n 2 rfl) <|
   fl_td (s' := (24, [.ref 0, .int t], [.int (-3)], (fl_u (fl_u M 0 11 1) 80 1 ((M 80 1) + 1)), J)) (fl_cv (o := some (.int (-3))) rfl rfl rfl rfl (cc_2 M J 1) rfl) <|
   fl_rt rfl (fun _ => rfl) (by unfold v_14 m_14; first | (simp only [if_neg h1, if_pos h2]; done) | rfl)) (fun h2 =>
   fl_td (s' := (27, [.ref 0, .int t], [.int t, .ref 0], M, J)) (fl_n 2 rfl) <|
   fl_td (s' := (30, [.ref 0, .int t], [.int (ra_v M t)], (ra_M M t), J)) (fl_cv (o := some (.int (ra_v M t))) rfl rfl rfl rfl (cc_15 0 M J t (ft_R4 (show ¬ ((t < 0) ∨ (¬ (t < 4))) by assumption)).1 (ft_R4 (show ¬ ((t < 0) ∨ (¬ (t < 4))) by assumption)).2.1 (hs _ (ft_R4 (show ¬ ((t < 0) ∨ (¬ (t < 4))) by assumption)).2.2) hK).2 rfl) <|
   fx_gen (p := fun (MM272 : fl_M) => fl_dn fB14 (30, [.ref 0, .int t], [.int (ra_v M t)], MM272, J) (some (.int (v_14 t M)), (m_14 t M), J)) (ra_M M t) (fun MM272 eMM272 =>
    fl_rt rfl (fun _ => rfl) (by subst eMM272; unfold v_14 m_14; first | (simp only [if_neg h1, if_neg h2]; done) | rfl))))
def fB21 : sm_P := (fun pc => sm_ch sm_t21 pc, sm_Kn 2 3 none, fun x => sm_lk sm_ca2 x, some .int)
-- MiceRegisters.register 66
def ls_21_66 (m : Nat) (q : fl_M) : fl_M := (fl_u q (fl_ar 46 (Int32.ofNat m).toNatClampNeg) 0 (-1))
def lq_21_66 (M : fl_M) (m : Nat) : fl_M := fx_it ls_21_66 m M
theorem lqs_21_66 (M : fl_M) (m : Nat) : lq_21_66 M (m + 1) = ls_21_66 m (lq_21_66 M m) := by
  unfold lq_21_66
  exact fx_it_s _ _ _
def lr_21_66 (M : fl_M) : fl_M := (lq_21_66 M (3))
theorem ts_21_66 {r : fl_Q} (i1 i2 : Int32) (M : fl_M) (J : fl_J) (q1 : (i2 < 3) → fl_dn fB21 (66, [.ref 0, .int i1, .int (i2 + 1)], [], (fl_u M (fl_ar 46 i2.toNatClampNeg) 0 (-1)), J) r) (q2 : (¬ (i2 < 3)) → fl_dn fB21 (87, [.ref 0, .int i1, .int i2], [], M, J) r) : fl_dn fB21 (66, [.ref 0, .int i1, .int i2], [], M, J) r :=
 fl_td (s' := (68, [.ref 0, .int i1, .int i2], [.int 3, .int i2], M, J)) (fl_n 2 rfl) <|
 fl_dnot (fl_ic (t := 87) rfl rfl) fl_nlt (fun h1 =>
  fl_td (s' := (66, [.ref 0, .int i1, .int (i2 + 1)], [], (fl_u M (fl_ar 46 i2.toNatClampNeg) 0 (-1)), J)) (fl_n 8 rfl) <|
  (q1 h1)) (fun h1 =>
  (q2 h1))
theorem lp_21_66 {r : fl_Q} (i1 : Int32) (M : fl_M) (J : fl_J) (hx : ∀ w2 : Value, fl_dn fB21 (87, [.ref 0, .int i1, w2], [], (lr_21_66 M), J) r) : fl_dn fB21 (66, [.ref 0, .int i1, .int 0], [], M, J) r := by
  have hb : (3 : Int32).toNatClampNeg = 3 := rfl
  have key : ∀ (n m : Nat), m + n = 3 → fl_dn fB21 (66, [.ref 0, .int i1, .int (Int32.ofNat m)], [], (lq_21_66 M m), J) r := by
    intro n
    induction n with
    | zero =>
      intro m hm
      have hm : m = 3 := by omega
      have hn : ¬ ((Int32.ofNat m) < 3) := fun z => by have z := (fi_lt (by omega)).mp z; omega
      exact ts_21_66 i1 (Int32.ofNat m) (lq_21_66 M m) J (fun h1 => absurd h1 hn) (fun h1 => (by have e : lr_21_66 M = lq_21_66 M m := (by show lq_21_66 M (3) = _; rw [← hm]); rw [e] at hx; exact hx _))
    | succ n ih =>
      intro m hm
      have hp : (Int32.ofNat m) < 3 := by exact (fi_lt (by omega)).mpr (by omega)
      refine ts_21_66 i1 (Int32.ofNat m) (lq_21_66 M m) J (fun h1 => ?_) (fun h1 => absurd hp h1)
      · have e : lq_21_66 M (m + 1) = (fl_u (lq_21_66 M m) (fl_ar 46 (Int32.ofNat m).toNatClampNeg) 0 (-1)) := by
          rw [lqs_21_66]
          unfold ls_21_66
          rfl
        have q := ih (m + 1) (by omega)
        rw [e] at q
        first | (rw [fi_s]; exact q) | (rw [← fi_s] at q; exact q) | (simp only [fi_s] at q ⊢; exact q)
  exact key (3) 0 (Nat.zero_add _)
def v_21 (t : Int32) (M : fl_M) : Int32 := (if (t < 0) ∨ (¬ (t < 4)) then (-1) else (if (M 9 t.toNatClampNeg) = (-1) then (-3) else (if (ra_v M t) = (-9) then (lr_21_66 (fl_u (m_23 15 24 (lr_22_53 24 (lr_22_18 24 (fl_u (fl_u (fl_u (ra_M M t) 24 2 0) 24 3 (-9)) 24 4 0)))) 42 0 0)) 15 1 else (-4))))
def m_21 (t : Int32) (M : fl_M) : fl_M := (if (t < 0) ∨ (¬ (t < 4)) then M else (if (M 9 t.toNatClampNeg) = (-1) then (fl_u (fl_u M 0 11 1) 80 1 ((M 80 1) + 1)) else (if (ra_v M t) = (-9) then (lr_21_66 (fl_u (m_23 15 24 (lr_22_53 24 (lr_22_18 24 (fl_u (fl_u (fl_u (ra_M M t) 24 2 0) 24 3 (-9)) 24 4 0)))) 42 0 0)) else (ra_M M t))))
theorem cc_21 (M : fl_M) (J : fl_J) (t : Int32) (hs : ∀ q, q < 4 → (M 9 q).toInt ≤ 60) (hK : M 999 = sm_kl) : fl_C 21 [.ref 0, .int t] M J (some (.int (v_21 t M)), (m_21 t M), J) :=
 fl_Co (B := fB21) rfl rfl <|
 fl_td (s' := (1, [.ref 0, .int t, .null], [.int t], M, J)) (fl_n 1 rfl) <|
 fl_td (s' := (4, [.ref 0, .int t, .null], [.int (if (t < 0) ∨ (¬ (t < 4)) then 1 else 0)], M, J)) (fl_cs (o := some (.int (if (t < 0) ∨ (¬ (t < 4)) then 1 else 0))) rfl rfl rfl (cc_12 M J t) rfl) <|
 fl_dnot (fl_if (t := 9) rfl rfl) fl_b0 (fun h1 =>
  fl_td (s' := (8, [.ref 0, .int t, .null], [.int (-1)], M, J)) (fl_n 1 rfl) <|
  fl_rt rfl (fun _ => rfl) (by unfold v_21 m_21; first | (simp only [if_pos h1]; done) | rfl)) (fun h1 =>
  fl_td (s' := (16, [.ref 0, .int t, .null], [.int (-1), .int (M 9 t.toNatClampNeg)], M, J)) (fl_n 5 rfl) <|
  fl_dnot (fl_ic (t := 25) rfl rfl) fl_cF (fun h2 =>
   fl_td (s' := (21, [.ref 0, .int t, .null], [.int 1, .ref 0], M, J)) (fl_n 2 rfl) <|
   fl_td (s' := (24, [.ref 0, .int t, .null], [.int (-3)], (fl_u (fl_u M 0 11 1) 80 1 ((M 80 1) + 1)), J)) (fl_cv (o := some (.int (-3))) rfl rfl rfl rfl (cc_2 M J 1) rfl) <|
   fl_rt rfl (fun _ => rfl) (by unfold v_21 m_21; first | (simp only [if_neg h1, if_pos h2]; done) | rfl)) (fun h2 =>
   fl_td (s' := (27, [.ref 0, .int t, .null], [.int t, .ref 0], M, J)) (fl_n 2 rfl) <|
   fl_td (s' := (30, [.ref 0, .int t, .null], [.int (ra_v M t)], (ra_M M t), J)) (fl_cv (o := some (.int (ra_v M t))) rfl rfl rfl rfl (cc_15 0 M J t (ft_R4 (show ¬ ((t < 0) ∨ (¬ (t < 4))) by assumption)).1 (ft_R4 (show ¬ ((t < 0) ∨ (¬ (t < 4))) by assumption)).2.1 (hs _ (ft_R4 (show ¬ ((t < 0) ∨ (¬ (t < 4))) by assumption)).2.2) hK).2 rfl) <|
   fx_gen (p := fun (MM273 : fl_M) => fl_dn fB21 (30, [.ref 0, .int t, .null], [.int (ra_v M t)], MM273, J) (some (.int (v_21 t M)), (m_21 t M), J)) (ra_M M t) (fun MM273 eMM273 =>
    fl_td (s' := (32, [.ref 0, .int t, .null], [.int (-9), .int (ra_v M t)], MM273, J)) (fl_n 1 rfl) <|
    fl_dtwo (fl_ic (t := 38) rfl rfl) fl_cT (fun h4 =>
     fl_td (s' := (42, [.ref 0, .int t, .null], [.ref 24], MM273, J)) (fl_n 2 rfl) <|
     fl_td (s' := (45, [.ref 0, .int t, .null], [], (lr_22_53 24 (lr_22_18 24 (fl_u (fl_u (fl_u MM273 24 2 0) 24 3 (-9)) 24 4 0))), J)) (fl_cv (o := none) rfl rfl rfl rfl (cc_22 MM273 J 24) rfl) <|
     fx_gen (p := fun (MM274 : fl_M) => fl_dn fB21 (45, [.ref 0, .int t, .null], [], MM274, J) (some (.int (v_21 t M)), (m_21 t M), J)) (lr_22_53 24 (lr_22_18 24 (fl_u (fl_u (fl_u MM273 24 2 0) 24 3 (-9)) 24 4 0))) (fun MM274 eMM274 =>
      fl_td (s' := (53, [.ref 0, .int t, .null], [.ref 24, .ref 15], MM274, J)) (fl_n 4 rfl) <|
      fl_td (s' := (56, [.ref 0, .int t, .null], [], (m_23 15 24 MM274), J)) (fl_cv (o := none) rfl rfl rfl rfl (cc_23 MM274 J 15 24) rfl) <|
      fx_gen (p := fun (MM275 : fl_M) => fl_dn fB21 (56, [.ref 0, .int t, .null], [], MM275, J) (some (.int (v_21 t M)), (m_21 t M), J)) (m_23 15 24 MM274) (fun MM275 eMM275 =>
       fl_td (s' := (66, [.ref 0, .int t, .int 0], [], (fl_u MM275 42 0 0), J)) (fl_n 6 rfl) <|
       lp_21_66 t (fl_u MM275 42 0 0) J (fun u276 =>
        fx_gen (p := fun (MM277 : fl_M) => fl_dn fB21 (87, [.ref 0, .int t, u276], [], MM277, J) (some (.int (v_21 t M)), (m_21 t M), J)) (lr_21_66 (fl_u MM275 42 0 0)) (fun MM277 eMM277 =>
         fl_td (s' := (94, [.ref 0, .int t, u276], [.int (MM277 15 1)], MM277, J)) (fl_n 3 rfl) <|
         fl_rt rfl (fun _ => rfl) (by subst eMM273; subst eMM274; subst eMM275; subst eMM277; unfold v_21 m_21; first | (simp only [if_neg h1, if_neg h2, if_pos h4]; done) | rfl)))))) (fun h4 =>
     fl_td (s' := (37, [.ref 0, .int t, .null], [.int (-4)], MM273, J)) (fl_n 1 rfl) <|
     fl_rt rfl (fun _ => rfl) (by subst eMM273; unfold v_21 m_21; first | (simp only [if_neg h1, if_neg h2, if_neg h4]; done) | rfl)))))
def fB119 : sm_P := (fun pc => sm_ch sm_t119 pc, sm_Kn 3 2 none, fun x => sm_lk sm_ca3 x, some .int)
def v_119 (t : Int32) (M : fl_M) : Int32 := (if (¬ (t < 0)) ∧ (¬ (3 < t)) then (if (M 89 t.toNatClampNeg) < 0 then (-3) else fo_v M t) else (-1))
def m_119 (t : Int32) (M : fl_M) : fl_M := (if (¬ (t < 0)) ∧ (¬ (3 < t)) then (if (M 89 t.toNatClampNeg) < 0 then (fl_u (fl_u M 81 14 1) 91 1 ((M 91 1) + 1)) else (fo_M M t)) else M)
set_option maxRecDepth 8000 in
theorem cc_119 (M : fl_M) (J : fl_J) (t : Int32) (hs : ∀ q, q < 4 → (M 89 q).toInt ≤ 60) : fl_C 119 [.ref 81, .int t] M J (some (.int (v_119 t M)), (m_119 t M), J) :=
 fl_Co (B := fB119) rfl rfl <|
 fl_td (s' := (1, [.ref 81, .int t], [.int t], M, J)) (fl_n 1 rfl) <|
 fl_td (s' := (4, [.ref 81, .int t], [.int (if (¬ (t < 0)) ∧ (¬ (3 < t)) then 1 else 0)], M, J)) (fl_cs (o := some (.int (if (¬ (t < 0)) ∧ (¬ (3 < t)) then 1 else 0))) rfl rfl rfl (cc_117 M J t) rfl) <|
 fl_dtwo (fl_if (t := 9) rfl rfl) fl_b1 (fun h1 =>
  fl_td (s' := (15, [.ref 81, .int t], [.int (M 89 t.toNatClampNeg)], M, J)) (fl_n 4 rfl) <|
  fl_dnot (fl_if (t := 26) rfl rfl) fl_nlt (fun h2 =>
   fl_td (s' := (20, [.ref 81, .int t], [.int 1, .ref 81], M, J)) (fl_n 2 rfl) <|
   fl_td (s' := (23, [.ref 81, .int t], [.int (-3)], (fl_u (fl_u M 81 14 1) 91 1 ((M 91 1) + 1)), J)) (fl_cv (o := some (.int (-3))) rfl rfl rfl rfl (cc_106 M J 1) rfl) <|
   fl_td (s' := (31, [.ref 81, .int t], [.int (-3)], (fl_u (fl_u M 81 14 1) 91 1 ((M 91 1) + 1)), J)) (fl_n 1 rfl) <|
   fl_rt rfl (fun _ => rfl) (by unfold v_119 m_119; first | (simp only [if_pos h1, if_pos h2]; done) | rfl)) (fun h2 =>
   fl_td (s' := (28, [.ref 81, .int t], [.int t, .ref 81], M, J)) (fl_n 2 rfl) <|
   fl_td (s' := (31, [.ref 81, .int t], [.int (fo_v M t)], (fo_M M t), J)) (fl_cv (o := some (.int (fo_v M t))) rfl rfl rfl rfl (cc_120 0 M J t (ft_R4 (ft_A3.mp (show (¬ (t < 0)) ∧ (¬ (3 < t)) by assumption))).1 (ft_R4 (ft_A3.mp (show (¬ (t < 0)) ∧ (¬ (3 < t)) by assumption))).2.1 (by have z := fi_ge.mp (show ¬ (M 89 t.toNatClampNeg) < 0 by assumption); rw [fi_i0] at z; exact z) (hs _ (ft_R4 (ft_A3.mp (show (¬ (t < 0)) ∧ (¬ (3 < t)) by assumption))).2.2)).2 rfl) <|
   fx_gen (p := fun (MM196 : fl_M) => fl_dn fB119 (31, [.ref 81, .int t], [.int (fo_v M t)], MM196, J) (some (.int (v_119 t M)), (m_119 t M), J)) (fo_M M t) (fun MM196 eMM196 =>
    fl_rt rfl (fun _ => rfl) (by subst eMM196; unfold v_119 m_119; first | (simp only [if_pos h1, if_neg h2]; done) | rfl)))) (fun h1 =>
  fl_td (s' := (8, [.ref 81, .int t], [.int (-1)], M, J)) (fl_n 1 rfl) <|
  fl_rt rfl (fun _ => rfl) (by unfold v_119 m_119; first | (simp only [if_neg h1]; done) | rfl))
def fB129 : sm_P := (fun pc => sm_ch sm_t129 pc, sm_Kn 3 3 none, fun x => sm_lk sm_ca3 x, some .int)
-- MiceRegistersModel.register 39
def ls_129_39 (m : Nat) (q : fl_M) : fl_M := (fl_u q 82 (Int32.ofNat m).toNatClampNeg 0)
def lq_129_39 (M : fl_M) (m : Nat) : fl_M := fx_it ls_129_39 m M
theorem lqs_129_39 (M : fl_M) (m : Nat) : lq_129_39 M (m + 1) = ls_129_39 m (lq_129_39 M m) := by
  unfold lq_129_39
  exact fx_it_s _ _ _
def lr_129_39 (M : fl_M) : fl_M := (lq_129_39 M (944))
set_option maxRecDepth 8000 in
theorem ts_129_39 {r : fl_Q} (i1 i2 : Int32) (M : fl_M) (J : fl_J) (q1 : (i2 < 944) → fl_dn fB129 (39, [.ref 81, .int i1, .int (i2 + 1)], [], (fl_u M 82 i2.toNatClampNeg 0), J) r) (q2 : (¬ (i2 < 944)) → fl_dn fB129 (59, [.ref 81, .int i1, .int i2], [], M, J) r) : fl_dn fB129 (39, [.ref 81, .int i1, .int i2], [], M, J) r :=
 fl_td (s' := (43, [.ref 81, .int i1, .int i2], [.int 944, .int i2], M, J)) (fl_n 2 rfl) <|
 fl_dnot (fl_ic (t := 59) rfl rfl) fl_nlt (fun h1 =>
  fl_td (s' := (39, [.ref 81, .int i1, .int (i2 + 1)], [], (fl_u M 82 i2.toNatClampNeg 0), J)) (fl_n 7 rfl) <|
  (q1 h1)) (fun h1 =>
  (q2 h1))
theorem lp_129_39 {r : fl_Q} (i1 : Int32) (M : fl_M) (J : fl_J) (hx : ∀ w2 : Value, fl_dn fB129 (59, [.ref 81, .int i1, w2], [], (lr_129_39 M), J) r) : fl_dn fB129 (39, [.ref 81, .int i1, .int 0], [], M, J) r := by
  have hb : (944 : Int32).toNatClampNeg = 944 := rfl
  have key : ∀ (n m : Nat), m + n = 944 → fl_dn fB129 (39, [.ref 81, .int i1, .int (Int32.ofNat m)], [], (lq_129_39 M m), J) r := by
    intro n
    induction n with
    | zero =>
      intro m hm
      have hm : m = 944 := by omega
      have hn : ¬ ((Int32.ofNat m) < 944) := fun z => by have z := (fi_lt (by omega)).mp z; omega
      exact ts_129_39 i1 (Int32.ofNat m) (lq_129_39 M m) J (fun h1 => absurd h1 hn) (fun h1 => (by have e : lr_129_39 M = lq_129_39 M m := (by show lq_129_39 M (944) = _; rw [← hm]); rw [e] at hx; exact hx _))
    | succ n ih =>
      intro m hm
      have hp : (Int32.ofNat m) < 944 := by exact (fi_lt (by omega)).mpr (by omega)
      refine ts_129_39 i1 (Int32.ofNat m) (lq_129_39 M m) J (fun h1 => ?_) (fun h1 => absurd hp h1)
      · have e : lq_129_39 M (m + 1) = (fl_u (lq_129_39 M m) 82 (Int32.ofNat m).toNatClampNeg 0) := by
          rw [lqs_129_39]
          unfold ls_129_39
          rfl
        have q := ih (m + 1) (by omega)
        rw [e] at q
        first | (rw [fi_s]; exact q) | (rw [← fi_s] at q; exact q) | (simp only [fi_s] at q ⊢; exact q)
  exact key (944) 0 (Nat.zero_add _)
-- MiceRegistersModel.register 85
def ls_129_85 (m : Nat) (q : fl_M) : fl_M := (fl_u (fl_u (fl_u q 83 (Int32.ofNat m).toNatClampNeg (q 92 (Int32.ofNat m).toNatClampNeg)) 84 (Int32.ofNat m).toNatClampNeg (q 93 (Int32.ofNat m).toNatClampNeg)) 82 ((4 + (Int32.ofNat m)).toNatClampNeg) (q 93 (Int32.ofNat m).toNatClampNeg))
def lq_129_85 (M : fl_M) (m : Nat) : fl_M := fx_it ls_129_85 m M
theorem lqs_129_85 (M : fl_M) (m : Nat) : lq_129_85 M (m + 1) = ls_129_85 m (lq_129_85 M m) := by
  unfold lq_129_85
  exact fx_it_s _ _ _
def lr_129_85 (M : fl_M) : fl_M := (lq_129_85 M (((M 81 1)).toNatClampNeg))
set_option maxRecDepth 8000 in
theorem ts_129_85 {r : fl_Q} (i1 i2 : Int32) (M : fl_M) (J : fl_J) (q1 : (i2 < (M 81 1)) → fl_dn fB129 (85, [.ref 81, .int i1, .int (i2 + 1)], [], (fl_u (fl_u (fl_u M 83 i2.toNatClampNeg (M 92 i2.toNatClampNeg)) 84 i2.toNatClampNeg (M 93 i2.toNatClampNeg)) 82 ((4 + i2).toNatClampNeg) (M 93 i2.toNatClampNeg)), J) r) (q2 : (¬ (i2 < (M 81 1))) → fl_dn fB129 (137, [.ref 81, .int i1, .int i2], [], M, J) r) : fl_dn fB129 (85, [.ref 81, .int i1, .int i2], [], M, J) r :=
 fl_td (s' := (90, [.ref 81, .int i1, .int i2], [.int (M 81 1), .int i2], M, J)) (fl_n 3 rfl) <|
 fl_dnot (fl_ic (t := 137) rfl rfl) fl_nlt (fun h1 =>
  fl_td (s' := (85, [.ref 81, .int i1, .int (i2 + 1)], [], (fl_u (fl_u (fl_u M 83 i2.toNatClampNeg (M 92 i2.toNatClampNeg)) 84 i2.toNatClampNeg (M 93 i2.toNatClampNeg)) 82 ((4 + i2).toNatClampNeg) (M 93 i2.toNatClampNeg)), J)) (fl_n 28 rfl) <|
  (q1 h1)) (fun h1 =>
  (q2 h1))
theorem lk_129_85 (M : fl_M) (m : Nat) : ((lq_129_85 M m) 81 1) = (M 81 1) := by
  induction m with
  | zero => rfl
  | succ m ih =>
    rw [← ih]
    rw [lqs_129_85]
    generalize lq_129_85 M m = q
    unfold ls_129_85
    (repeat' split) <;> first | with_reducible rfl | (simp [fl_u, fw_150_5, fw_150_130, fw_150, fw_149, fw_156, fw_160, fw_161, fw_166, fw_171]; done) | rfl
theorem lp_129_85 {r : fl_Q} (i1 : Int32) (M : fl_M) (J : fl_J) (hx : ∀ w2 : Value, fl_dn fB129 (137, [.ref 81, .int i1, w2], [], (lr_129_85 M), J) r) : fl_dn fB129 (85, [.ref 81, .int i1, .int 0], [], M, J) r := by
  have hb := fi_bd (M 81 1)
  have hB := fun m => lk_129_85 M m
  have key : ∀ (n m : Nat), m + n = ((M 81 1)).toNatClampNeg → fl_dn fB129 (85, [.ref 81, .int i1, .int (Int32.ofNat m)], [], (lq_129_85 M m), J) r := by
    intro n
    induction n with
    | zero =>
      intro m hm
      have hm : m = ((M 81 1)).toNatClampNeg := by omega
      have hn : ¬ ((Int32.ofNat m) < ((lq_129_85 M m) 81 1)) := fun z => by rw [hB m] at z; have z := (fi_lt (by omega)).mp z; omega
      exact ts_129_85 i1 (Int32.ofNat m) (lq_129_85 M m) J (fun h1 => absurd h1 hn) (fun h1 => (by have e : lr_129_85 M = lq_129_85 M m := (by show lq_129_85 M (((M 81 1)).toNatClampNeg) = _; rw [← hm]); rw [e] at hx; exact hx _))
    | succ n ih =>
      intro m hm
      have hp : (Int32.ofNat m) < ((lq_129_85 M m) 81 1) := by rw [hB m]; exact (fi_lt (by omega)).mpr (by omega)
      refine ts_129_85 i1 (Int32.ofNat m) (lq_129_85 M m) J (fun h1 => ?_) (fun h1 => absurd hp h1)
      · have e : lq_129_85 M (m + 1) = (fl_u (fl_u (fl_u (lq_129_85 M m) 83 (Int32.ofNat m).toNatClampNeg ((lq_129_85 M m) 92 (Int32.ofNat m).toNatClampNeg)) 84 (Int32.ofNat m).toNatClampNeg ((lq_129_85 M m) 93 (Int32.ofNat m).toNatClampNeg)) 82 ((4 + (Int32.ofNat m)).toNatClampNeg) ((lq_129_85 M m) 93 (Int32.ofNat m).toNatClampNeg)) := by
          rw [lqs_129_85]
          unfold ls_129_85
          rfl
        have q := ih (m + 1) (by omega)
        rw [e] at q
        first | (rw [fi_s]; exact q) | (rw [← fi_s] at q; exact q) | (simp only [fi_s] at q ⊢; exact q)
  exact key (((M 81 1)).toNatClampNeg) 0 (Nat.zero_add _)
-- MiceRegistersModel.register 139
def ls_129_139 (m : Nat) (q : fl_M) : fl_M := (fl_u (fl_u (fl_u q 85 (Int32.ofNat m).toNatClampNeg (q 94 ((3 * (Int32.ofNat m)).toNatClampNeg))) 82 ((20 + (Int32.ofNat m)).toNatClampNeg) (q 94 (((3 * (Int32.ofNat m)) + 1).toNatClampNeg))) 86 (Int32.ofNat m).toNatClampNeg (q 94 (((3 * (Int32.ofNat m)) + 2).toNatClampNeg)))
def lq_129_139 (M : fl_M) (m : Nat) : fl_M := fx_it ls_129_139 m M
theorem lqs_129_139 (M : fl_M) (m : Nat) : lq_129_139 M (m + 1) = ls_129_139 m (lq_129_139 M m) := by
  unfold lq_129_139
  exact fx_it_s _ _ _
def lr_129_139 (M : fl_M) : fl_M := (lq_129_139 M (((M 81 4)).toNatClampNeg))
set_option maxRecDepth 8000 in
theorem ts_129_139 {r : fl_Q} (i1 i2 : Int32) (M : fl_M) (J : fl_J) (q1 : (i2 < (M 81 4)) → fl_dn fB129 (139, [.ref 81, .int i1, .int (i2 + 1)], [], (fl_u (fl_u (fl_u M 85 i2.toNatClampNeg (M 94 ((3 * i2).toNatClampNeg))) 82 ((20 + i2).toNatClampNeg) (M 94 (((3 * i2) + 1).toNatClampNeg))) 86 i2.toNatClampNeg (M 94 (((3 * i2) + 2).toNatClampNeg))), J) r) (q2 : (¬ (i2 < (M 81 4))) → fl_dn fB129 (202, [.ref 81, .int i1, .int i2], [], M, J) r) : fl_dn fB129 (139, [.ref 81, .int i1, .int i2], [], M, J) r :=
 fl_td (s' := (144, [.ref 81, .int i1, .int i2], [.int (M 81 4), .int i2], M, J)) (fl_n 3 rfl) <|
 fl_dnot (fl_ic (t := 202) rfl rfl) fl_nlt (fun h1 =>
  fl_td (s' := (139, [.ref 81, .int i1, .int (i2 + 1)], [], (fl_u (fl_u (fl_u M 85 i2.toNatClampNeg (M 94 ((3 * i2).toNatClampNeg))) 82 ((20 + i2).toNatClampNeg) (M 94 (((3 * i2) + 1).toNatClampNeg))) 86 i2.toNatClampNeg (M 94 (((3 * i2) + 2).toNatClampNeg))), J)) (fl_n 38 rfl) <|
  (q1 h1)) (fun h1 =>
  (q2 h1))
theorem lk_129_139 (M : fl_M) (m : Nat) : ((lq_129_139 M m) 81 4) = (M 81 4) := by
  induction m with
  | zero => rfl
  | succ m ih =>
    rw [← ih]
    rw [lqs_129_139]
    generalize lq_129_139 M m = q
    unfold ls_129_139
    (repeat' split) <;> first | with_reducible rfl | (simp [fl_u, fw_150_5, fw_150_130, fw_150, fw_149, fw_156, fw_160, fw_161, fw_166, fw_171]; done) | rfl
theorem lp_129_139 {r : fl_Q} (i1 : Int32) (M : fl_M) (J : fl_J) (hx : ∀ w2 : Value, fl_dn fB129 (202, [.ref 81, .int i1, w2], [], (lr_129_139 M), J) r) : fl_dn fB129 (139, [.ref 81, .int i1, .int 0], [], M, J) r := by
  have hb := fi_bd (M 81 4)
  have hB := fun m => lk_129_139 M m
  have key : ∀ (n m : Nat), m + n = ((M 81 4)).toNatClampNeg → fl_dn fB129 (139, [.ref 81, .int i1, .int (Int32.ofNat m)], [], (lq_129_139 M m), J) r := by
    intro n
    induction n with
    | zero =>
      intro m hm
      have hm : m = ((M 81 4)).toNatClampNeg := by omega
      have hn : ¬ ((Int32.ofNat m) < ((lq_129_139 M m) 81 4)) := fun z => by rw [hB m] at z; have z := (fi_lt (by omega)).mp z; omega
      exact ts_129_139 i1 (Int32.ofNat m) (lq_129_139 M m) J (fun h1 => absurd h1 hn) (fun h1 => (by have e : lr_129_139 M = lq_129_139 M m := (by show lq_129_139 M (((M 81 4)).toNatClampNeg) = _; rw [← hm]); rw [e] at hx; exact hx _))
    | succ n ih =>
      intro m hm
      have hp : (Int32.ofNat m) < ((lq_129_139 M m) 81 4) := by rw [hB m]; exact (fi_lt (by omega)).mpr (by omega)
      refine ts_129_139 i1 (Int32.ofNat m) (lq_129_139 M m) J (fun h1 => ?_) (fun h1 => absurd hp h1)
      · have e : lq_129_139 M (m + 1) = (fl_u (fl_u (fl_u (lq_129_139 M m) 85 (Int32.ofNat m).toNatClampNeg ((lq_129_139 M m) 94 ((3 * (Int32.ofNat m)).toNatClampNeg))) 82 ((20 + (Int32.ofNat m)).toNatClampNeg) ((lq_129_139 M m) 94 (((3 * (Int32.ofNat m)) + 1).toNatClampNeg))) 86 (Int32.ofNat m).toNatClampNeg ((lq_129_139 M m) 94 (((3 * (Int32.ofNat m)) + 2).toNatClampNeg))) := by
          rw [lqs_129_139]
          unfold ls_129_139
          rfl
        have q := ih (m + 1) (by omega)
        rw [e] at q
        first | (rw [fi_s]; exact q) | (rw [← fi_s] at q; exact q) | (simp only [fi_s] at q ⊢; exact q)
  exact key (((M 81 4)).toNatClampNeg) 0 (Nat.zero_add _)
-- MiceRegistersModel.register 204
def ls_129_204 (m : Nat) (q : fl_M) : fl_M := (fl_u q 82 (((944 * (Int32.ofNat (1 + m))) + 0).toNatClampNeg) (-1))
def lq_129_204 (M : fl_M) (m : Nat) : fl_M := fx_it ls_129_204 m M
theorem lqs_129_204 (M : fl_M) (m : Nat) : lq_129_204 M (m + 1) = ls_129_204 m (lq_129_204 M m) := by
  unfold lq_129_204
  exact fx_it_s _ _ _
def lr_129_204 (M : fl_M) : fl_M := (lq_129_204 M (3))
set_option maxRecDepth 8000 in
theorem ts_129_204 {r : fl_Q} (i1 i2 : Int32) (M : fl_M) (J : fl_J) (q1 : (i2 < 4) → fl_dn fB129 (204, [.ref 81, .int i1, .int (i2 + 1)], [], (fl_u M 82 (((944 * i2) + 0).toNatClampNeg) (-1)), J) r) (q2 : (¬ (i2 < 4)) → fl_dn fB129 (228, [.ref 81, .int i1, .int i2], [], M, J) r) : fl_dn fB129 (204, [.ref 81, .int i1, .int i2], [], M, J) r :=
 fl_td (s' := (206, [.ref 81, .int i1, .int i2], [.int 4, .int i2], M, J)) (fl_n 2 rfl) <|
 fl_dnot (fl_ic (t := 228) rfl rfl) fl_nlt (fun h1 =>
  fl_td (s' := (204, [.ref 81, .int i1, .int (i2 + 1)], [], (fl_u M 82 (((944 * i2) + 0).toNatClampNeg) (-1)), J)) (fl_n 11 rfl) <|
  (q1 h1)) (fun h1 =>
  (q2 h1))
theorem lp_129_204 {r : fl_Q} (i1 : Int32) (M : fl_M) (J : fl_J) (hx : ∀ w2 : Value, fl_dn fB129 (228, [.ref 81, .int i1, w2], [], (lr_129_204 M), J) r) : fl_dn fB129 (204, [.ref 81, .int i1, .int 1], [], M, J) r := by
  have hb : (4 : Int32).toNatClampNeg = 4 := rfl
  have key : ∀ (n m : Nat), m + n = 3 → fl_dn fB129 (204, [.ref 81, .int i1, .int (Int32.ofNat (1 + m))], [], (lq_129_204 M m), J) r := by
    intro n
    induction n with
    | zero =>
      intro m hm
      have hm : m = 3 := by omega
      have hn : ¬ ((Int32.ofNat (1 + m)) < 4) := fun z => by have z := (fi_lt (by omega)).mp z; omega
      exact ts_129_204 i1 (Int32.ofNat (1 + m)) (lq_129_204 M m) J (fun h1 => absurd h1 hn) (fun h1 => (by have e : lr_129_204 M = lq_129_204 M m := (by show lq_129_204 M (3) = _; rw [← hm]); rw [e] at hx; exact hx _))
    | succ n ih =>
      intro m hm
      have hp : (Int32.ofNat (1 + m)) < 4 := by exact (fi_lt (by omega)).mpr (by omega)
      refine ts_129_204 i1 (Int32.ofNat (1 + m)) (lq_129_204 M m) J (fun h1 => ?_) (fun h1 => absurd hp h1)
      · have e : lq_129_204 M (m + 1) = (fl_u (lq_129_204 M m) 82 (((944 * (Int32.ofNat (1 + m))) + 0).toNatClampNeg) (-1)) := by
          rw [lqs_129_204]
          unfold ls_129_204
          rfl
        have q := ih (m + 1) (by omega)
        rw [e] at q
        first | (rw [fi_s]; exact q) | (rw [← fi_s] at q; exact q) | (simp only [fi_s] at q ⊢; exact q)
  exact key (3) 0 (Nat.zero_add _)
def v_129 (t : Int32) (M : fl_M) : Int32 := (if (¬ (t < 0)) ∧ (¬ (3 < t)) then (if (M 89 t.toNatClampNeg) < 0 then (-3) else (if (fo_v M t) = (-9) then (lr_129_204 (lr_129_139 (lr_129_85 (fl_u (fl_u (fl_u (lr_129_39 (fo_M M t)) 82 2 (-9)) 81 1 ((lr_129_39 (fo_M M t)) 81 19)) 81 4 ((lr_129_39 (fo_M M t)) 81 22))))) 81 4 else (-4))) else (-1))
def m_129 (t : Int32) (M : fl_M) : fl_M := (if (¬ (t < 0)) ∧ (¬ (3 < t)) then (if (M 89 t.toNatClampNeg) < 0 then (fl_u (fl_u M 81 14 1) 91 1 ((M 91 1) + 1)) else (if (fo_v M t) = (-9) then (lr_129_204 (lr_129_139 (lr_129_85 (fl_u (fl_u (fl_u (lr_129_39 (fo_M M t)) 82 2 (-9)) 81 1 ((lr_129_39 (fo_M M t)) 81 19)) 81 4 ((lr_129_39 (fo_M M t)) 81 22))))) else (fo_M M t))) else M)
set_option maxRecDepth 8000 in
theorem cc_129 (M : fl_M) (J : fl_J) (t : Int32) (hs : ∀ q, q < 4 → (M 89 q).toInt ≤ 60) : fl_C 129 [.ref 81, .int t] M J (some (.int (v_129 t M)), (m_129 t M), J) :=
 fl_Co (B := fB129) rfl rfl <|
 fl_td (s' := (1, [.ref 81, .int t, .null], [.int t], M, J)) (fl_n 1 rfl) <|
 fl_td (s' := (4, [.ref 81, .int t, .null], [.int (if (¬ (t < 0)) ∧ (¬ (3 < t)) then 1 else 0)], M, J)) (fl_cs (o := some (.int (if (¬ (t < 0)) ∧ (¬ (3 < t)) then 1 else 0))) rfl rfl rfl (cc_117 M J t) rfl) <|
 fl_dtwo (fl_if (t := 9) rfl rfl) fl_b1 (fun h1 =>
  fl_td (s' := (15, [.ref 81, .int t, .null], [.int (M 89 t.toNatClampNeg)], M, J)) (fl_n 4 rfl) <|
  fl_dnot (fl_if (t := 24) rfl rfl) fl_nlt (fun h2 =>
   fl_td (s' := (20, [.ref 81, .int t, .null], [.int 1, .ref 81], M, J)) (fl_n 2 rfl) <|
   fl_td (s' := (23, [.ref 81, .int t, .null], [.int (-3)], (fl_u (fl_u M 81 14 1) 91 1 ((M 91 1) + 1)), J)) (fl_cv (o := some (.int (-3))) rfl rfl rfl rfl (cc_106 M J 1) rfl) <|
   fl_rt rfl (fun _ => rfl) (by unfold v_129 m_129; first | (simp only [if_pos h1, if_pos h2]; done) | rfl)) (fun h2 =>
   fl_td (s' := (26, [.ref 81, .int t, .null], [.int t, .ref 81], M, J)) (fl_n 2 rfl) <|
   fl_td (s' := (29, [.ref 81, .int t, .null], [.int (fo_v M t)], (fo_M M t), J)) (fl_cv (o := some (.int (fo_v M t))) rfl rfl rfl rfl (cc_120 0 M J t (ft_R4 (ft_A3.mp (show (¬ (t < 0)) ∧ (¬ (3 < t)) by assumption))).1 (ft_R4 (ft_A3.mp (show (¬ (t < 0)) ∧ (¬ (3 < t)) by assumption))).2.1 (by have z := fi_ge.mp (show ¬ (M 89 t.toNatClampNeg) < 0 by assumption); rw [fi_i0] at z; exact z) (hs _ (ft_R4 (ft_A3.mp (show (¬ (t < 0)) ∧ (¬ (3 < t)) by assumption))).2.2)).2 rfl) <|
   fx_gen (p := fun (MM197 : fl_M) => fl_dn fB129 (29, [.ref 81, .int t, .null], [.int (fo_v M t)], MM197, J) (some (.int (v_129 t M)), (m_129 t M), J)) (fo_M M t) (fun MM197 eMM197 =>
    fl_td (s' := (31, [.ref 81, .int t, .null], [.int (-9), .int (fo_v M t)], MM197, J)) (fl_n 1 rfl) <|
    fl_dtwo (fl_ic (t := 37) rfl rfl) fl_cT (fun h4 =>
     fl_td (s' := (39, [.ref 81, .int t, .int 0], [], MM197, J)) (fl_n 2 rfl) <|
     lp_129_39 t MM197 J (fun u198 =>
      fx_gen (p := fun (MM199 : fl_M) => fl_dn fB129 (59, [.ref 81, .int t, u198], [], MM199, J) (some (.int (v_129 t M)), (m_129 t M), J)) (lr_129_39 MM197) (fun MM199 eMM199 =>
       fl_td (s' := (85, [.ref 81, .int t, .int 0], [], (fl_u (fl_u (fl_u MM199 82 2 (-9)) 81 1 (MM199 81 19)) 81 4 (MM199 81 22)), J)) (fl_n 15 rfl) <|
       lp_129_85 t (fl_u (fl_u (fl_u MM199 82 2 (-9)) 81 1 (MM199 81 19)) 81 4 (MM199 81 22)) J (fun u200 =>
        fx_gen (p := fun (MM201 : fl_M) => fl_dn fB129 (137, [.ref 81, .int t, u200], [], MM201, J) (some (.int (v_129 t M)), (m_129 t M), J)) (lr_129_85 (fl_u (fl_u (fl_u MM199 82 2 (-9)) 81 1 (MM199 81 19)) 81 4 (MM199 81 22))) (fun MM201 eMM201 =>
         fl_td (s' := (139, [.ref 81, .int t, .int 0], [], MM201, J)) (fl_n 2 rfl) <|
         lp_129_139 t MM201 J (fun u202 =>
          fx_gen (p := fun (MM203 : fl_M) => fl_dn fB129 (202, [.ref 81, .int t, u202], [], MM203, J) (some (.int (v_129 t M)), (m_129 t M), J)) (lr_129_139 MM201) (fun MM203 eMM203 =>
           fl_td (s' := (204, [.ref 81, .int t, .int 1], [], MM203, J)) (fl_n 2 rfl) <|
           lp_129_204 t MM203 J (fun u204 =>
            fx_gen (p := fun (MM205 : fl_M) => fl_dn fB129 (228, [.ref 81, .int t, u204], [], MM205, J) (some (.int (v_129 t M)), (m_129 t M), J)) (lr_129_204 MM203) (fun MM205 eMM205 =>
             fl_td (s' := (232, [.ref 81, .int t, u204], [.int (MM205 81 4)], MM205, J)) (fl_n 2 rfl) <|
             fl_rt rfl (fun _ => rfl) (by subst eMM197; subst eMM199; subst eMM201; subst eMM203; subst eMM205; unfold v_129 m_129; first | (simp only [if_pos h1, if_neg h2, if_pos h4]; done) | rfl)))))))))) (fun h4 =>
     fl_td (s' := (36, [.ref 81, .int t, .null], [.int (-4)], MM197, J)) (fl_n 1 rfl) <|
     fl_rt rfl (fun _ => rfl) (by subst eMM197; unfold v_129 m_129; first | (simp only [if_pos h1, if_neg h2, if_neg h4]; done) | rfl))))) (fun h1 =>
  fl_td (s' := (8, [.ref 81, .int t, .null], [.int (-1)], M, J)) (fl_n 1 rfl) <|
  fl_rt rfl (fun _ => rfl) (by unfold v_129 m_129; first | (simp only [if_neg h1]; done) | rfl))
/-! Fault: what reading leaves alone; both sides answer alike. -/
/-- the class' aside alone -/
def az (M X : fl_M) : Prop := ∀ c, (c < 24 ∨ 32 < c) → X c = M c
/-- what the reference reads with, alone -/
def fz (M X : fl_M) : Prop := (∀ c, (c ≠ 81 ∧ c ≠ 92 ∧ c ≠ 93 ∧ c ≠ 94) → X c = M c) ∧ ∀ j, (j ≠ 16 ∧ j ≠ 17 ∧ j ≠ 18 ∧ j ≠ 19 ∧ j ≠ 22) → X 81 j = M 81 j
section AZ
variable {M X : fl_M}
theorem az_i {p : Prop} [Decidable p] {A B : fl_M} (h1 : az M A) (h2 : az M B) : az M (if p then A else B) := by
  split
  · exact h1
  · exact h2
theorem az_u (h : az M X) {a j : Nat} {v : Int32} (ha : 24 ≤ a ∧ a ≤ 32) : az M (fl_u X a j v) := fun c hc => (fl_un (by omega)).trans (h c hc)
theorem az_ln (h : az M X) {a : Nat} {n p : Int32} : az M (ln_M X a n p) := by
  unfold ln_M
  repeat' (first | with_reducible exact h | with_reducible apply az_i | with_reducible refine az_u ?_ (by decide))
theorem az_mo (h : az M X) {a : Nat} {n p : Int32} : az M (mo_M X a n p) := by
  unfold mo_M
  repeat' (first | with_reducible exact h | with_reducible apply az_i | with_reducible refine az_u ?_ (by decide))
theorem az_cp {a : Nat} {n : Int32} : ∀ (f : Nat) (p : Int32) (X : fl_M), az M X → az M (cpar a n f p X).2 := by
  intro f
  induction f with
  | zero =>
    intro p X h
    unfold cpar
    exact h
  | succ f ih =>
    intro p X h
    unfold cpar
    (repeat' split) <;> first | with_reducible exact ih _ _ h | with_reducible exact ih _ _ (az_ln h) | with_reducible exact ih _ _ (az_mo h) | exact h | exact az_ln h | exact az_mo h
theorem az_ra (M : fl_M) (t : Int32) : az M (ra_M M t) := by
  have h0 : az M (fl_u (fl_u M 24 0 0) 24 1 0) := az_u (az_u (fun _ _ => rfl) (by decide)) (by decide)
  unfold ra_M
  repeat' (first | with_reducible exact h0 | with_reducible exact az_cp _ _ _ h0 | with_reducible apply az_i)
theorem fz_i {p : Prop} [Decidable p] {A B : fl_M} (h1 : fz M A) (h2 : fz M B) : fz M (if p then A else B) := by
  split
  · exact h1
  · exact h2
theorem fz_p (h : fz M X) {j : Nat} {v : Int32} (hj : j = 16 ∨ j = 17 ∨ j = 18 ∨ j = 19 ∨ j = 22) : fz M (fl_u X 81 j v) := ⟨fun c hc => (fl_un hc.1).trans (h.1 c hc), fun i hi => (fl_uo (Or.inr (by omega))).trans (h.2 i hi)⟩
theorem fz_ce (h : fz M X) {a j : Nat} {v : Int32} (ha : a = 92 ∨ a = 93 ∨ a = 94) : fz M (fl_u X a j v) := ⟨fun c hc => (fl_un (by omega)).trans (h.1 c hc), fun i hi => (fl_uo (Or.inl (by omega))).trans (h.2 i hi)⟩
theorem fz_rsk : ∀ (f : Nat) (X : fl_M), fz M X → fz M (rsk f X) := by
  intro f
  induction f with
  | zero => intro X h; exact h
  | succ f ih =>
    intro X h
    unfold rsk
    (repeat' split) <;> first | with_reducible exact ih _ (fz_p h (by decide)) | exact h
theorem fz_hd (h : fz M X) : fz M (hd_M X) := by
  have h1 := fz_rsk 60 X h
  unfold hd_M
  repeat' (first | with_reducible exact h1 | with_reducible apply fz_i | with_reducible refine fz_p ?_ (by decide))
theorem fz_rl (h : fz M X) : fz M (rl_M X) := by
  unfold rl_M
  repeat' (first | with_reducible exact h | with_reducible apply fz_i | with_reducible refine fz_p ?_ (by decide) | with_reducible refine fz_ce ?_ (by decide))
theorem fz_rm (h : fz M X) : fz M (rm_M X) := by
  unfold rm_M
  repeat' (first | with_reducible exact h | with_reducible apply fz_i | with_reducible refine fz_p ?_ (by decide) | with_reducible refine fz_ce ?_ (by decide))
theorem fz_rp : ∀ (f : Nat) (v : Int32) (X : fl_M), fz M X → fz M (rpar f v X).2 := by
  intro f
  induction f with
  | zero =>
    intro v X h
    unfold rpar
    exact h
  | succ f ih =>
    intro v X h
    unfold rpar
    (repeat' split) <;> first | with_reducible exact ih _ _ (fz_rl h) | with_reducible exact ih _ _ (fz_rsk 60 _ (fz_rl h)) | with_reducible exact ih _ _ (fz_rm h) | with_reducible exact ih _ _ (fz_rsk 60 _ (fz_rm h)) | exact h
theorem fz_fo (M : fl_M) (t : Int32) : fz M (fo_M M t) := by
  have h0 : fz M (fl_u (fl_u (fl_u (fl_u (fl_u M 81 16 (60 * t)) 81 17 0) 81 18 (M 89 t.toNatClampNeg)) 81 19 0) 81 22 0) := fz_p (fz_p (fz_p (fz_p (fz_p ⟨fun _ _ => rfl, fun _ _ => rfl⟩ (by decide)) (by decide)) (by decide)) (by decide)) (by decide)
  unfold fo_M
  repeat' (first | with_reducible exact fz_rp _ _ _ (fz_hd h0) | with_reducible exact fz_rp _ _ _ (fz_rsk 60 _ (fz_hd h0)) | with_reducible apply fz_i)
end AZ
section FA
variable {C R : fl_M}
theorem t2_z {C' R' : fl_M} (h : t2 C R) (hC : az C C') (hR : fz R R') : t2 C' R' := by
  obtain ⟨ht, d1, d2, d3⟩ := h
  refine ⟨tt_c ht (fun c hc => hC c (by omega)) (hR.2 1 (by decide)) (hR.2 4 (by decide)) (fun k hk => hR.1 k (by omega)) (fun j _ => by rw [hR.1 82 (by decide)]), ?_, ?_, fun f hf => ?_⟩
  · rw [hC 0 (by omega), hR.2 11 (by decide)]; exact d1
  · rw [hC 0 (by omega), hR.2 14 (by decide)]; exact d2
  · rw [hC 80 (by omega), hR.1 91 (by decide)]; exact d3 f hf
theorem fa_p (h : t2 C R) (hf : f2 C R) (hK : C 999 = sm_kl) (t : Int32) : v_14 t C = v_119 t R ∧ t2 (m_14 t C) (m_119 t R) := by
  unfold v_14 v_119 m_14 m_119
  by_cases hA : (t < 0) ∨ (¬ (t < 4))
  · simp only [if_pos hA, if_neg (fun z => ft_A3.mp z hA)]
    exact ⟨trivial, h⟩
  · obtain ⟨r1, r2, r3⟩ := ft_R4 hA
    obtain ⟨t1, gl, gu, t2'⟩ := hf.2 _ r3
    simp only [if_neg hA, if_pos (ft_A3.mpr hA)]
    rw [← t1]
    by_cases hB : C 9 t.toNatClampNeg = -1
    · simp only [if_pos hB, if_pos ((ft_B gl).mpr hB)]
      exact ⟨trivial, t2_no h 1 (f := 1) (by decide)⟩
    · simp only [if_neg hB, if_neg (fun z => hB ((ft_B gl).mp z))]
      exact ⟨ra_fo hf hK r1 r2 hB, t2_z h (az_ra C t) (fz_fo R t)⟩
end FA
/-! Register: what is read is tied, and in bounds. -/
theorem ra_ps {C R : fl_M} {t : Int32} (hf : f2 C R) (hK : C 999 = sm_kl) (h0 : 0 ≤ t.toInt) (h3 : t.toInt ≤ 3) (hs : ¬ C 9 t.toNatClampNeg = (-1)) (z : ra_v C t = (-9)) : ps (11 + t.toNatClampNeg) (C 9 t.toNatClampNeg) t (C (11 + t.toNatClampNeg)) (ra_M C t) (fo_M R t) := by
  have ct := fi_cl t
  have hT4 : t.toNatClampNeg < 4 := by omega
  obtain ⟨t1, gl, gu, t2⟩ := hf.2 _ hT4
  have g1 := And.intro gl gu
  have s0 := fi_ne hs
  rw [fi_m1] at s0
  have n0 : 0 ≤ (C 9 t.toNatClampNeg).toInt := by omega
  have hb : pb (C 9 t.toNatClampNeg) (C (11 + t.toNatClampNeg)) := ⟨g1.2, fun i hi => (t2 i hi).2⟩
  have hps : ps (11 + t.toNatClampNeg) (C 9 t.toNatClampNeg) t (C (11 + t.toNatClampNeg)) (fl_u (fl_u C 24 0 0) 24 1 0) (fl_u (fl_u (fl_u (fl_u (fl_u R 81 16 (60 * t)) 81 17 0) 81 18 (R 89 t.toNatClampNeg)) 81 19 0) 81 22 0) := by
    refine ⟨by rw [fl_un (by omega), fl_un (by omega)], rfl, ?_, rfl, rfl, cI_0 hK, fun i hi => ?_, fun j hj => ?_, fun j hj => ?_⟩
    · show R 89 t.toNatClampNeg = _
      rw [← t1]
    · rw [fl_un (by decide), fl_un (by decide), fl_un (by decide), fl_un (by decide), fl_un (by decide)]
      exact (t2 i hi).1.symm
    · have hj : (j : Int) < (0 : Int32).toInt := hj
      rw [fi_i0] at hj
      omega
    · have hj : (j : Int) < (0 : Int32).toInt := hj
      rw [fi_i0] at hj
      omega
  have hC : (fl_u (fl_u C 24 0 0) 24 1 0) (11 + t.toNatClampNeg) = C (11 + t.toNatClampNeg) := hps.1
  unfold ra_v at z
  unfold ra_M fo_M
  rw [fl_ar10, hC] at z ⊢
  generalize hE : (fl_u (fl_u (fl_u (fl_u (fl_u R 81 16 (60 * t)) 81 17 0) 81 18 (R 89 t.toNatClampNeg)) 81 19 0) 81 22 0) = E at hps ⊢
  have e17 : E 81 17 = 0 := by rw [← hE]; rfl
  have er := rsk_sk hps ⟨h0, h3⟩ hb 60 E rfl rfl hps.2.2.1 (by rw [e17]; decide)
  rw [e17] at er
  generalize hp : sk (C (11 + t.toNatClampNeg)) (C 9 t.toNatClampNeg) 60 0 = p at er z ⊢
  have pge : 0 ≤ p.toInt := by
    have z := sk_ge (b := C (11 + t.toNatClampNeg)) g1.2 60 0 (by decide)
    rw [fi_i0, hp] at z
    exact z
  have hv : hd_v E = if p < C 9 t.toNatClampNeg then (if C (11 + t.toNatClampNeg) p.toNatClampNeg = 114 then 1 else 0) else 0 := by
    unfold hd_v
    rw [er]
    show (if p < E 81 18 then (if rh (fl_u E 81 17 p) = 114 then (1 : Int32) else 0) else 0) = _
    rw [hps.2.2.1]
    by_cases h1 : p < C 9 t.toNatClampNeg
    · rw [if_pos h1, if_pos h1, (rh_b hps ⟨h0, h3⟩ hb (X := fl_u E 81 17 p) (by rw [fl_un (by decide)]) rfl rfl pge (fi_l.mp h1)).1, fl_us]
    · rw [if_neg h1, if_neg h1]
  have hm0 : hd_v E = 0 → hd_M E 81 17 = p := by
    intro z
    unfold hd_M
    rw [er]
    rw [hv] at z
    show (if p < E 81 18 then (if rh (fl_u E 81 17 p) = 114 then _ else _) else _ : fl_M) 81 17 = p
    rw [hps.2.2.1]
    by_cases h1 : p < C 9 t.toNatClampNeg
    · rw [if_pos h1, (rh_b hps ⟨h0, h3⟩ hb (X := fl_u E 81 17 p) (by rw [fl_un (by decide)]) rfl rfl pge (fi_l.mp h1)).1, fl_us]
      rw [if_pos h1] at z
      by_cases h2 : C (11 + t.toNatClampNeg) p.toNatClampNeg = 114
      · rw [if_pos h2] at z
        exact absurd z (by decide)
      · rw [if_neg h2]
        show p + 0 = p
        exact Int32.add_zero p
    · rw [if_neg h1]
      show p + 0 = p
      exact Int32.add_zero p
  by_cases h1 : p < C 9 t.toNatClampNeg
  · rw [if_pos h1] at z ⊢
    by_cases h2 : C (11 + t.toNatClampNeg) p.toNatClampNeg = 114
    · rw [if_pos h2] at z ⊢
      have v1 : hd_v E = 1 := by rw [hv, if_pos h1, if_pos h2]
      have v0 : ¬ hd_v E = 0 := by rw [v1]; decide
      rw [if_neg v0]
      have z1 := fi_l.mp h1
      have e1 := fi_p1 (p := p) (by omega)
      have hm : hd_M E = fl_u (fl_u E 81 17 p) 81 17 (p + 1) := by
        unfold hd_M
        rw [er]
        show (if p < E 81 18 then (if rh (fl_u E 81 17 p) = 114 then fl_u (fl_u E 81 17 p) 81 17 (p + 1) else _) else _) = _
        rw [hps.2.2.1, if_pos h1, (rh_b hps ⟨h0, h3⟩ hb (X := fl_u E 81 17 p) (by rw [fl_un (by decide)]) rfl rfl pge z1).1, fl_us, if_pos h2]
      have hps2 := ps_mv (x := p + 1) (ps_mv (x := p) hps)
      have er2 := rsk_sk hps2 ⟨h0, h3⟩ hb 60 (fl_u (fl_u E 81 17 p) 81 17 (p + 1)) rfl rfl hps.2.2.1 (show 0 ≤ (p + 1).toInt by omega)
      rw [hm, er2]
      have sg := sk_ge (b := C (11 + t.toNatClampNeg)) g1.2 60 (p + 1) (by omega)
      exact (pa_eq ⟨h0, h3⟩ hb ⟨by omega, by omega⟩ 60 (p + 1) _ _ (hd_v E) 60 (ps_mv hps2) v0 (by omega) (by omega) rfl (by omega) (by
        show (C 9 t.toNatClampNeg).toInt ≤ (sk (C (11 + t.toNatClampNeg)) (C 9 t.toNatClampNeg) 60 (p + 1)).toInt + (60 : Nat)
        omega)).2 z
    · rw [if_neg h2] at z
      rw [z] at pge
      exact absurd pge (by decide)
  · rw [if_neg h1] at z
    rw [z] at pge
    exact absurd pge (by decide)
/-- what is read, in bounds -/
def iv (X : fl_M) : Prop := (∀ j : Nat, (j : Int) < (X 24 0).toInt → 0 ≤ (X 26 j).toInt ∧ (X 26 j).toInt ≤ 40) ∧ (∀ j : Nat, (j : Int) < (X 24 1).toInt → (1 ≤ (X 30 j).toInt ∧ (X 30 j).toInt ≤ 9) ∧ 0 ≤ (X 31 j).toInt ∧ (X 31 j).toInt < (X 24 0).toInt)
theorem fg_b {b : Nat → Int32} {n q lo hi : Int32} (h : fg b n q lo hi = true) : lo.toInt ≤ (b q.toNatClampNeg - 48).toInt ∧ (b q.toNatClampNeg - 48).toInt ≤ hi.toInt := by
  obtain ⟨-, h2⟩ := sm_an h
  obtain ⟨h2, h3⟩ := sm_an h2
  refine ⟨?_, ?_⟩
  · refine Int.not_lt.mp (fun z => ?_)
    rw [decide_eq_true (fi_l.mpr z)] at h2
    cases h2
  · refine Int.not_lt.mp (fun z => ?_)
    rw [decide_eq_true (fi_l.mpr z)] at h3
    cases h3
section IV
variable {X : fl_M}
theorem iv_l (hI : cI X) (h : iv X) {v w : Int32} (c0 : ¬ 0 < X 24 1) (c8 : X 24 0 < 8) (v1 : ¬ v < 1) (v4 : ¬ 40 < v) : iv (fl_u (fl_u (fl_u X 25 (X 24 0).toNatClampNeg w) 26 (X 24 0).toNatClampNeg v) 24 0 (X 24 0 + 1)) := by
  obtain ⟨⟨i1, i2⟩, -, -⟩ := hI
  rw [fi_l, fi_i0] at c0
  rw [fi_l, fj_8] at c8
  rw [fi_l, fi_i1] at v1
  rw [fi_l, show (40 : Int32).toInt = 40 from rfl] at v4
  have e := fi_p1 (p := X 24 0) (by omega)
  have ec := fi_cl (X 24 0)
  refine ⟨fun j hj => ?_, fun j hj => ?_⟩
  · rw [fl_us, e] at hj
    rw [fl_un (c := 26) (a := 24) (by decide)]
    by_cases hn : j = (X 24 0).toNatClampNeg
    · rw [hn, fl_us]
      omega
    · rw [fl_uo (Or.inr hn), fl_un (by decide)]
      exact h.1 j (by omega)
  · rw [fl_uo (Or.inr (by decide)), fl_un (by decide), fl_un (by decide)] at hj
    omega
theorem iv_m (hI : cI X) (h : iv X) {u w k : Int32} (c4 : X 24 1 < 4) (u0 : 0 ≤ u.toInt) (u1 : u.toInt < (X 24 0).toInt) (w1 : 1 ≤ w.toInt) (w9 : w.toInt ≤ 9) : iv (fl_u (fl_u (fl_u (fl_u X 29 (X 24 1).toNatClampNeg k) 31 (X 24 1).toNatClampNeg u) 30 (X 24 1).toNatClampNeg w) 24 1 (X 24 1 + 1)) := by
  obtain ⟨-, ⟨i1, i2⟩, -⟩ := hI
  rw [fi_l, show (4 : Int32).toInt = 4 from rfl] at c4
  have e := fi_p1 (p := X 24 1) (by omega)
  have ec := fi_cl (X 24 1)
  refine ⟨fun j hj => ?_, fun j hj => ?_⟩
  · rw [fl_uo (Or.inr (by decide)), fl_un (by decide), fl_un (by decide), fl_un (by decide)] at hj
    rw [fl_un (by decide), fl_un (by decide), fl_un (by decide), fl_un (by decide)]
    exact h.1 j hj
  · rw [fl_us, e] at hj
    rw [fl_un (c := 30) (a := 24) (by decide), fl_un (c := 31) (a := 24) (by decide), fl_un (c := 31) (a := 30) (by decide), fl_uo (c := 24) (a := 24) (j := 0) (i := 1) (Or.inr (by decide)), fl_un (c := 24) (a := 30) (by decide), fl_un (c := 24) (a := 31) (by decide), fl_un (c := 24) (a := 29) (by decide)]
    by_cases hn : j = (X 24 1).toNatClampNeg
    · rw [hn, fl_us, fl_us]
      exact ⟨⟨w1, w9⟩, u0, u1⟩
    · rw [fl_uo (c := 30) (a := 30) (Or.inr hn), fl_un (c := 30) (a := 31) (by decide), fl_un (c := 30) (a := 29) (by decide), fl_uo (c := 31) (a := 31) (Or.inr hn), fl_un (c := 31) (a := 29) (by decide)]
      exact h.2 j (by omega)
theorem iv_ln (hI : cI X) (h : iv X) {a : Nat} {n p : Int32} : iv (ln_M X a n p) := by
  unfold ln_M
  (repeat' split) <;> first | with_reducible exact h | (refine iv_l hI h ?_ ?_ ?_ ?_ <;> assumption)
theorem iv_mo (hI : cI X) (h : iv X) {a : Nat} (ha : 11 ≤ a ∧ a ≤ 14) {n p : Int32} : iv (mo_M X a n p) := by
  have hx := hI.1
  have e1 : ¬ X 24 0 = 0 → (X 24 0 - 1).toInt = (X 24 0).toInt - 1 := fun _ => by rw [fi_sub (by rw [fi_i1]; omega) (by rw [fi_i1]; omega), fi_i1]
  unfold mo_M
  simp only [fl_un (show a ≠ 29 by omega), fl_un (show a ≠ 31 by omega)]
  split
  · exact h
  split
  · exact h
  rename_i c0
  have e1 := e1 c0
  split
  · rename_i c4
    split
    · rename_i f1
      have f1 := fg_b f1
      split
      · rename_i f2
        have f2 := fg_b f2
        rw [fi_i0, e1] at f1
        rw [fi_i1, show (9 : Int32).toInt = 9 from rfl] at f2
        exact iv_m hI h c4 f1.1 (by omega) f2.1 f2.2
      · exact h
    · exact h
  · exact h
theorem iv_cp {a : Nat} (ha : 11 ≤ a ∧ a ≤ 14) {n : Int32} : ∀ (f : Nat) (p : Int32) (X : fl_M), cI X → iv X → iv (cpar a n f p X).2 := by
  intro f
  induction f with
  | zero =>
    intro p X hI h
    unfold cpar
    exact h
  | succ f ih =>
    intro p X hI h
    unfold cpar
    (repeat' split) <;> (try dsimp only) <;> first | with_reducible exact ih _ _ hI h | with_reducible exact ih _ _ (cI_ln hI) (iv_ln hI h) | with_reducible exact ih _ _ (cI_mo hI) (iv_mo hI h ha) | with_reducible exact h | with_reducible exact iv_ln hI h | with_reducible exact iv_mo hI h ha
theorem iv_ra {C : fl_M} {t : Int32} (hK : C 999 = sm_kl) (h0 : 0 ≤ t.toInt) (h3 : t.toInt ≤ 3) : iv (ra_M C t) := by
  have ct := fi_cl t
  have hz : iv (fl_u (fl_u C 24 0 0) 24 1 0) := by
    refine ⟨fun j hj => ?_, fun j hj => ?_⟩
    · rw [fl_uo (Or.inr (by decide)), fl_us, fi_i0] at hj
      omega
    · rw [fl_us, fi_i0] at hj
      omega
  unfold ra_M
  rw [fl_ar10]
  (repeat' split) <;> first | exact hz | exact iv_cp (by omega) _ _ _ (cI_0 hK) hz
end IV
