/-! Cheese, the cat, wax. -/
theorem ln_A {x l : Int32} (h0 : 0 ≤ x.toInt) (h8 : x.toInt ≤ 40) : ((¬ (l < 0)) ∧ (¬ (x - 1 < l))) ↔ ¬ ((l < 0) ∨ (¬ (l < x))) := by
  rw [fi_l, fi_l, fi_l, fi_sub (by rw [fi_i1]; omega) (by rw [fi_i1]; omega), fi_i0, fi_i1]
  omega
theorem ln_R {x l : Int32} (h : ¬ ((l < 0) ∨ (¬ (l < x)))) : 0 ≤ l.toInt ∧ l.toInt < x.toInt ∧ l.toNatClampNeg < x.toNatClampNeg := by
  rw [fi_l, fi_l, fi_i0] at h
  rw [fi_cl, fi_cl]
  omega
theorem tt_n {C R : fl_M} (h : tt C R) : (0 ≤ (C 15 0).toInt ∧ (C 15 0).toInt ≤ 8) ∧ (0 ≤ (C 15 1).toInt ∧ (C 15 1).toInt ≤ 4) ∧ C 15 0 = R 81 1 ∧ C 15 1 = R 81 4 ∧ C 42 0 = R 82 0 ∧ 0 ≤ (C 42 0).toInt ∧ (C 42 0).toInt ≤ 40 := ⟨h.1.1.2.2.1, h.1.1.2.2.2.1, h.1.1.1, h.1.1.2.1, h.2.1.1, h.2.2.1, h.2.1.2.2.1⟩
/-- a deed more, if there is room -/
theorem rm_d {x : Int32} (h : x.toInt ≤ 40) : (x < 40 ↔ ¬ x = 40) := by
  rw [fi_l, fi_e, fi_i40]
  omega
theorem ch_p {C R : fl_M} (h : tt C R) (l n : Int32) : v_47 l n C = v_151 l n R ∧ tt (m_47 l n C) (m_151 l n R) := by
  obtain ⟨a0, a1, s1, s4, sd, d0, d4⟩ := tt_n h
  have hA := ln_A (x := C 15 0) (l := l) a0.1 (by omega)
  unfold v_47 v_151 m_47 m_151
  rw [← s1, ← sd]
  by_cases c1 : (l < 0) ∨ (¬ (l < (C 15 0)))
  · simp only [if_pos c1, if_neg (fun z => hA.mp z c1)]
    exact ⟨trivial, h⟩
  · simp only [if_neg c1, if_pos (hA.mpr c1)]
    obtain ⟨l0, l1, l2⟩ := ln_R c1
    obtain ⟨l7, -, dC, -⟩ := tr_l h.1 tr_b0 l0 l2
    have ecl := fi_cl l
    have iC : (12 + l).toNatClampNeg = 12 + l.toNatClampNeg := fj_nn (fj_pa (a := 12) rfl (show l.toInt = (l.toNatClampNeg : Nat) by rw [fi_cl]; omega) (by omega))
    have i0 : (0 + 12 + l : Int32).toNatClampNeg = 12 + l.toNatClampNeg := by rw [tr_i2 tr_b0 (c := 12) fj_12 (by decide) l0 (by omega)]
    rw [i0] at dC
    obtain ⟨-, -, c0, c9⟩ := h.1.2.2.2.2.1 _ l2
    by_cases c2 : n < 1
    · simp only [if_pos c2, if_neg (fun z : (¬ (n < 1)) ∧ (¬ (9 < n)) => z.1 c2)]
      exact ⟨trivial, h⟩
    · simp only [if_neg c2]
      by_cases c3 : 9 < n
      · simp only [if_pos c3, if_neg (fun z : (¬ (n < 1)) ∧ (¬ (9 < n)) => z.2 c3)]
        exact ⟨trivial, h⟩
      · simp only [if_neg c3, if_pos (⟨c2, c3⟩ : (¬ (n < 1)) ∧ (¬ (9 < n)))]
        rw [iC, dC]
        have n1 := fi_ge.mp c2
        have n9 := fi_ge.mp c3
        rw [fi_i1] at n1
        rw [show (9 : Int32).toInt = 9 from rfl] at n9
        have es : (C 19 l.toNatClampNeg + n).toInt = (C 19 l.toNatClampNeg).toInt + n.toInt := fi_add (by show -2147483648 ≤ (C (15 + 4) l.toNatClampNeg).toInt + n.toInt; omega) (by show (C (15 + 4) l.toNatClampNeg).toInt + n.toInt < 2147483648; omega)
        by_cases c4 : 20 < C 19 l.toNatClampNeg + n
        · have c4' : 20 < C (15 + 4) l.toNatClampNeg + n := c4
          simp only [if_pos c4, if_pos c4']
          exact ⟨trivial, h⟩
        · have c4' : ¬ 20 < C (15 + 4) l.toNatClampNeg + n := c4
          simp only [if_neg c4, if_neg c4']
          have e20 := fi_ge.mp c4
          rw [fj_20, es] at e20
          by_cases c5 : C 42 0 = 40
          · simp only [if_neg (fun z => (rm_d d4).mp z c5), if_pos c5]
            exact ⟨trivial, h⟩
          · have c6 := (rm_d d4).mpr c5
            simp only [if_pos c6, if_neg c5]
            have h4 : (C 42 0).toInt < 40 := by rw [fi_l, fi_i40] at c6; exact c6
            obtain ⟨e1, e2, e3⟩ := kp_e h h4
            have t0 := do_tr (wh := 1) (li := l) (am := n) h h4
            show v_45 1 l n 15 (m_44 1 l n 42 C) = fl_u (kp R) 82 (12 + l.toNatClampNeg) ((kp R) 82 (12 + l.toNatClampNeg) + n) 82 (12 + l.toNatClampNeg) ∧ tt (m_45 1 l n 15 (m_44 1 l n 42 C)) (fl_u (kp R) 82 (12 + l.toNatClampNeg) ((kp R) 82 (12 + l.toNatClampNeg) + n))
            have op : ∀ M, tr 15 0 M (kp R) → M (15 + 4) l.toNatClampNeg = (kp R) 82 (12 + l.toNatClampNeg) ∧ (if (M (15 + 4) l.toNatClampNeg) + n < 20 then (M (15 + 4) l.toNatClampNeg) + n else 20) = (kp R) 82 (12 + l.toNatClampNeg) + n ∧ 0 ≤ ((kp R) 82 (12 + l.toNatClampNeg) + n).toInt ∧ ((kp R) 82 (12 + l.toNatClampNeg) + n).toInt ≤ 20 ∧ l.toNatClampNeg < (M 15 0).toNatClampNeg := by
              intro M hM
              have hl : l.toNatClampNeg < (M 15 0).toNatClampNeg := by rw [hM.1.1, e1 81 (by decide), ← s1]; exact l2
              obtain ⟨-, m2, -, -⟩ := hM.2.2.2.2.1 _ hl
              have m2 : M (15 + 4) l.toNatClampNeg = kp R 82 (12 + l.toNatClampNeg) := by rw [m2, Nat.zero_add]
              have eR : kp R 82 (12 + l.toNatClampNeg) = C 19 l.toNatClampNeg := by rw [e3 _ (by omega), if_neg (by omega), dC]
              rw [m2, eR]
              refine ⟨rfl, ?_, ?_, ?_, hl⟩
              · by_cases c7 : C 19 l.toNatClampNeg + n < 20
                · rw [if_pos c7]
                · rw [if_neg c7]
                  have e := fi_ge.mp c7
                  rw [fj_20, es] at e
                  rw [fi_e, es, fj_20]
                  omega
              · rw [es]
                show 0 ≤ (C (15 + 4) l.toNatClampNeg).toInt + n.toInt
                omega
              · rw [es]; exact e20
            refine ⟨?_, do_tt h h4 (fun c h1 _ => fl_un h1) (fun j h1 _ => fl_uo (Or.inr (by omega))) (fl_uo (Or.inr (by omega))) (fun M hM => ?_)⟩
            · obtain ⟨o1, o2, -⟩ := op _ t0
              unfold v_45
              rw [if_pos rfl, fl_us, fl_us]
              exact o2
            · obtain ⟨o1, o2, o3, o4, o5⟩ := op M hM
              have g := tr_uc (v := kp R 82 (12 + l.toNatClampNeg) + n) hM o5 ⟨o3, o4⟩
              rw [Nat.zero_add] at g
              unfold m_45
              rw [if_pos rfl, o2]
              exact g
/-- the cat is set -/
theorem ct_d {C R : fl_M} (h : tt C R) (h4 : (C 42 0).toInt < 40) (l am : Int32) : tt (m_45 2 l am 15 (m_44 2 l am 42 C)) (fl_u (kp R) 82 2 l) := by
  refine do_tt h h4 (fun c h1 _ => fl_un h1) (fun j h1 _ => fl_uo (Or.inr (by omega))) (fl_uo (Or.inr (by omega))) (fun M hM => ?_)
  have g := tr_u0 (k := 1) (v := l) hM (by decide)
  unfold m_45
  rw [if_neg (by decide), if_pos rfl]
  exact g
theorem wx_d {C R : fl_M} (h : tt C R) (h4 : (C 42 0).toInt < 40) (l am : Int32) : tt (m_45 3 l am 15 (m_44 3 l am 42 C)) (fl_u (kp R) 82 3 ((kp R) 82 3 ^^^ ((1 : Int32) <<< (l &&& 31)))) := by
  refine do_tt h h4 (fun c h1 _ => fl_un h1) (fun j h1 _ => fl_uo (Or.inr (by omega))) (fl_uo (Or.inr (by omega))) (fun M hM => ?_)
  have g := tr_u0 (k := 2) (v := (kp R) 82 3 ^^^ ((1 : Int32) <<< (l &&& 31))) hM (by decide)
  have e : M 15 4 = kp R 82 3 := hM.2.2.2.1
  unfold m_45
  rw [if_neg (by decide), if_neg (by decide), if_pos rfl, e]
  exact g
theorem ct_p {C R : fl_M} (h : tt C R) (l : Int32) : v_48 l C = v_152 l R ∧ tt (m_48 l C) (m_152 l R) := by
  obtain ⟨a0, a1, s1, s4, sd, d0, d4⟩ := tt_n h
  have hA := ln_A (x := C 15 0) (l := l) a0.1 (by omega)
  have k2 : C 15 3 = R 82 2 := h.1.2.2.1
  have tail : (if (C 15 1) = 0 then (-4) else (if (C 15 3) = l then (-4) else (if (C 42 0) < 40 then v_45 2 l 0 15 (m_44 2 l 0 42 C) else (-2)))) = (if (R 81 4) = 0 then (-4) else (if (R 82 2) = l then (-4) else (if (R 82 0) = 40 then (-2) else R 82 2))) ∧ tt (if (C 15 1) = 0 then C else (if (C 15 3) = l then C else (if (C 42 0) < 40 then (m_45 2 l 0 15 (m_44 2 l 0 42 C)) else C))) (if (R 81 4) = 0 then R else (if (R 82 2) = l then R else (if (R 82 0) = 40 then R else (fl_u (fl_u (lr_149_2 R) 82 0 (((lr_149_2 R) 82 0) + 1)) 82 2 l)))) := by
    rw [← s4, ← k2, ← sd]
    by_cases c1 : C 15 1 = 0
    · simp only [if_pos c1]
      exact ⟨trivial, h⟩
    · simp only [if_neg c1]
      by_cases c2 : C 15 3 = l
      · simp only [if_pos c2]
        exact ⟨trivial, h⟩
      · simp only [if_neg c2]
        by_cases c5 : C 42 0 = 40
        · simp only [if_neg (fun z => (rm_d d4).mp z c5), if_pos c5]
          exact ⟨trivial, h⟩
        · have c6 := (rm_d d4).mpr c5
          simp only [if_pos c6, if_neg c5]
          have h4 : (C 42 0).toInt < 40 := by rw [fi_l, fi_i40] at c6; exact c6
          refine ⟨?_, ct_d h h4 l 0⟩
          unfold v_45
          rw [if_neg (by decide), if_pos rfl, fr_44 (by omega)]
  unfold v_48 v_152 m_48 m_152
  by_cases c0 : l = (-9)
  · simp only [if_pos c0]
    exact tail
  · simp only [if_neg c0]
    rw [← s1]
    by_cases c1 : (l < 0) ∨ (¬ (l < (C 15 0)))
    · simp only [if_pos c1, if_neg (fun z => hA.mp z c1)]
      exact ⟨trivial, h⟩
    · simp only [if_neg c1, if_pos (hA.mpr c1)]
      exact tail
theorem wx_p {C R : fl_M} (h : tt C R) (l : Int32) : v_49 l C = v_153 l R ∧ tt (m_49 l C) (m_153 l R) := by
  obtain ⟨a0, a1, s1, s4, sd, d0, d4⟩ := tt_n h
  have hA := ln_A (x := C 15 0) (l := l) a0.1 (by omega)
  unfold v_49 v_153 m_49 m_153
  rw [← s1, ← sd]
  by_cases c1 : (l < 0) ∨ (¬ (l < (C 15 0)))
  · simp only [if_pos c1, if_neg (fun z => hA.mp z c1)]
    exact ⟨trivial, h⟩
  · simp only [if_neg c1, if_pos (hA.mpr c1)]
    by_cases c5 : C 42 0 = 40
    · simp only [if_neg (fun z => (rm_d d4).mp z c5), if_pos c5]
      exact ⟨trivial, h⟩
    · have c6 := (rm_d d4).mpr c5
      simp only [if_pos c6, if_neg c5]
      have h4 : (C 42 0).toInt < 40 := by rw [fi_l, fi_i40] at c6; exact c6
      have w := wx_d h h4 l 0
      have t0 := do_tr (wh := 3) (li := l) (am := 0) h h4
      have e : m_44 3 l 0 42 C 15 4 = kp R 82 3 := t0.2.2.2.1
      unfold kp at w e
      refine ⟨?_, w⟩
      unfold v_45
      rw [if_neg (by decide), if_neg (by decide), if_pos rfl, fl_us, e]
