/-! By lots. -/
theorem rm_32 {x y : Int32} (hx : 0 ≤ x.toInt) (hy : 0 < y.toInt) : (x - x / y * y).toInt = x.toInt % y.toInt := by
  have b1 := x.toInt_lt
  have b2 := y.toInt_lt
  have e1 := fj_div hx hy
  have h4 : x.toInt / y.toInt * y.toInt ≤ x.toInt := Int.ediv_mul_le _ (by omega)
  have h5 : 0 ≤ x.toInt / y.toInt * y.toInt := Int.mul_nonneg (Int.ediv_nonneg hx (by omega)) (by omega)
  have e2 : (x / y * y).toInt = x.toInt / y.toInt * y.toInt := by
    rw [fi_mul (by rw [e1]; omega) (by rw [e1]; omega), e1]
  have h6 := Int.emod_def x.toInt y.toInt
  rw [Int.mul_comm] at h6
  rw [fi_sub (by rw [e2]; omega) (by rw [e2]; omega), e2, ← h6]
theorem dv_64 {x y : Int64} (hx : 0 ≤ x.toInt) (hy : 0 < y.toInt) : (x / y).toInt = x.toInt / y.toInt := by
  have b1 := x.toInt_lt
  have h2 : 0 ≤ x.toInt / y.toInt := Int.ediv_nonneg hx (by omega)
  have h3 : x.toInt / y.toInt ≤ x.toInt := Int.ediv_le_self _ hx
  rw [Int64.toInt_div, Int.tdiv_eq_ediv_of_nonneg hx]
  unfold Int.bmod
  dsimp only
  split <;> omega
theorem n_32 {x : Int64} (h0 : 0 ≤ x.toInt) (h1 : x.toInt < 2147483648) : x.toInt32.toInt = x.toInt := by
  rw [Int64.toInt_toInt32]
  exact fi_bm (by omega) (by omega)
theorem lo_w {x : Int64} (h0 : 0 ≤ x.toInt) (h1 : x.toInt < 2147483648) {y : Int64} {z : Int32} (hy : 0 < y.toInt) (hz : z.toInt = y.toInt) : (x - x / y * y).toInt32 = x.toInt32 - x.toInt32 / z * z := by
  have e0 := n_32 h0 h1
  have e1 := eu_rem h0 hy
  have e2 := rm_32 (x := x.toInt32) (y := z) (by omega) (by omega)
  have m0 := Int.emod_nonneg x.toInt (show y.toInt ≠ 0 by omega)
  have m1 : x.toInt % y.toInt ≤ x.toInt := by
    rw [Int.emod_def]
    have := Int.mul_nonneg (show 0 ≤ y.toInt by omega) (Int.ediv_nonneg h0 (show 0 ≤ y.toInt by omega))
    omega
  rw [fi_e, e2, n_32 (by omega) (by omega), e1, e0, hz]
theorem d_42 {wh li am : Int32} {C R : fl_M} (h : tt C R) (h4 : (C 42 0).toInt < 40) : m_45 wh li am 15 (m_44 wh li am 42 C) 42 0 = C 42 0 + 1 ∧ m_45 wh li am 15 (m_44 wh li am 42 C) 15 1 = C 15 1 := by
  obtain ⟨a0, a1, s1, s4, sd, d0, d4⟩ := tt_n h
  have e := fi_cl (C 42 0)
  refine ⟨?_, ?_⟩
  · rw [fr_45 (by omega), m44_eq (n := (C 42 0).toNatClampNeg) (by omega) (by omega), fl_us]
  · rw [st_45 (by omega) (by omega) (by omega) (by omega), fr_44 (by omega)]
/-- cheese by lot -/
theorem cl_d {C R : fl_M} (h : tt C R) (h4 : (C 42 0).toInt < 40) {l a : Int32} (l0 : 0 ≤ l.toInt) (l1 : l.toNatClampNeg < (C 15 0).toNatClampNeg) (ha : 1 ≤ a.toInt ∧ a.toInt ≤ 9) {X : Int32} (hX : X = (if 20 < kp R 82 (12 + l.toNatClampNeg) + a then 20 else kp R 82 (12 + l.toNatClampNeg) + a)) : tt (m_45 1 l a 15 (m_44 1 l a 42 C)) (fl_u (kp R) 82 (12 + l.toNatClampNeg) X) := by
  obtain ⟨a0, a1, s1, s4, sd, d0, d4⟩ := tt_n h
  obtain ⟨e1, e2, e3⟩ := kp_e h h4
  have ecl := fi_cl l
  have ecn := fi_cl (C 15 0)
  refine do_tt h h4 (fun c h1 _ => fl_un h1) (fun j h1 _ => fl_uo (Or.inr (by omega))) (fl_uo (Or.inr (by omega))) (fun M hM => ?_)
  have hl : l.toNatClampNeg < (M 15 0).toNatClampNeg := by rw [hM.1.1, e1 81 (by decide), ← s1]; exact l1
  obtain ⟨-, m2, m3, m4⟩ := hM.2.2.2.2.1 _ hl
  rw [Nat.zero_add] at m2
  have m2' : M (15 + 4) l.toNatClampNeg = kp R 82 (12 + l.toNatClampNeg) := m2
  rw [m2'] at m3 m4
  generalize hx : kp R 82 (12 + l.toNatClampNeg) = x at *
  have es : (x + a).toInt = x.toInt + a.toInt := fi_add (by omega) (by omega)
  have eX : (if (M (15 + 4) l.toNatClampNeg) + a < 20 then (M (15 + 4) l.toNatClampNeg) + a else 20) = X := by
    rw [m2', hX]
    by_cases c1 : 20 < x + a
    · rw [if_pos c1, if_neg (fun z => by rw [fi_l, fj_20] at c1 z; omega)]
    · rw [if_neg c1]
      by_cases c2 : x + a < 20
      · rw [if_pos c2]
      · rw [if_neg c2, fi_e, fj_20]
        rw [fi_l, fj_20] at c1 c2
        omega
  have bX : 0 ≤ X.toInt ∧ X.toInt ≤ 20 := by
    rw [hX]
    split
    · exact ⟨by decide, by decide⟩
    · rename_i c1
      rw [fi_l, fj_20] at c1
      omega
  have g := tr_uc (v := X) hM hl bX
  rw [Nat.zero_add] at g
  unfold m_45
  rw [if_pos rfl, eX]
  exact g
theorem bl_p {C R : fl_M} (h : tt C R) (h4 : (C 42 0).toInt < 40) (hl : 0 < (C 15 0).toInt) {lot : Int64} (h0 : 0 ≤ lot.toInt) (h9 : lot.toInt < 2147483648) : tt (m_89 lot.toInt32 C) (m_189 lot (kp R)) ∧ m_89 lot.toInt32 C 42 0 = C 42 0 + 1 ∧ m_89 lot.toInt32 C 15 1 = C 15 1 := by
  obtain ⟨a0, a1, s1, s4, sd, d0, d4⟩ := tt_n h
  obtain ⟨e1, e2, e3⟩ := kp_e h h4
  have sL : kp R 81 1 = C 15 0 := by rw [e1 81 (by decide), s1]
  have ex := n_32 h0 h9
  have wL := lo_w h0 h9 (y := (C 15 0).toInt64) (z := C 15 0) (by rw [Int32.toInt_toInt64]; exact hl) (Int32.toInt_toInt64 _).symm
  have v8 : (lot / 8).toInt = lot.toInt / 8 := dv_64 h0 (by decide)
  have v64 : (lot / 64).toInt = lot.toInt / 64 := dv_64 h0 (by decide)
  have x8 : (lot.toInt32 / 8).toInt = lot.toInt / 8 := by rw [fj_div (by omega) (by decide), ex]; rfl
  have x64 : (lot.toInt32 / 64).toInt = lot.toInt / 64 := by rw [fj_div (by omega) (by decide), ex]; rfl
  have t8 : (lot / 8).toInt32 = lot.toInt32 / 8 := by rw [fi_e, n_32 (by omega) (by omega), v8, x8]
  have t64 : (lot / 64).toInt32 = lot.toInt32 / 64 := by rw [fi_e, n_32 (by omega) (by omega), v64, x64]
  have w8 := lo_w (x := lot / 8) (by omega) (by omega) (y := 8) (z := 8) (by decide) rfl
  have w64 := lo_w (x := lot / 64) (by omega) (by omega) (y := 5) (z := 5) (by decide) rfl
  rw [t8] at w8
  rw [t64] at w64
  unfold m_189 m_89
  rw [sL, wL, w8, w64]
  have bl := rm_32 (x := lot.toInt32) (y := C 15 0) (by omega) hl
  have bl0 := Int.emod_nonneg lot.toInt32.toInt (show (C 15 0).toInt ≠ 0 by omega)
  have bl1 := Int.emod_lt_of_pos lot.toInt32.toInt hl
  have bw := rm_32 (x := lot.toInt32 / 8) (y := 8) (by omega) (by decide)
  rw [fj_8] at bw
  have ba := rm_32 (x := lot.toInt32 / 64) (y := 5) (by omega) (by decide)
  rw [fi_i5] at ba
  generalize hlx : lot.toInt32 - lot.toInt32 / C 15 0 * C 15 0 = l at *
  generalize hwx : lot.toInt32 / 8 - lot.toInt32 / 8 / 8 * 8 = w at *
  generalize hax : lot.toInt32 / 64 - lot.toInt32 / 64 / 5 * 5 = a at *
  have l0 : 0 ≤ l.toInt := by omega
  have ecl := fi_cl l
  have ecn := fi_cl (C 15 0)
  have l1 : l.toNatClampNeg < (C 15 0).toNatClampNeg := by omega
  have iC : (12 + l).toNatClampNeg = 12 + l.toNatClampNeg := fj_nn (fj_pa (a := 12) rfl (show l.toInt = (l.toNatClampNeg : Nat) by omega) (by omega))
  have a1' : (1 + a).toInt = 1 + a.toInt := by rw [fi_add (by rw [fi_i1]; omega) (by rw [fi_i1]; omega), fi_i1]
  have cpos : 0 < C 15 0 := by rw [fi_l, fi_i0]; exact hl
  rw [iC, Int32.add_assoc]
  have D := fun wh li am => d_42 (wh := wh) (li := li) (am := am) h h4
  have ch := cl_d h h4 l0 l1 (a := 1 + a) (by omega) rfl
  have chX : (if w < 2 then if 20 < kp R 82 (12 + l.toNatClampNeg) + (1 + a) then fl_u (kp R) 82 (12 + l.toNatClampNeg) 20 else fl_u (kp R) 82 (12 + l.toNatClampNeg) (kp R 82 (12 + l.toNatClampNeg) + (1 + a)) else kp R) = (if w < 2 then fl_u (kp R) 82 (12 + l.toNatClampNeg) (if 20 < kp R 82 (12 + l.toNatClampNeg) + (1 + a) then 20 else kp R 82 (12 + l.toNatClampNeg) + (1 + a)) else kp R) := by
    by_cases c : w < 2
    · simp only [if_pos c]
      split <;> rfl
    · simp only [if_neg c]
  simp only [if_pos cpos]
  by_cases c2 : w < 2
  · simp only [if_pos c2] at chX ⊢
    rw [chX]
    have w01 : w = 0 ∨ w = 1 := by
      rw [fi_l, fj_2] at c2
      rw [fi_e, fi_e, fi_i0, fi_i1]
      omega
    rcases w01 with rfl | rfl
    · simp only [if_true]
      exact ⟨ch, D 1 l (1 + a)⟩
    · simp only [if_neg (show ¬ (1 : Int32) = 0 by decide), if_true]
      exact ⟨ch, D 1 l (1 + a)⟩
  · have n0 : ¬ w = 0 := fun z => by rw [z] at c2; exact c2 (by decide)
    have n1 : ¬ w = 1 := fun z => by rw [z] at c2; exact c2 (by decide)
    simp only [if_neg c2, if_neg n0, if_neg n1]
    by_cases c3 : w = 2
    · simp only [if_pos c3]
      exact ⟨ct_d h h4 l 0, D 2 l 0⟩
    · simp only [if_neg c3]
      by_cases c4 : w = 3
      · simp only [if_pos c4]
        exact ⟨wx_d h h4 l 0, D 3 l 0⟩
      · simp only [if_neg c4]
        refine ⟨?_, D 0 0 0⟩
        have t0 := do_tr (wh := 0) (li := 0) (am := 0) h h4
        have e45 : ∀ M, m_45 0 0 0 15 M = m_46 0 15 M := fun M => by unfold m_45; rw [if_neg (by decide), if_neg (by decide), if_neg (by decide)]
        have n8 : (kp R 81 1).toInt ≤ 8 ∧ (kp R 81 4).toInt ≤ 4 := by
          rw [← t0.1.1, ← t0.1.2.1]
          exact ⟨t0.1.2.2.1.2, t0.1.2.2.2.1.2⟩
        refine do_tt h h4 (fun c h1 _ => by funext j; exact fw_150 h1) (fun j h1 _ => pf_150 tr_b0 n8.1 n8.2 (Or.inr (by omega))) (pf_150 tr_b0 n8.1 n8.2 (Or.inl (by omega))) (fun M hM => ?_)
        rw [e45]
        exact (py_eq hM tr_b0 0).2
/-- how many are left in all -/
theorem al_eq {T b : Nat} {C R : fl_M} {bI : Int32} (h : tr T b C R) (hb : tr_b bI b) : lr_66_4 0 T C = lr_168_4 bI 0 R := by
  unfold lr_66_4 lr_168_4 lq_66_4 lq_168_4
  rw [← h.1.1]
  have n8 := tr_n h
  refine it_c rfl (fun m q hm => ?_)
  have em := fi_ti (m := m) (by omega)
  have en := fi_at (m := m) (by omega)
  obtain ⟨-, d1, -⟩ := tr_l h hb (l := Int32.ofNat m) (by omega) (by rw [en]; exact hm)
  unfold ls_66_4 ls_168_4
  rw [d1]
theorem lo_p {C R : fl_M} (h : tt C R) (n seed : Int32) : v_88 n seed C = v_188 n seed R ∧ tt (m_88 n seed C) (m_188 n seed R) := by
  obtain ⟨a0, a1, s1, s4, sd, d0, d4⟩ := tt_n h
  unfold v_88 v_188 m_88 m_188
  rw [← s4, ← sd]
  by_cases c1 : n < 1
  · simp only [if_pos c1, if_neg (fun z : (¬ (n < 1)) ∧ (¬ (20 < n)) => z.1 c1)]
    exact ⟨trivial, h⟩
  · simp only [if_neg c1]
    by_cases c2 : 20 < n
    · simp only [if_pos c2, if_neg (fun z : (¬ (n < 1)) ∧ (¬ (20 < n)) => z.2 c2)]
      exact ⟨trivial, h⟩
    · simp only [if_neg c2, if_pos (⟨c1, c2⟩ : (¬ (n < 1)) ∧ (¬ (20 < n)))]
      by_cases c3 : seed < 1
      · simp only [if_pos c3, if_neg (fun z : (¬ (seed < 1)) ∧ (¬ (2147483646 < seed)) => z.1 c3)]
        exact ⟨trivial, h⟩
      · simp only [if_neg c3]
        have eS : (seed < 2147483647) ↔ ¬ (2147483646 < seed) := by
          rw [fi_l, fi_l, show (2147483647 : Int32).toInt = 2147483647 from rfl, show (2147483646 : Int32).toInt = 2147483646 from rfl]
          omega
        by_cases c4 : seed < 2147483647
        · simp only [if_pos c4, if_pos (⟨c3, eS.mp c4⟩ : (¬ (seed < 1)) ∧ (¬ (2147483646 < seed)))]
          by_cases c5 : C 15 1 = 0
          · simp only [if_pos c5]
            exact ⟨trivial, h⟩
          · simp only [if_neg c5]
            by_cases c6 : 40 < C 42 0 + n
            · simp only [if_pos c6]
              exact ⟨trivial, h⟩
            · simp only [if_neg c6]
              have m1 : 0 < (C 15 1).toInt := by
                have z := fi_ne c5
                rw [fi_i0] at z
                omega
              have n1 := fi_ge.mp c1
              have n2 := fi_ge.mp c2
              rw [fi_i1] at n1
              rw [fj_20] at n2
              have n6 := fi_ge.mp c6
              rw [fi_i40, fi_add (by omega) (by omega)] at n6
              have en := fi_cl n
              have key : tt (lr_88_60 n seed.toInt64 C).2 (lr_188_58 n seed.toInt64 R).2 := by
                unfold lr_88_60 lr_188_58 lq_88_60 lq_188_58
                have k := it_r (f := ls_88_60) (g := ls_188_58) (n := n.toNatClampNeg) (a := (seed.toInt64, C)) (b := (seed.toInt64, R)) (fun m x y => x.1 = y.1 ∧ 0 ≤ x.1.toInt ∧ x.1.toInt < 2147483648 ∧ tt x.2 y.2 ∧ (x.2 42 0).toInt = (C 42 0).toInt + m ∧ x.2 15 1 = C 15 1) ?_ ?_
                · exact k.2.2.2.1
                · have s0 := fi_ge.mp c3
                  rw [fi_i1] at s0
                  have s9 := seed.toInt_lt
                  refine ⟨rfl, ?_, ?_, h, (show (C 42 0).toInt = (C 42 0).toInt + ((0 : Nat) : Int) by omega), rfl⟩
                  · rw [Int32.toInt_toInt64]; omega
                  · rw [Int32.toInt_toInt64]; omega
                · intro m x y hm hR
                  obtain ⟨xl, X⟩ := x
                  obtain ⟨yl, Y⟩ := y
                  obtain ⟨r1, r2, r3, r4, r5, r6⟩ := hR
                  dsimp only at r1 r2 r3 r4 r5 r6
                  subst r1
                  have e48 : (48271 : Int64).toInt = 48271 := rfl
                  have em : (xl * 48271).toInt = xl.toInt * 48271 := by
                    rw [Int64.toInt_mul, e48]
                    unfold Int.bmod
                    dsimp only
                    split <;> omega
                  have er := eu_rem (x := xl * 48271) (y := 2147483647) (by rw [em]; omega) (by decide)
                  have e21 : (2147483647 : Int64).toInt = 2147483647 := rfl
                  rw [e21] at er
                  have er0 := Int.emod_nonneg (xl * 48271).toInt (show (2147483647 : Int) ≠ 0 by decide)
                  have er1 := Int.emod_lt_of_pos (xl * 48271).toInt (show (0 : Int) < 2147483647 by decide)
                  unfold ls_88_60 ls_188_58
                  dsimp only
                  generalize xl * 48271 - xl * 48271 / 2147483647 * 2147483647 = L at *
                  have mX : 0 < (X 15 0).toInt := by
                    have hm1 : 0 < (X 15 1).toNatClampNeg := by rw [r6, fi_cl]; omega
                    have z := r4.1.2.2.2.2.2.1 0 hm1
                    omega
                  obtain ⟨b1, b2, b3⟩ := bl_p r4 (by omega) mX (lot := L) (by omega) (by omega)
                  have e4 : (X 42 0).toInt < 2147483647 := by omega
                  refine ⟨rfl, by omega, by omega, b1, ?_, by rw [b3, r6]⟩
                  rw [b2, fi_p1 e4, r5]
                  omega
              exact ⟨al_eq key.1 tr_b0, key⟩
        · simp only [if_neg c4, if_neg (fun z : (¬ (seed < 1)) ∧ (¬ (2147483646 < seed)) => c4 (eS.mpr z.2))]
          exact ⟨trivial, h⟩
