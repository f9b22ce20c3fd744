/-! By where a mouse was. -/
def f2 (C R : fl_M) : Prop := (∀ j, j < 6 → C 1 j = R 87 j ∧ -1 ≤ (C 1 j).toInt ∧ (C 1 j).toInt ≤ 40 ∧ ∀ i : Nat, (i : Int) < (C 1 j).toInt → C (3 + j) i = R 88 (40 * j + i)) ∧
  (∀ j, j < 4 → C 9 j = R 89 j ∧ -1 ≤ (C 9 j).toInt ∧ (C 9 j).toInt ≤ 60 ∧ ∀ i : Nat, (i : Int) < (C 9 j).toInt → C (11 + j) i = R 90 (60 * j + i) ∧ -128 ≤ (C (11 + j) i).toInt ∧ (C (11 + j) i).toInt ≤ 127)
def aw (F : fl_M → Prop) (C a b : fl_M) : Prop := tr 24 3776 a b ∧ fC C a ∧ F b
/-- a frame that what is tried keeps -/
def fo (R : fl_M) (F : fl_M → Prop) : Prop := (∀ b b', F b → (∀ c, c ≠ 82 → b' c = b c) → (∀ j, j < 3776 → b' 82 j = b 82 j) → F b') ∧ ∀ b, F b → b 87 = R 87 ∧ b 88 = R 88
theorem fo_R (R : fl_M) : fo R (fR R) := ⟨fun b b' h e e2 => fR_t h e e2, fun b h => ⟨h.1 87 (by decide), h.1 88 (by decide)⟩⟩
section AW
variable {F : fl_M → Prop} {C R a b : fl_M}
theorem aw_y (hF : fo R F) (h : aw F C a b) : aw F C (m_46 0 24 a) (m_150 3776 0 b) := by
  have n8 : (b 81 1).toInt ≤ 8 ∧ (b 81 4).toInt ≤ 4 := by
    rw [← h.1.1.1, ← h.1.1.2.1]
    exact ⟨h.1.1.2.2.1.2, h.1.1.2.2.2.1.2⟩
  exact ⟨(py_eq h.1 tr_bt 0).2, fC_t h.2.1 (fun c hc => by funext j; exact fr_46 (by omega)), hF.1 _ _ h.2.2 (fun c hc => by funext j; exact fw_150 hc) (fun j hj => pf_150 tr_bt n8.1 n8.2 (Or.inl (by omega)))⟩
/-- it goes as a row says, on both sides or on none -/
theorem gr_1 (hF : fo R F) (hf : f2 C R) (h : aw F C a b) {i r : Int32} (i0 : 0 ≤ i.toInt) (i1 : i.toNatClampNeg < (a 24 1).toNatClampNeg) (r0 : 0 ≤ r.toInt) (r5 : r.toInt ≤ 5) : v_69 i r a = (lr_171_5 i r 1 b).1 ∧ fC C (m_69 i r a) ∧ F (lr_171_5 i r 1 b).2 := by
  have er := fi_cl r
  have hr : r.toNatClampNeg < 6 := by omega
  obtain ⟨f1, f2', f3, f4⟩ := hf.1 _ hr
  have ea : a 1 r.toNatClampNeg = C 1 r.toNatClampNeg := by rw [h.2.1 1 (by omega)]
  have eb : b 87 r.toNatClampNeg = C 1 r.toNatClampNeg := by rw [(hF.2 b h.2.2).1, f1]
  have ecn := fi_cl (C 1 r.toNatClampNeg)
  have key : ∀ n, n ≤ (C 1 r.toNatClampNeg).toNatClampNeg → ∃ x, aw F C x (fx_it (ls_171_5 i r) n (1, b)).2 ∧ x 24 1 = a 24 1 ∧ ((fx_ix (ls_69_2 i r) n a = .inr x ∧ (fx_it (ls_171_5 i r) n (1, b)).1 = 1) ∨ ((fx_it (ls_171_5 i r) n (1, b)).1 = 0 ∧ ∃ c, fx_ix (ls_69_2 i r) n a = .inl c ∧ c.1 = 0 ∧ fC C c.2)) := by
    intro n
    induction n with
    | zero => intro _; exact ⟨a, h, rfl, Or.inl ⟨rfl, rfl⟩⟩
    | succ n ih =>
      intro hn
      obtain ⟨x, g, gk, gg⟩ := ih (by omega)
      obtain ⟨B, hB⟩ : ∃ B, B = fx_it (ls_171_5 i r) n (1, b) := ⟨_, rfl⟩
      rw [← hB] at g gg
      have g2 := aw_y hF g
      have gk2 : m_46 0 24 x 24 1 = a 24 1 := by rw [st_46 (by omega) (by omega) (by omega) (by omega), gk]
      have em := fi_ti (m := n) (by omega)
      have en := fi_at (m := n) (by omega)
      obtain ⟨i3, dP, -, -⟩ := tr_m g2.1 tr_bt (i := i) i0 (by rw [gk2]; exact i1)
      have iP : (3776 + 20 + i : Int32) = 3796 + i := rfl
      rw [iP] at dP
      have dP : m_150 3776 0 (B).2 82 (3796 + i).toNatClampNeg = m_46 0 24 x 32 i.toNatClampNeg := dP
      have iI : (40 * r + Int32.ofNat n).toNatClampNeg = 40 * r.toNatClampNeg + n := by rw [fi_40 r0 r5 (by omega) (by omega), en]
      have dI : m_150 3776 0 (B).2 88 (40 * r.toNatClampNeg + n) = C (3 + r.toNatClampNeg) n := by rw [(hF.2 _ g2.2.2).2, f4 n (by omega)]
      have dC : m_46 0 24 x (fl_ar 2 r.toNatClampNeg) n = C (3 + r.toNatClampNeg) n := by rw [fl_ar2, g2.2.1 _ (by omega)]
      rcases gg with ⟨e1, e2⟩ | ⟨e1, c, e2, e3, e4⟩
      · by_cases d : m_46 0 24 x 32 i.toNatClampNeg = C (3 + r.toNatClampNeg) n
        · have sR : fx_it (ls_171_5 i r) (n + 1) (1, b) = (1, m_150 3776 0 (B).2) := by
            rw [fx_it_s, ← hB]
            unfold ls_171_5
            rw [e2, if_neg (by decide), yr_1, dP, iI, dI, if_pos d]
          refine ⟨m_46 0 24 x, by rw [sR]; exact g2, gk2, Or.inl ⟨ix_s1 e1 ?_, by rw [sR]⟩⟩
          unfold ls_69_2
          rw [en, dC, if_pos d]
        · have sR : fx_it (ls_171_5 i r) (n + 1) (1, b) = (0, m_150 3776 0 (B).2) := by
            rw [fx_it_s, ← hB]
            unfold ls_171_5
            rw [e2, if_neg (by decide), yr_1, dP, iI, dI, if_neg d]
          refine ⟨m_46 0 24 x, by rw [sR]; exact g2, gk2, Or.inr ⟨by rw [sR], (0, m_46 0 24 x), ix_s1 e1 ?_, rfl, g2.2.1⟩⟩
          unfold ls_69_2
          rw [en, dC, if_neg d]
      · have sR : fx_it (ls_171_5 i r) (n + 1) (1, b) = (0, m_150 3776 0 (B).2) := by
          rw [fx_it_s, ← hB]
          unfold ls_171_5
          rw [e1, if_pos rfl, yr_1]
        exact ⟨m_46 0 24 x, by rw [sR]; exact g2, gk2, Or.inr ⟨by rw [sR], c, ix_l e2 (Nat.le_succ n), e3, e4⟩⟩
  obtain ⟨x, g, -, gg⟩ := key _ (Nat.le_refl _)
  have lR : lr_171_5 i r 1 b = fx_it (ls_171_5 i r) (C 1 r.toNatClampNeg).toNatClampNeg (1, b) := by unfold lr_171_5 lq_171_5; rw [eb]
  have lC : lr_69_2 i r a = fx_ix (ls_69_2 i r) (C 1 r.toNatClampNeg).toNatClampNeg a := by unfold lr_69_2 lq_69_2; rw [ea]
  unfold v_69 m_69
  rw [lR, lC]
  rcases gg with ⟨e1, e2⟩ | ⟨e1, c, e2, e3, e4⟩
  · rw [e1, e2]
    exact ⟨rfl, g.2.1, g.2.2⟩
  · rw [e1, e2]
    exact ⟨e3, e4, g.2.2⟩
/-- refused, or not -/
theorem rf_p (h : t2 C R) (hf : f2 C R) (i r : Int32) : v_68 i r C = (if (¬ (i < 0)) ∧ (¬ ((R 81 4) - 1 < i)) then (if (¬ (r < 0)) ∧ (¬ (5 < r)) then v_170 r R else (-1)) else (-1)) ∧ t2 (m_68 i r C) (if (¬ (i < 0)) ∧ (¬ ((R 81 4) - 1 < i)) then (if (¬ (r < 0)) ∧ (¬ (5 < r)) then m_170 r R else R) else R) ∧ (v_68 i r C = 0 → m_68 i r C = C ∧ m_170 r R = R ∧ (0 ≤ i.toInt ∧ i.toNatClampNeg < (C 15 1).toNatClampNeg) ∧ (0 ≤ r.toInt ∧ r.toInt ≤ 5) ∧ ((¬ (i < 0)) ∧ (¬ ((R 81 4) - 1 < i))) ∧ ((¬ (r < 0)) ∧ (¬ (5 < r)))) := by
  obtain ⟨a0, a1, s1, s4, sd, d0, d4⟩ := tt_n h.1
  have hA := ln_A (x := C 15 1) (l := i) a1.1 (by omega)
  rw [← s4]
  unfold v_68 m_68
  by_cases c1 : (i < 0) ∨ (¬ (i < (C 15 1)))
  · simp only [if_pos c1, if_neg (fun z => hA.mp z c1)]
    exact ⟨trivial, h, fun z => absurd z (by decide)⟩
  · simp only [if_neg c1, if_pos (hA.mpr c1)]
    obtain ⟨i0, i1, i2⟩ := ln_R c1
    by_cases c2 : (r < 0) ∨ (¬ (r < 6))
    · simp only [if_pos c2, if_neg (fun z => ft_A.mp z c2)]
      exact ⟨trivial, h, fun z => absurd z (by decide)⟩
    · simp only [if_neg c2, if_pos (ft_A.mpr c2)]
      obtain ⟨r0, r5, r6⟩ := ft_R c2
      obtain ⟨f1, f2', f3, f4⟩ := hf.1 _ r6
      have ecn := fi_cl (C 1 r.toNatClampNeg)
      unfold v_170 m_170
      rw [← f1]
      by_cases c3 : C 1 r.toNatClampNeg = (-1)
      · simp only [if_pos c3, if_pos ((ft_B f2').mpr c3)]
        exact ⟨trivial, t2_no h 1 (f := 1) (by decide), fun z => absurd z (by decide)⟩
      · simp only [if_neg c3, if_neg (fun z => c3 ((ft_B f2').mp z))]
        by_cases c4 : C 1 r.toNatClampNeg < 1
        · simp only [if_pos c4, if_neg (fun z : (¬ (C 1 r.toNatClampNeg < 1)) ∧ (¬ (10 < C 1 r.toNatClampNeg)) => z.1 c4)]
          exact ⟨trivial, t2_no h 5 (f := 5) (by decide), fun z => absurd z (by decide)⟩
        · by_cases c5 : 10 < C 1 r.toNatClampNeg
          · simp only [if_neg c4, if_pos c5, if_neg (fun z : (¬ (C 1 r.toNatClampNeg < 1)) ∧ (¬ (10 < C 1 r.toNatClampNeg)) => z.2 c5)]
            exact ⟨trivial, t2_no h 5 (f := 5) (by decide), fun z => absurd z (by decide)⟩
          · simp only [if_neg c4, if_neg c5, if_pos (⟨c4, c5⟩ : (¬ (C 1 r.toNatClampNeg < 1)) ∧ (¬ (10 < C 1 r.toNatClampNeg)))]
            have key : ∀ n, n ≤ (C 1 r.toNatClampNeg).toNatClampNeg → (fx_ix (ls_68_55 r C) n () = .inr () ∧ fx_it (ls_170_42 r R) n 1 = 1) ∨ (fx_ix (ls_68_55 r C) n () = .inl (-3, fl_u (fl_u C 0 11 3) 80 3 (C 80 3 + 1)) ∧ fx_it (ls_170_42 r R) n 1 = 0) := by
              intro n
              induction n with
              | zero => intro _; exact Or.inl ⟨rfl, rfl⟩
              | succ n ih =>
                intro hn
                have em := fi_ti (m := n) (by omega)
                have en := fi_at (m := n) (by omega)
                have iI : (40 * r + Int32.ofNat n).toNatClampNeg = 40 * r.toNatClampNeg + n := by rw [fi_40 r0 r5 (by omega) (by omega), en]
                have dI := f4 n (by omega)
                have hB := ln_A (x := C 15 0) (l := C (3 + r.toNatClampNeg) n) a0.1 (by omega)
                rcases ih (by omega) with ⟨e1, e2⟩ | ⟨e1, e2⟩
                · by_cases d : (C (3 + r.toNatClampNeg) n < 0) ∨ (¬ (C (3 + r.toNatClampNeg) n < C 15 0))
                  · refine Or.inr ⟨ix_s1 e1 (by unfold ls_68_55; rw [en, fl_ar2, if_pos d]), ?_⟩
                    rw [fx_it_s, e2]
                    unfold ls_170_42
                    rw [if_neg (by decide), iI, ← dI, ← s1, if_neg (fun z => hB.mp z d)]
                  · refine Or.inl ⟨ix_s1 e1 (by unfold ls_68_55; rw [en, fl_ar2, if_neg d]), ?_⟩
                    rw [fx_it_s, e2]
                    unfold ls_170_42
                    rw [if_neg (by decide), iI, ← dI, ← s1, if_pos (hB.mpr d)]
                · refine Or.inr ⟨ix_l e1 (Nat.le_succ n), ?_⟩
                  rw [fx_it_s, e2]
                  unfold ls_170_42
                  rw [if_pos rfl]
            have lC : lr_68_55 r (C 1 r.toNatClampNeg) C = fx_ix (ls_68_55 r C) (C 1 r.toNatClampNeg).toNatClampNeg () := rfl
            have lR : lr_170_42 r 1 R = fx_it (ls_170_42 r R) (C 1 r.toNatClampNeg).toNatClampNeg 1 := by unfold lr_170_42 lq_170_42; rw [← f1]
            rw [lC, lR]
            rcases key _ (Nat.le_refl _) with ⟨e1, e2⟩ | ⟨e1, e2⟩
            · rw [e1, e2, if_neg (by decide), if_neg (by decide)]
              exact ⟨rfl, h, fun _ => ⟨rfl, rfl, ⟨i0, i2⟩, ⟨r0, r5⟩, hA.mpr c1, ft_A.mpr c2⟩⟩
            · rw [e1, e2, if_pos rfl, if_pos rfl]
              exact ⟨rfl, t2_no h 3 (f := 3) (by decide), fun z => absurd (show (-3 : Int32) = 0 from z) (by decide)⟩
theorem pl_p (h : t2 C R) (hf : f2 C R) (i r : Int32) : v_67 i r C = v_169 i r R ∧ t2 (if (v_68 i r C) = 0 then ((lr_67_19 i r 0 (m_68 i r C)).2) else (m_68 i r C)) (m_169 i r R) := by
  obtain ⟨p1, p2, p3⟩ := rf_p h hf i r
  unfold v_67 v_169 m_169
  by_cases c0 : v_68 i r C = 0
  · obtain ⟨q1, q2, ⟨i0, i2⟩, ⟨r0, r5⟩, qa, qb⟩ := p3 c0
    rw [if_pos qa, if_pos qb] at p1
    rw [c0] at p1
    simp only [if_pos c0, if_pos qa, if_pos qb, if_pos p1.symm]
    rw [q1, q2]
    obtain ⟨a0, a1, s1, s4, sd, d0, d4⟩ := tt_n h.1
    have n8 := tr_n h.1.1
    have ei := fi_cl i
    have key : (lr_67_19 i r 0 C).1 = (lr_169_35 i r 0 R).1 ∧ fC C (lr_67_19 i r 0 C).2 ∧ fR R (lr_169_35 i r 0 R).2 := by
      unfold lr_67_19 lr_169_35 lq_67_19 lq_169_35
      rw [← s1]
      refine it_r (f := ls_67_19 i r) (g := ls_169_35 i r) (fun m x y => x.1 = y.1 ∧ fC C x.2 ∧ fR R y.2) ⟨rfl, fun _ _ => rfl, ⟨fun _ _ => rfl, fun _ _ => rfl⟩⟩ (fun m x y hm hR => ?_)
      obtain ⟨xs, X⟩ := x
      obtain ⟨ys, Y⟩ := y
      obtain ⟨t1, t2', t3⟩ := hR
      dsimp only at t1 t2' t3
      subst t1
      have em := fi_ti (m := m) (by omega)
      have g0 := as_0 h.1 t2' t3
      obtain ⟨gk, gk1⟩ := as_k h.1 g0
      have iP : (3796 + i : Int32).toNatClampNeg = 3776 + 20 + i.toNatClampNeg := fj_nn (fj_pa (a := 3796) rfl (show i.toInt = (i.toNatClampNeg : Nat) by omega) (by omega))
      have g1 : aw (fR R) C (fl_u (m_23 24 15 X) 32 i.toNatClampNeg (Int32.ofNat m)) (fl_u (lr_160_2 Y) 82 (3776 + 20 + i.toNatClampNeg) (Int32.ofNat m)) := ⟨tr_up g0.1 (by rw [gk1]; exact i2) ⟨by omega, by rw [gk, em]; have := fi_cl (C 15 0); omega⟩, fC_t g0.2.1 (fun c hc => fl_un (by omega)), fR_t g0.2.2 (fun c hc => fl_un hc) (fun j hj => fl_uo (Or.inr (by omega)))⟩
      obtain ⟨w1, w2, w3⟩ := gr_1 (fo_R R) hf g1 (i := i) (r := r) i0 (by rw [fl_un (by decide), gk1]; exact i2) r0 r5
      unfold ls_67_19 ls_169_35
      dsimp only
      rw [iP, ← w1]
      by_cases c6 : v_69 i r (fl_u (m_23 24 15 X) 32 i.toNatClampNeg (Int32.ofNat m)) = 0
      · simp only [if_pos c6]
        exact ⟨Int32.or_zero.symm, w2, w3⟩
      · simp only [if_neg c6]
        exact ⟨trivial, w2, w3⟩
    exact ⟨key.1, as_t2 h key.2.1 key.2.2⟩
  · simp only [if_neg c0]
    have nz := c0
    rw [p1] at nz
    by_cases qa : (¬ (i < 0)) ∧ (¬ ((R 81 4) - 1 < i))
    · simp only [if_pos qa] at p1 p2 nz ⊢
      by_cases qb : (¬ (r < 0)) ∧ (¬ (5 < r))
      · simp only [if_pos qb] at p1 p2 nz ⊢
        simp only [if_neg nz]
        exact ⟨p1, p2⟩
      · simp only [if_neg qb] at p1 p2 ⊢
        exact ⟨p1, p2⟩
    · simp only [if_neg qa] at p1 p2 ⊢
      exact ⟨p1, p2⟩
end AW
