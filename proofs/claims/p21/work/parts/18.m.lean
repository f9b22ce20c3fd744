/-! The least cheese that saves a line. -/
theorem wp_p {T : Nat} {M : fl_M} {i : Int32} (h8 : (M T 0).toInt ≤ 8) : (lr_28_11 i (-9) 0 0 T M).1 = (-9) ∨ 0 < M (T + 3) (lr_28_11 i (-9) 0 0 T M).1.toNatClampNeg := by
  unfold lr_28_11 lq_28_11
  have e1 := fi_cl (M T 0)
  refine it_p (f := ls_28_11 i T M) (n := (M T 0).toNatClampNeg) (a := (-9, 0, 0)) (fun m q => q.1 = (-9) ∨ 0 < M (T + 3) q.1.toNatClampNeg) (Or.inl rfl) (fun m q hm hq => ?_)
  unfold ls_28_11
  by_cases c : (0 < (M (T + 3) (Int32.ofNat m).toNatClampNeg)) ∧ (((((M T 4) >>> ((Int32.ofNat m) &&& 31)) &&& 1) = 0) ∧ (¬ ((M T 3) = (Int32.ofNat m))))
  · rw [if_pos c]
    (repeat' split) <;> first | exact hq | exact Or.inr c.1
  · rw [if_neg c]
    exact hq
/-- a line eaten up stays so -/
theorem z_y {T l : Nat} {M : fl_M} {s : Int32} (h8 : (M T 0).toInt ≤ 8) (hz : ¬ 0 < M (T + 3) l) : m_46 s T M (T + 3) l = M (T + 3) l := by
  unfold m_46
  rw [fl_uo (Or.inl (by omega)), st_46_100 (by omega)]
  unfold lr_46_4 lq_46_4
  have key := it_k (f := ls_46_4 s T) (n := (M T 1).toNatClampNeg) (a := (0, M)) (fun q : Int32 × fl_M => q.2 (T + 3) l = M (T + 3) l ∧ q.2 T 0 = M T 0) ⟨rfl, rfl⟩ (fun m q hq => ?_)
  · exact key.1
  · obtain ⟨q1, q2⟩ := hq
    have w := wp_p (T := T) (M := q.2) (i := Int32.ofNat m) (by rw [q2]; exact h8)
    unfold ls_46_4
    generalize (lr_28_11 (Int32.ofNat m) (-9) 0 0 T q.2).1 = w' at w
    split
    · exact ⟨q1, q2⟩
    · split
      · exact ⟨q1, q2⟩
      · rename_i c1 c2
        have wl : w'.toNatClampNeg ≠ l := fun z => by
          rcases w with w | w
          · exact c2 w
          · rw [z, q1] at w
            exact hz w
        dsimp only
        rw [fl_uo (Or.inr (fun z => wl z.symm)), fl_uo (Or.inl (by omega)), fl_uo (Or.inl (by omega)), fl_uo (Or.inl (by omega))]
        exact ⟨q1, q2⟩
section SV
variable {C R a b : fl_M}
/-- the class leaves off once the line is eaten up -/
theorem sv_e {l y : Int32} {a : fl_M} (h8 : (a 24 0).toInt ≤ 8) : (0 < lr_64_28 l y a 27 l.toNatClampNeg) ↔ (0 < lr_59_2 y 24 a 27 l.toNatClampNeg) := by
  unfold lr_64_28 lr_59_2 lq_64_28 lq_59_2
  have key : ∀ n, (∀ x, fx_ix (ls_64_28 l) n a = .inr x → x = fx_it (ls_59_2 24) n a) ∧ (∀ x, fx_ix (ls_64_28 l) n a = .inl x → ¬ 0 < x 27 l.toNatClampNeg ∧ ¬ 0 < fx_it (ls_59_2 24) n a 27 l.toNatClampNeg) ∧ (fx_it (ls_59_2 24) n a 24 0 = a 24 0) := by
    intro n
    induction n with
    | zero => exact ⟨(fun x hx => by cases hx; rfl), (fun x hx => by cases hx), rfl⟩
    | succ n ih =>
      obtain ⟨i1, i2, i3⟩ := ih
      have st : fx_it (ls_59_2 24) (n + 1) a = m_46 0 24 (fx_it (ls_59_2 24) n a) := by rw [fx_it_s]; rfl
      have k0 : fx_it (ls_59_2 24) (n + 1) a 24 0 = a 24 0 := by rw [st, st_46 (by omega) (by omega) (by omega) (by omega), i3]
      have zz : ¬ 0 < fx_it (ls_59_2 24) n a 27 l.toNatClampNeg → ¬ 0 < fx_it (ls_59_2 24) (n + 1) a 27 l.toNatClampNeg := fun hz => by
        rw [st, show (27 : Nat) = 24 + 3 from rfl, z_y (by rw [i3]; exact h8) hz]
        exact hz
      refine ⟨fun x hx => ?_, fun x hx => ?_, k0⟩
      · obtain ⟨q, h1, h2⟩ := ix_s hx
        have e := i1 q h1
        unfold ls_64_28 at h2
        split at h2
        · cases h2
          rw [st, e]
        · cases h2
      · cases hc : fx_ix (ls_64_28 l) n a with
        | inl c =>
          have e := ix_l hc (Nat.le_succ n)
          rw [e] at hx
          cases hx
          obtain ⟨j1, j2⟩ := i2 _ hc
          exact ⟨j1, zz j2⟩
        | inr q =>
          have e := i1 q hc
          have h2 := ix_s1 hc (f := ls_64_28 l) rfl
          rw [h2] at hx
          unfold ls_64_28 at hx
          split at hx
          · cases hx
          · rename_i c1
            cases hx
            rw [e] at c1
            exact ⟨by rw [e]; exact c1, zz c1⟩
  obtain ⟨k1, k2, -⟩ := key y.toNatClampNeg
  cases hc : fx_ix (ls_64_28 l) y.toNatClampNeg a with
  | inl c =>
    obtain ⟨j1, j2⟩ := k2 c hc
    exact ⟨fun z => absurd z j1, fun z => absurd z j2⟩
  | inr c =>
    have e := k1 c hc
    unfold fx_ib
    dsimp only
    rw [e]
/-- whether a line is saved so, on both sides -/
theorem sv_1 (ht : tt C R) (h1 : fC C a) (h2 : fR R b) {l n ot mo : Int32} (l0 : 0 ≤ l.toInt) (l1 : l.toNatClampNeg < (C 15 0).toNatClampNeg) (o0 : 0 ≤ ot.toInt) (o1 : ot.toNatClampNeg < (C 15 0).toNatClampNeg) (hm : 0 ≤ mo.toInt ∧ (C 19 ot.toNatClampNeg).toInt + mo.toInt ≤ 20) : v_64 l n ot mo a = v_166 l n ot mo b ∧ fC C (m_64 l n ot mo a) ∧ fR R (m_166 n ot mo b) := by
  have g := as_0 ht h1 h2
  obtain ⟨gk, -⟩ := as_k ht g
  have n8 := as_n g
  obtain ⟨o7, -, dC, -⟩ := tr_l g.1 tr_bt (l := ot) o0 (by rw [gk]; exact o1)
  have ecl := fi_cl ot
  have iC : (3788 + ot).toNatClampNeg = 3788 + ot.toNatClampNeg := fj_nn (fj_pa (a := 3788) rfl (show ot.toInt = (ot.toNatClampNeg : Nat) by omega) (by omega))
  have iD : (3776 + 12 + ot : Int32).toNatClampNeg = 3788 + ot.toNatClampNeg := iC
  rw [iD] at dC
  have dC : lr_160_2 b 82 (3788 + ot.toNatClampNeg) = m_23 24 15 a 28 ot.toNatClampNeg := dC
  have e19 : m_23 24 15 a 28 ot.toNatClampNeg = C 19 ot.toNatClampNeg := by
    have t0 := ht.1.2.2.2.2.1 _ o1
    have f1 := lt_eq b 82 (3788 + ot.toNatClampNeg)
    rw [if_pos ⟨rfl, by omega, by omega⟩] at f1
    rw [← dC, f1, show 0 + (3788 + ot.toNatClampNeg - 3776) = 12 + ot.toNatClampNeg by omega, h2.2 _ (by omega)]
    have z := t0.2.1
    rw [Nat.zero_add] at z
    exact z.symm
  have bC := (ht.1.2.2.2.2.1 _ o1).2.2
  have bC : 0 ≤ (C 19 ot.toNatClampNeg).toInt ∧ (C 19 ot.toNatClampNeg).toInt ≤ 20 := bC
  have es : (m_23 24 15 a 28 ot.toNatClampNeg + mo).toInt = (C 19 ot.toNatClampNeg).toInt + mo.toInt := by rw [e19, fi_add (by omega) (by omega)]
  have g1 : as C R (fl_u (m_23 24 15 a) 28 ot.toNatClampNeg (m_23 24 15 a 28 ot.toNatClampNeg + mo)) (fl_u (lr_160_2 b) 82 (3788 + ot.toNatClampNeg) (m_23 24 15 a 28 ot.toNatClampNeg + mo)) := ⟨tr_uc g.1 (by rw [gk]; exact o1) (by rw [es]; omega), fC_t g.2.1 (fun c hc => fl_un (by omega)), fR_t g.2.2 (fun c hc => fl_un hc) (fun j hj => fl_uo (Or.inr (by omega)))⟩
  have g2 := as_ys g1 n
  have k2 := (as_k ht g2).1
  have el := as_l g2 l0 l1 k2
  have k1 := (as_k ht g1).1
  have n81 : (fl_u (m_23 24 15 a) 28 ot.toNatClampNeg (m_23 24 15 a 28 ot.toNatClampNeg + mo) 24 0).toInt ≤ 8 := by rw [k1]; exact ht.1.1.2.2.1.2
  have sv := sv_e (l := l) (y := n) n81
  have hm6 : m_166 n ot mo b = lr_161_2 n (fl_u (lr_160_2 b) 82 (3788 + ot.toNatClampNeg) (m_23 24 15 a 28 ot.toNatClampNeg + mo)) := by unfold m_166; rw [iC, dC]
  refine ⟨?_, ?_, ?_⟩
  · unfold v_64 v_166
    rw [iC, dC, el]
    by_cases c : 0 < lr_59_2 n 24 (fl_u (m_23 24 15 a) 28 ot.toNatClampNeg (m_23 24 15 a 28 ot.toNatClampNeg + mo)) 27 l.toNatClampNeg
    · rw [if_pos c, if_pos (sv.mpr c)]
    · rw [if_neg c, if_neg (fun z => c (sv.mp z))]
  · exact fC_t h1 (fun c hc => by funext j; exact fr_64 (by omega))
  · rw [hm6]
    exact g2.2.2
theorem sa_p (h : t2 C R) (l n : Int32) : v_63 l n C = v_165 l n R ∧ t2 (m_63 l n C) (m_165 l n R) := by
  obtain ⟨a0, a1, s1, s4, sd, d0, d4⟩ := tt_n h.1
  have hA := ln_A (x := C 15 0) (l := l) a0.1 (by omega)
  unfold v_63 v_165 m_63 m_165
  rw [← s1]
  by_cases c1 : (l < 0) ∨ (¬ (l < (C 15 0)))
  · simp only [if_pos c1, if_neg (fun z => hA.mp z c1)]
    exact ⟨trivial, h⟩
  · simp only [if_neg c1, if_pos (hA.mpr c1)]
    obtain ⟨l0, l1, l2⟩ := ln_R c1
    by_cases c2 : n < 1
    · simp only [if_pos c2, if_neg (fun z : (¬ (n < 1)) ∧ (¬ (20 < n)) => z.1 c2)]
      exact ⟨trivial, h⟩
    · by_cases c3 : 20 < n
      · simp only [if_neg c2, if_pos c3, if_neg (fun z : (¬ (n < 1)) ∧ (¬ (20 < n)) => z.2 c3)]
        exact ⟨trivial, h⟩
      · simp only [if_neg c2, if_neg c3, if_pos (⟨c2, c3⟩ : (¬ (n < 1)) ∧ (¬ (20 < n)))]
        have bl := (h.1.1.2.2.2.2.1 _ l2).2.2
        have bl : 0 ≤ (C 19 l.toNatClampNeg).toInt ∧ (C 19 l.toNatClampNeg).toInt ≤ 20 := bl
        obtain ⟨v0, f0, r0⟩ := sv_1 h.1 (a := C) (b := R) (fun _ _ => rfl) ⟨fun _ _ => rfl, fun _ _ => rfl⟩ (l := l) (n := n) (ot := l) (mo := 0) l0 l2 l0 l2 (by rw [fi_i0]; omega)
        rw [← v0]
        by_cases c4 : v_64 l n l 0 C = 0
        · simp only [if_pos c4]
          have inner : ∀ (i3 : Int32) (x y : fl_M), 1 ≤ i3.toInt → i3.toInt ≤ 20 → fC C x → fR R y → (∃ c d, lr_63_52 l n i3 x = .inl c ∧ lr_165_52 l n i3 y = .inl d ∧ (c.1 = d.1 ∧ t2 c.2 d.2)) ∨ (∃ x' y', lr_63_52 l n i3 x = .inr x' ∧ lr_165_52 l n i3 y = .inr y' ∧ (fC C x' ∧ fR R y')) := by
            intro i3 x y b1 b2 hx hy
            unfold lr_63_52 lr_165_52 lq_63_52 lq_165_52
            have ex : x 15 0 = C 15 0 := by rw [hx 15 (by omega)]
            have ey : y 81 1 = C 15 0 := by rw [hy.1 81 (by decide), s1]
            rw [ex, ey]
            refine ix_2 (fun _ u v => fC C u ∧ fR R v) (fun (c d : Int32 × fl_M) => c.1 = d.1 ∧ t2 c.2 d.2) ⟨hx, hy⟩ (fun m u v hm hR => ?_)
            obtain ⟨hu, hv⟩ := hR
            have n8 := tr_n h.1.1
            have em := fi_ti (m := m) (by omega)
            have en := fi_at (m := m) (by omega)
            have i12 : (12 + Int32.ofNat m : Int32).toNatClampNeg = 12 + m := fj_nn (fj_pa (a := 12) rfl em (by omega))
            have dm := h.1.1.2.2.2.2.1 m hm
            have ec : v 82 (12 + m) = C 19 m := by
              rw [hv.2 _ (by omega)]
              have z := dm.2.1
              rw [Nat.zero_add] at z
              exact z.symm
            have bm : 0 ≤ (C 19 m).toInt ∧ (C 19 m).toInt ≤ 20 := dm.2.2
            unfold ls_63_52 ls_165_52
            rw [i12, ec, en, hu 19 (by omega)]
            by_cases d1 : Int32.ofNat m = l
            · rw [if_pos d1, if_pos d1]
              exact Or.inr ⟨_, _, rfl, rfl, hu, hv⟩
            · rw [if_neg d1, if_neg d1]
              have es : (C 19 m + i3).toInt = (C 19 m).toInt + i3.toInt := fi_add (by omega) (by omega)
              have e21 : (C 19 m + i3 < 21) ↔ ¬ (20 < C 19 m + i3) := by
                rw [fi_l, fi_l, fj_20, show (21 : Int32).toInt = 21 from rfl]
                omega
              by_cases d2 : 20 < C 19 m + i3
              · rw [if_pos d2, if_neg (fun z => e21.mp z d2)]
                exact Or.inr ⟨_, _, rfl, rfl, hu, hv⟩
              · rw [if_neg d2, if_pos (e21.mpr d2)]
                have d2' := fi_ge.mp d2
                rw [fj_20, es] at d2'
                obtain ⟨w0, w1, w2⟩ := sv_1 h.1 hu hv (l := l) (n := n) (ot := Int32.ofNat m) (mo := i3) l0 l2 (by omega) (by rw [en]; exact hm) (by rw [en]; omega)
                rw [← w0]
                by_cases d3 : v_64 l n (Int32.ofNat m) i3 u = 0
                · rw [if_pos d3, if_pos d3]
                  exact Or.inr ⟨_, _, rfl, rfl, w1, w2⟩
                · rw [if_neg d3, if_neg d3]
                  exact Or.inl ⟨_, _, rfl, rfl, rfl, t2_tell (as_t2 h w1 w2) rfl⟩
          have outer : (∃ c d, lr_63_43 l n (m_64 l n l 0 C) = .inl c ∧ lr_165_43 l n (m_166 n l 0 R) = .inl d ∧ (c.1 = d.1 ∧ t2 c.2 d.2)) ∨ (∃ x' y', lr_63_43 l n (m_64 l n l 0 C) = .inr x' ∧ lr_165_43 l n (m_166 n l 0 R) = .inr y' ∧ (fC C x' ∧ fR R y')) := by
            unfold lr_63_43 lr_165_43 lq_63_43 lq_165_43
            refine ix_2 (fun _ u v => fC C u ∧ fR R v) (fun (c d : Int32 × fl_M) => c.1 = d.1 ∧ t2 c.2 d.2) ⟨f0, r0⟩ (fun m u v hm hR => ?_)
            have em := fi_ti (m := 1 + m) (by omega)
            unfold ls_63_43 ls_165_43
            rcases inner (Int32.ofNat (1 + m)) u v (by omega) (by omega) hR.1 hR.2 with ⟨c, d, e1, e2, q1, q2⟩ | ⟨x', y', e1, e2, q⟩
            · rw [e1, e2]
              exact Or.inl ⟨_, _, rfl, rfl, q1, q2⟩
            · rw [e1, e2]
              exact Or.inr ⟨_, _, rfl, rfl, q⟩
          rcases outer with ⟨c, d, e1, e2, q1, q2⟩ | ⟨x', y', e1, e2, q1, q2⟩
          · rw [e1, e2]
            exact ⟨q1, q2⟩
          · rw [e1, e2]
            exact ⟨rfl, as_t2 h q1 q2⟩
        · simp only [if_neg c4]
          exact ⟨trivial, t2_tell (as_t2 h f0 r0) rfl⟩
end SV
