/-! Counted; the digest. -/
section CO
variable {C R : fl_M}
theorem rt_11 (hf : f2 C R) : lr_96_10 0 (Int32.ofNat (fl_len 1)) 1 C = lr_196_4 11 0 R := by
  unfold lr_96_10 lr_196_4 lq_96_10 lq_196_4
  rw [show (Int32.ofNat (fl_len 1)).toNatClampNeg = 6 from rfl]
  refine it_c rfl (fun m q hm => ?_)
  have en := fi_at (m := m) (by omega)
  obtain ⟨f1, f3, -⟩ := hf.1 m hm
  unfold ls_96_10 ls_196_4
  rw [if_pos rfl, en, ← f1]
  by_cases c : C 1 m = -1
  · rw [if_pos c, if_pos ((ft_B f3).mpr c)]
  · rw [if_neg c, if_neg (fun z => c ((ft_B f3).mp z))]
theorem rt_12 (hf : f2 C R) : lr_96_10 0 (Int32.ofNat (fl_len 9)) 9 C = lr_196_4 12 0 R := by
  unfold lr_96_10 lr_196_4 lq_96_10 lq_196_4
  rw [show (Int32.ofNat (fl_len 9)).toNatClampNeg = 4 from rfl, show (6 : Nat) = 4 + 2 from rfl, it_ap (ls_196_4 12 R) 4 2 0 (fun k q h1 h2 => ?_)]
  · refine it_c rfl (fun m q hm => ?_)
    have en := fi_at (m := m) (by omega)
    have em := fi_ti (m := m) (by omega)
    obtain ⟨f1, f3, -⟩ := hf.2 m hm
    unfold ls_96_10 ls_196_4
    rw [if_neg (show ¬ (12 : Int32) = 11 by decide), if_pos (show (12 : Int32) = 12 from rfl), if_pos (show Int32.ofNat m < 4 by rw [fi_l, em, fi_i4]; omega), en, ← f1]
    by_cases c : C 9 m = -1
    · rw [if_pos c, if_pos ((ft_B f3).mpr c)]
    · rw [if_neg c, if_neg (fun z => c ((ft_B f3).mp z))]
  · have em := fi_ti (m := k) (by omega)
    unfold ls_196_4
    rw [if_neg (show ¬ (12 : Int32) = 11 by decide), if_pos (show (12 : Int32) = 12 from rfl), if_neg (show ¬ Int32.ofNat k < 4 by rw [fi_l, em, fi_i4]; omega), Int32.add_zero]
theorem kb_m {m : Nat} (hm : m < 3) : (944 * (1 + Int32.ofNat m) + 0 : Int32).toNatClampNeg = 944 + 944 * m := by
  have em := fi_ti (m := m) (by omega)
  have en := fi_at (m := m) (by omega)
  rw [Int32.add_zero, fj_nn (kb_i (k := Int32.ofNat m) (by omega) (by omega)), en]
theorem rt_13 (h : tt C R) {w : Int32} (n1 : ¬ w = 11) (n2 : ¬ w = 12) : lr_97_4 0 C = lr_196_4 w 0 R := by
  unfold lr_97_4 lr_196_4 lq_97_4 lq_196_4
  rw [show (6 : Nat) = 3 + 3 from rfl, it_ap (ls_196_4 w R) 3 3 0 (fun k q h1 h2 => ?_)]
  · refine it_c rfl (fun m q hm => ?_)
    have en := fi_at (m := m) (by omega)
    have em := fi_ti (m := m) (by omega)
    obtain ⟨k1, k2, -⟩ := h.2.2.2 m hm
    unfold ls_97_4 ls_196_4
    rw [if_neg n1, if_neg n2, if_pos (show Int32.ofNat m < 3 by rw [fi_l, em, fi_i3]; omega), en, ka_46, kb_m hm, ← k1]
    by_cases c : C (47 + 4 * m) 0 = -1
    · rw [if_pos c, if_pos ((ft_B k2).mpr c)]
    · rw [if_neg c, if_neg (fun z => c ((ft_B k2).mp z))]
  · have em := fi_ti (m := k) (by omega)
    unfold ls_196_4
    rw [if_neg n1, if_neg n2, if_neg (show ¬ Int32.ofNat k < 3 by rw [fi_l, em, fi_i3]; omega), Int32.add_zero]
theorem v94_eq (h : tt C R) (hf : f2 C R) (w : Int32) : v_94 w C = v_194 w R := by
  obtain ⟨a0, a1, s1, s4, sd, d0, d4⟩ := tt_n h
  have y2 : C 15 2 = R 82 1 := h.1.2.1
  have y3 : C 15 3 = R 82 2 := h.1.2.2.1
  have y4 : C 15 4 = R 82 3 := h.1.2.2.2.1
  unfold v_94 v_194
  rw [s1, s4, y2, sd, al_eq h.1 tr_b0, ea_eq h.1 tr_b0, y4, y3, cs_eq h.1, th_eq h.1 (kind := 2) (by decide), th_eq h.1 (kind := 3) (by decide), rt_11 hf, rt_12 hf]
  by_cases n1 : w = 11
  · subst n1
    simp only [if_neg (show ¬ (11 : Int32) = 0 by decide), if_neg (show ¬ (11 : Int32) = 1 by decide), if_neg (show ¬ (11 : Int32) = 2 by decide), if_neg (show ¬ (11 : Int32) = 3 by decide), if_neg (show ¬ (11 : Int32) = 4 by decide), if_neg (show ¬ (11 : Int32) = 5 by decide), if_neg (show ¬ (11 : Int32) = 6 by decide), if_neg (show ¬ (11 : Int32) = 7 by decide), if_neg (show ¬ (11 : Int32) = 8 by decide), if_neg (show ¬ (11 : Int32) = 9 by decide), if_neg (show ¬ (11 : Int32) = 10 by decide), if_true]
  · by_cases n2 : w = 12
    · subst n2
      simp only [if_neg (show ¬ (12 : Int32) = 0 by decide), if_neg (show ¬ (12 : Int32) = 1 by decide), if_neg (show ¬ (12 : Int32) = 2 by decide), if_neg (show ¬ (12 : Int32) = 3 by decide), if_neg (show ¬ (12 : Int32) = 4 by decide), if_neg (show ¬ (12 : Int32) = 5 by decide), if_neg (show ¬ (12 : Int32) = 6 by decide), if_neg (show ¬ (12 : Int32) = 7 by decide), if_neg (show ¬ (12 : Int32) = 8 by decide), if_neg (show ¬ (12 : Int32) = 9 by decide), if_neg (show ¬ (12 : Int32) = 10 by decide), if_neg (show ¬ (12 : Int32) = 11 by decide), if_true]
    · simp only [if_neg n1, if_neg n2]
      rw [rt_13 h n1 n2]
theorem cn_p (h : tt C R) (hf : f2 C R) (w : Int32) : v_93 w C = (if (¬ (w < 0)) ∧ (¬ (13 < w)) then v_194 w R else (-1)) := by
  have e : (w < 14) ↔ ¬ (13 < w) := by
    rw [fi_l, fi_l, show (14 : Int32).toInt = 14 from rfl, show (13 : Int32).toInt = 13 from rfl]
    omega
  unfold v_93
  by_cases c1 : w < 0
  · rw [if_pos c1, if_neg (fun z => z.1 c1)]
  · rw [if_neg c1]
    by_cases c2 : w < 14
    · rw [if_pos c2, if_pos ⟨c1, e.mp c2⟩, v94_eq h hf]
    · rw [if_neg c2, if_neg (fun z => c2 (e.mpr z.2))]
theorem fi_p (h : t2 C R) (f : Int32) : v_99 f C = v_198 f R := by
  unfold v_99 v_198
  by_cases c1 : f < 1
  · rw [if_pos c1, if_neg (fun z => z.1 c1)]
  · rw [if_neg c1]
    by_cases c2 : 5 < f
    · rw [if_pos c2, if_neg (fun z => z.2 c2)]
    · rw [if_neg c2, if_pos ⟨c1, c2⟩]
      have z := fi_ge.mp c2
      rw [fi_i5] at z
      exact h.2.2.2 _ (by rw [fi_cl]; omega)
/-- a loop of c n turns as n loops of c -/
theorem it_m {α : Type} (g : Nat → α → α) (c n : Nat) (a : α) : fx_it g (c * n) a = fx_it (fun m q => fx_it (fun j q => g (c * m + j) q) c q) n a := by
  have add : ∀ (k m : Nat), fx_it g (k + m) a = fx_it (fun j q => g (k + j) q) m (fx_it g k a) := by
    intro k m
    induction m with
    | zero => rfl
    | succ m ih => rw [← Nat.add_assoc, fx_it_s, fx_it_s, ih]
  induction n with
  | zero => rfl
  | succ n ih => rw [Nat.mul_succ, add, ih, fx_it_s]
theorem dm_e {c m j : Nat} {d : Int32} (hd : d.toInt = c) (h1 : j < c) (h2 : c * m + j < 1000) (h0 : 0 < c) : Int32.ofNat (c * m + j) / d = Int32.ofNat m ∧ Int32.ofNat (c * m + j) - Int32.ofNat (c * m + j) / d * d = Int32.ofNat j := by
  have hm : m ≤ c * m := by
    have := Nat.mul_le_mul_right m h0
    omega
  have e1 := fi_ti (m := c * m + j) (by omega)
  have e2 := fi_ti (m := m) (by omega)
  have e3 := fi_ti (m := j) (by omega)
  refine ⟨?_, ?_⟩
  · rw [fi_e, fj_div (by omega) (by omega), e1, e2, hd]
    have := Nat.mul_add_div h0 m j
    rw [Nat.div_eq_of_lt h1] at this
    omega
  · rw [fi_e, rm_32 (by omega) (by omega), e1, e3, hd]
    have := Nat.mul_add_mod c m j
    rw [Nat.mod_eq_of_lt h1] at this
    omega
theorem dg_p (h : t2 C R) (hf : f2 C R) : v_100 C = v_199 R := by
  obtain ⟨a0, a1, s1, s4, sd, d0, d4⟩ := tt_n h.1
  have n8 := tr_n h.1.1
  have g1 : ∀ x, lr_100_6 x C = lr_199_6 x R := fun x => by
    unfold lr_100_6 lr_199_6 lq_100_6 lq_199_6
    refine it_c rfl (fun m q _ => ?_)
    unfold ls_100_6 ls_199_6
    rw [v94_eq h.1 hf]
  have g2 : ∀ x, lr_100_33 x C = lr_199_33 x R := fun x => by
    unfold lr_100_33 lr_199_33 lq_100_33 lq_199_33
    have e6 : (6 * R 81 1 : Int32).toNatClampNeg = 6 * (C 15 0).toNatClampNeg := by
      rw [← s1, fi_cl, fi_mul (by rw [fi_i6]; omega) (by rw [fi_i6]; omega), fi_i6, fi_cl]
      omega
    rw [e6, it_m]
    refine it_c rfl (fun m q hm => ?_)
    have em := fi_ti (m := m) (by omega)
    have en := fi_at (m := m) (by omega)
    unfold ls_100_33 lr_100_47 lq_100_47
    refine it_c rfl (fun j q hj => ?_)
    obtain ⟨k1, k2⟩ := dm_e (c := 6) (m := m) (j := j) (d := 6) rfl hj (by omega) (by decide)
    unfold ls_100_47 ls_199_33
    rw [k1] at k2 ⊢
    rw [k2, v26_eq h.1 (l := Int32.ofNat m) (by omega) (by rw [en]; exact hm)]
  have g3 : ∀ x, lr_100_83 x C = lr_199_72 x R := fun x => by
    unfold lr_100_83 lr_199_72 lq_100_83 lq_199_72
    have e6 : (5 * R 81 4 : Int32).toNatClampNeg = 5 * (C 15 1).toNatClampNeg := by
      rw [← s4, fi_cl, fi_mul (by rw [fi_i5]; omega) (by rw [fi_i5]; omega), fi_i5, fi_cl]
      omega
    rw [e6, it_m]
    refine it_c rfl (fun m q hm => ?_)
    have em := fi_ti (m := m) (by omega)
    have en := fi_at (m := m) (by omega)
    unfold ls_100_83 lr_100_97 lq_100_97
    refine it_c rfl (fun j q hj => ?_)
    obtain ⟨k1, k2⟩ := dm_e (c := 5) (m := m) (j := j) (d := 5) rfl hj (by omega) (by decide)
    unfold ls_100_97 ls_199_72
    rw [k1] at k2 ⊢
    rw [k2, v34_eq h.1 (i := Int32.ofNat m) (by omega) (by rw [en]; exact hm)]
  have g4 : ∀ x, lr_100_132 x C = lr_199_108 x R := fun x => by
    unfold lr_100_132 lr_199_108 lq_100_132 lq_199_108
    refine it_c rfl (fun m q hm => ?_)
    have em := fi_ti (m := m) (by omega)
    have em1 := fi_ti (m := 1 + m) (by omega)
    have en := fi_at (m := m) (by omega)
    obtain ⟨k1, -⟩ := h.1.2.2.2 m hm
    have i1 : (Int32.ofNat (1 + m) : Int32) = 1 + Int32.ofNat m := by
      rw [fi_e, em1, fi_add (by rw [fi_i1]; omega) (by rw [fi_i1]; omega), fi_i1, em]
      omega
    unfold ls_100_132 ls_199_108
    rw [i1, kb_m hm, en, ka_46, k1]
  have g5 : ∀ x, lr_101_5 x C = lr_199_141 x R := fun x => by
    unfold lr_101_5 lr_199_141 lq_101_5 lq_199_141
    refine it_c rfl (fun m q hm => ?_)
    have em := fi_ti (m := m) (by omega)
    have en := fi_at (m := m) (by omega)
    obtain ⟨f1, f3, f4, f5⟩ := hf.1 m hm
    unfold ls_101_5 ls_199_141 lr_101_30 lr_199_164 lq_101_30 lq_199_164
    rw [en, ← f1]
    have ecn := fi_cl (C 1 m)
    refine it_c rfl (fun j q hj => ?_)
    have ej := fi_ti (m := j) (by omega)
    have enj := fi_at (m := j) (by omega)
    unfold ls_101_30 ls_199_164
    rw [fi_40 (r := Int32.ofNat m) (k := Int32.ofNat j) (by omega) (by omega) (by omega) (by omega), en, enj, fl_ar2, f5 j (by omega)]
  have g6 : ∀ x, lr_102_5 x C = lr_199_209 x R := fun x => by
    unfold lr_102_5 lr_199_209 lq_102_5 lq_199_209
    refine it_c rfl (fun m q hm => ?_)
    have em := fi_ti (m := m) (by omega)
    have en := fi_at (m := m) (by omega)
    obtain ⟨f1, f3, f4, f5⟩ := hf.2 m hm
    unfold ls_102_5 ls_199_209 lr_102_29 lr_199_231 lq_102_29 lq_199_231
    rw [en, ← f1]
    have ecn := fi_cl (C 9 m)
    refine it_c rfl (fun j q hj => ?_)
    have ej := fi_ti (m := j) (by omega)
    have enj := fi_at (m := j) (by omega)
    unfold ls_102_29 ls_199_231
    rw [fi_60 (r := Int32.ofNat m) (k := Int32.ofNat j) (by omega) (by omega) (by omega) (by omega), en, enj, fl_ar10, (f5 j (by omega)).1]
  unfold v_100 v_199
  rw [g1, g2, g3, g4, g5, g6]
end CO
