/-! Kinds; sets of lines. -/
theorem tr_uk {T b : Nat} {C R : fl_M} {v : Int32} (h : tr T b C R) {i : Nat} (hi : i < (C T 1).toNatClampNeg) : tr T b (fl_u C (T + 5) i v) (fl_u R 85 i v) := by
  have e0 : fl_u C (T + 5) i v T = C T := fl_un (by omega)
  obtain ⟨⟨s1, s2, s3, s4, s5, s6⟩, d1, d2, d3, d4, d5, d6⟩ := h
  refine ⟨?_, ?_⟩
  · unfold tr_s
    rw [e0, fl_un (c := 81) (by decide), fl_un (c := 83) (by decide), fl_un (c := 84) (by decide), fl_un (c := 86) (by decide), fl_un (c := T + 1) (by omega), fl_un (c := T + 2) (by omega), fl_un (c := T + 6) (by omega)]
    refine ⟨s1, s2, s3, s4, s5, fun k hk => ?_⟩
    obtain ⟨q1, q2⟩ := s6 k hk
    refine ⟨?_, q2⟩
    by_cases hkl : k = i
    · subst hkl
      rw [fl_us, fl_us]
    · rw [fl_uo (Or.inr hkl), fl_uo (Or.inr hkl)]
      exact q1
  · unfold tr_d
    rw [e0, fl_un (c := 82) (by decide), fl_un (c := T + 3) (by omega), fl_un (c := T + 4) (by omega), fl_un (c := T + 8) (by omega)]
    exact ⟨d1, d2, d3, d4, d5, d6⟩
/-- one mouse may be of another kind -/
def fK (i : Nat) (R b : fl_M) : Prop := (∀ c, c ≠ 82 → c ≠ 85 → b c = R c) ∧ (∀ j, j ≠ i → b 85 j = R 85 j) ∧ ∀ j, j < 3776 → b 82 j = R 82 j
theorem fo_K (i : Nat) (R : fl_M) : fo R (fK i R) := ⟨fun b b' h e e2 => ⟨fun c h1 h2 => by rw [e c h1, h.1 c h1 h2], fun j hj => by rw [e 85 (by decide), h.2.1 j hj], fun j hj => by rw [e2 j hj, h.2.2 j hj]⟩, fun b h => ⟨h.1 87 (by decide) (by decide), h.1 88 (by decide) (by decide)⟩⟩
theorem fK_R {i : Nat} {R b : fl_M} (h : fK i R b) : fR R (fl_u b 85 i (R 85 i)) := by
  refine ⟨fun c hc => ?_, fun j hj => by rw [fl_un (by decide)]; exact h.2.2 j hj⟩
  funext j
  by_cases h5 : c = 85
  · subst h5
    by_cases hj : j = i
    · subst hj
      rw [fl_us]
    · rw [fl_uo (Or.inr hj)]
      exact h.2.1 j hj
  · rw [fl_uo (Or.inl h5), h.1 c hc h5]
section KI
variable {C R a b : fl_M}
/-- tried with another kind -/
theorem ak_0 (ht : tt C R) (h1 : fC C a) {i : Nat} (hi : i < (C 15 1).toNatClampNeg) (h2 : fK i R b) (v : Int32) : aw (fK i R) C (fl_u (m_23 24 15 a) 29 i v) (lr_160_2 (fl_u b 85 i v)) ∧ m_23 24 15 a 24 1 = C 15 1 := by
  have g := as_tt ht h1 (fK_R h2)
  have t1 : tr 24 0 (m_23 24 15 a) (fl_u b 85 i (R 85 i)) := tk_rg (Or.inr (by omega)) g.1
  have k1 : m_23 24 15 a 24 1 = C 15 1 := by rw [t1.1.2.1, fl_un (by decide), h2.1 81 (by decide) (by decide), ← ht.1.1.2.1]
  have t2 := tr_uk (v := v) t1 (i := i) (by rw [k1]; exact hi)
  have e : fl_u (fl_u b 85 i (R 85 i)) 85 i v = fl_u b 85 i v := by
    funext c j
    unfold fl_u
    split <;> rfl
  rw [e] at t2
  refine ⟨⟨lt_rg t2, fC_t h1 (fun c hc => ?_), (fo_K i R).1 (fl_u b 85 i v) _ ⟨fun c h3 h4 => by rw [fl_un h4, h2.1 c h3 h4], fun j hj => by rw [fl_uo (Or.inr hj), h2.2.1 j hj], fun j hj => by rw [fl_un (by decide), h2.2.2 j hj]⟩ (fun c hc => by funext j; exact fw_160 hc) (fun j hj => by rw [lt_eq, if_neg (by omega)])⟩, k1⟩
  rw [fl_un (by omega)]
  funext j
  exact fr_23 (by omega)
theorem kb_e (ht : tt C R) (hf : f2 C R) {i r : Int32} (i0 : 0 ≤ i.toInt) (i2 : i.toNatClampNeg < (C 15 1).toNatClampNeg) (r0 : 0 ≤ r.toInt) (r5 : r.toInt ≤ 5) : (lr_71_5 i r 0 C).1 = (lr_173_13 i r 0 R).1 ∧ fC C (lr_71_5 i r 0 C).2 ∧ fK i.toNatClampNeg R (lr_173_13 i r 0 R).2 := by
  unfold lr_71_5 lr_173_13 lq_71_5 lq_173_13
  refine it_r (f := ls_71_5 i r) (g := ls_173_13 i r) (fun m x y => x.1 = y.1 ∧ fC C x.2 ∧ fK i.toNatClampNeg R y.2) ⟨rfl, fun _ _ => rfl, ⟨fun _ _ _ => rfl, fun _ _ => rfl, fun _ _ => rfl⟩⟩ (fun m x y hm hR => ?_)
  obtain ⟨xs, X⟩ := x
  obtain ⟨ys, Y⟩ := y
  obtain ⟨t1, t2', t3⟩ := hR
  dsimp only at t1 t2' t3
  subst t1
  obtain ⟨g1, k1⟩ := ak_0 ht t2' i2 t3 (Int32.ofNat m)
  obtain ⟨w1, w2, w3⟩ := gr_1 (fo_K _ R) hf g1 (i := i) (r := r) i0 (by rw [fl_un (by decide), k1]; exact i2) r0 r5
  unfold ls_71_5 ls_173_13
  dsimp only
  rw [← w1]
  by_cases c6 : v_69 i r (fl_u (m_23 24 15 X) 29 i.toNatClampNeg (Int32.ofNat m)) = 0
  · simp only [if_pos c6]
    exact ⟨Int32.or_zero.symm, w2, w3⟩
  · simp only [if_neg c6]
    exact ⟨trivial, w2, w3⟩
theorem kn_p (h : t2 C R) (hf : f2 C R) (i r : Int32) : v_70 i r C = v_172 i r R ∧ t2 (if (v_68 i r C) = 0 then ((lr_71_5 i r 0 (m_68 i r C)).2) else (m_68 i r C)) (m_172 i r R) := by
  obtain ⟨p1, p2, p3⟩ := rf_p h hf i r
  unfold v_70 v_172 m_172
  by_cases c0 : v_68 i r C = 0
  · obtain ⟨q1, q2, ⟨i0, i2⟩, ⟨r0, r5⟩, qa, qb⟩ := p3 c0
    rw [if_pos qa, if_pos qb] at p1
    rw [c0] at p1
    simp only [if_pos c0, if_pos qa, if_pos qb, if_pos p1.symm]
    rw [q1, q2]
    obtain ⟨k1, k2, k3⟩ := kb_e h.1 hf i0 i2 r0 r5
    exact ⟨k1, as_t2 h k2 (fK_R k3)⟩
  · simp only [if_neg c0]
    have nz := c0
    rw [p1] at nz
    by_cases qa : (¬ (i < 0)) ∧ (¬ ((R 81 4) - 1 < i))
    · simp only [if_pos qa] at p1 p2 nz ⊢
      by_cases qb : (¬ (r < 0)) ∧ (¬ (5 < r))
      · simp only [if_pos qb] at p1 p2 nz ⊢
        simp only [if_neg nz]
        exact ⟨p1, p2⟩
      · simp only [if_neg qb] at p1 p2 ⊢
        exact ⟨p1, p2⟩
    · simp only [if_neg qa] at p1 p2 ⊢
      exact ⟨p1, p2⟩
/-- how many are left in a set of lines -/
theorem lf_eq (h : tr 15 0 C R) (s : Int32) : lr_77_4 s 0 15 C = lr_178_4 s 0 R := by
  unfold lr_77_4 lr_178_4 lq_77_4 lq_178_4
  rw [← h.1.1]
  have n8 := tr_n h
  refine it_c rfl (fun m q hm => ?_)
  have em := fi_ti (m := m) (by omega)
  have en := fi_at (m := m) (by omega)
  obtain ⟨-, d1, -⟩ := tr_l h tr_b0 (l := Int32.ofNat m) (by omega) (by rw [en]; exact hm)
  have e4 : (0 + 4 + Int32.ofNat m : Int32) = 4 + Int32.ofNat m := by rw [Int32.zero_add]
  rw [e4] at d1
  unfold ls_77_4 ls_178_4
  rw [d1]
end KI
theorem bit_k {x : Int32} (h0 : 0 ≤ x.toInt) (h8 : x.toInt ≤ 8) : (((1 : Int32) <<< (x &&& 31)) - 1).toInt = 2 ^ x.toInt.toNat - 1 ∧ ((1 : Int32) <<< (x &&& 31)).toInt = 2 ^ x.toInt.toNat := by
  have : x = 0 ∨ x = 1 ∨ x = 2 ∨ x = 3 ∨ x = 4 ∨ x = 5 ∨ x = 6 ∨ x = 7 ∨ x = 8 := by
    simp only [fi_e, fi_i0, fi_i1, fj_2, fi_i3, fi_i4, fi_i5, fi_i6, show (7 : Int32).toInt = 7 from rfl, fj_8]
    omega
  rcases this with rfl | rfl | rfl | rfl | rfl | rfl | rfl | rfl | rfl <;> exact ⟨by decide, by decide⟩
theorem bit_b {x : Int32} (h0 : 0 ≤ x.toInt) (h8 : x.toInt ≤ 8) : 0 ≤ (((1 : Int32) <<< (x &&& 31)) - 1).toInt ∧ (((1 : Int32) <<< (x &&& 31)) - 1).toInt ≤ 255 ∧ ((1 : Int32) <<< (x &&& 31)).toInt = (((1 : Int32) <<< (x &&& 31)) - 1).toInt + 1 := by
  have : x = 0 ∨ x = 1 ∨ x = 2 ∨ x = 3 ∨ x = 4 ∨ x = 5 ∨ x = 6 ∨ x = 7 ∨ x = 8 := by
    simp only [fi_e, fi_i0, fi_i1, fj_2, fi_i3, fi_i4, fi_i5, fi_i6, show (7 : Int32).toInt = 7 from rfl, fj_8]
    omega
  rcases this with rfl | rfl | rfl | rfl | rfl | rfl | rfl | rfl | rfl <;> exact ⟨by decide, by decide, by decide⟩
