/-! Writes on both sides, and a year. -/
theorem fl_uo {M : fl_M} {a i c j : Nat} {v : Int32} (h : c ≠ a ∨ j ≠ i) : fl_u M a i v c j = M c j := by
  unfold fl_u
  rw [if_neg (fun z => by rcases h with h | h; exact h z.1; exact h z.2)]
theorem fl_us {M : fl_M} {a i : Nat} {v : Int32} : fl_u M a i v a i = v := by
  unfold fl_u
  rw [if_pos ⟨rfl, rfl⟩]
theorem tr_sc {T : Nat} {C R C' R' : fl_M} (h : tr_s T C R) (e0 : C' T 0 = C T 0) (e1 : C' T 1 = C T 1) (eC : ∀ k, (k = 1 ∨ k = 2 ∨ k = 5 ∨ k = 6) → C' (T + k) = C (T + k)) (r1 : R' 81 1 = R 81 1) (r4 : R' 81 4 = R 81 4) (eR : ∀ k, (83 ≤ k ∧ k ≤ 86) → R' k = R k) : tr_s T C' R' := by
  obtain ⟨s1, s2, s3, s4, s5, s6⟩ := h
  unfold tr_s
  rw [e0, e1, r1, r4, eC 1 (by omega), eC 2 (by omega), eC 5 (by omega), eC 6 (by omega), eR 83 (by omega), eR 84 (by omega), eR 85 (by omega), eR 86 (by omega)]
  exact ⟨s1, s2, s3, s4, s5, s6⟩
section RW
variable {T b : Nat} {C R : fl_M} {v : Int32}
theorem tr_n (h : tr T b C R) : (C T 0).toNatClampNeg ≤ 8 ∧ (C T 1).toNatClampNeg ≤ 4 := by
  have c1 := h.1.2.2.1
  have c2 := h.1.2.2.2.1
  rw [fi_cl, fi_cl]
  omega
theorem tr_ul (h : tr T b C R) {l : Nat} (hl : l < (C T 0).toNatClampNeg) (hv : 0 ≤ v.toInt ∧ v.toInt ≤ 40) : tr T b (fl_u C (T + 3) l v) (fl_u R 82 (b + 4 + l) v) := by
  have n8 := tr_n h
  have e0 : fl_u C (T + 3) l v T = C T := fl_un (by omega)
  refine ⟨tr_sc h.1 (by rw [e0]) (by rw [e0]) (fun k hk => fl_un (by omega)) (by rw [fl_un (by decide)]) (by rw [fl_un (by decide)]) (fun k hk => fl_un (by omega)), ?_⟩
  obtain ⟨d1, d2, d3, d4, d5, d6⟩ := h.2
  unfold tr_d
  rw [e0, fl_uo (c := 82) (j := b + 1) (Or.inr (by omega)), fl_uo (c := 82) (j := b + 2) (Or.inr (by omega)), fl_uo (c := 82) (j := b + 3) (Or.inr (by omega))]
  refine ⟨d1, d2, d3, fun k hk => ?_, fun k hk => ?_, fun k k1 k2 => by rw [fl_uo (Or.inr (by omega))]; exact d6 k k1 k2⟩
  · obtain ⟨q1, q2⟩ := d4 k hk
    refine ⟨?_, ?_⟩
    · by_cases hkl : k = l
      · subst hkl
        rw [fl_us, fl_us]
        exact ⟨rfl, hv⟩
      · rw [fl_uo (Or.inr hkl), fl_uo (Or.inr (by omega))]
        exact q1
    · rw [fl_uo (Or.inl (by omega)), fl_uo (Or.inr (by omega))]
      exact q2
  · rw [fl_uo (Or.inl (by omega)), fl_uo (Or.inr (by omega))]
    exact d5 k hk
theorem tr_uc (h : tr T b C R) {l : Nat} (hl : l < (C T 0).toNatClampNeg) (hv : 0 ≤ v.toInt ∧ v.toInt ≤ 20) : tr T b (fl_u C (T + 4) l v) (fl_u R 82 (b + 12 + l) v) := by
  have n8 := tr_n h
  have e0 : fl_u C (T + 4) l v T = C T := fl_un (by omega)
  refine ⟨tr_sc h.1 (by rw [e0]) (by rw [e0]) (fun k hk => fl_un (by omega)) (by rw [fl_un (by decide)]) (by rw [fl_un (by decide)]) (fun k hk => fl_un (by omega)), ?_⟩
  obtain ⟨d1, d2, d3, d4, d5, d6⟩ := h.2
  unfold tr_d
  rw [e0, fl_uo (c := 82) (j := b + 1) (Or.inr (by omega)), fl_uo (c := 82) (j := b + 2) (Or.inr (by omega)), fl_uo (c := 82) (j := b + 3) (Or.inr (by omega))]
  refine ⟨d1, d2, d3, fun k hk => ?_, fun k hk => ?_, fun k k1 k2 => by rw [fl_uo (Or.inr (by omega))]; exact d6 k k1 k2⟩
  · obtain ⟨q1, q2⟩ := d4 k hk
    refine ⟨?_, ?_⟩
    · rw [fl_uo (Or.inl (by omega)), fl_uo (Or.inr (by omega))]
      exact q1
    · by_cases hkl : k = l
      · subst hkl
        rw [fl_us, fl_us]
        exact ⟨rfl, hv⟩
      · rw [fl_uo (Or.inr hkl), fl_uo (Or.inr (by omega))]
        exact q2
  · rw [fl_uo (Or.inl (by omega)), fl_uo (Or.inr (by omega))]
    exact d5 k hk
theorem tr_up (h : tr T b C R) {i : Nat} (hi : i < (C T 1).toNatClampNeg) (hv : 0 ≤ v.toInt ∧ v.toInt < (C T 0).toInt) : tr T b (fl_u C (T + 8) i v) (fl_u R 82 (b + 20 + i) v) := by
  have n8 := tr_n h
  have e0 : fl_u C (T + 8) i v T = C T := fl_un (by omega)
  refine ⟨tr_sc h.1 (by rw [e0]) (by rw [e0]) (fun k hk => fl_un (by omega)) (by rw [fl_un (by decide)]) (by rw [fl_un (by decide)]) (fun k hk => fl_un (by omega)), ?_⟩
  obtain ⟨d1, d2, d3, d4, d5, d6⟩ := h.2
  unfold tr_d
  rw [e0, fl_uo (c := 82) (j := b + 1) (Or.inr (by omega)), fl_uo (c := 82) (j := b + 2) (Or.inr (by omega)), fl_uo (c := 82) (j := b + 3) (Or.inr (by omega))]
  refine ⟨d1, d2, d3, fun k hk => ?_, fun k hk => ?_, fun k k1 k2 => by rw [fl_uo (Or.inr (by omega))]; exact d6 k k1 k2⟩
  · rw [fl_uo (Or.inl (by omega)), fl_uo (Or.inr (by omega)), fl_uo (Or.inl (by omega)), fl_uo (Or.inr (by omega))]
    exact d4 k hk
  · by_cases hkl : k = i
    · subst hkl
      rw [fl_us, fl_us]
      exact ⟨rfl, hv⟩
    · rw [fl_uo (Or.inr hkl), fl_uo (Or.inr (by omega))]
      exact d5 k hk
/-- the year, the cat, the wax -/
theorem tr_u0 (h : tr T b C R) {k : Nat} (hk : k < 3) : tr T b (fl_u C T (k + 2) v) (fl_u R 82 (b + (k + 1)) v) := by
  have n8 := tr_n h
  have e0 : fl_u C T (k + 2) v T 0 = C T 0 := fl_uo (Or.inr (by omega))
  have e1 : fl_u C T (k + 2) v T 1 = C T 1 := fl_uo (Or.inr (by omega))
  refine ⟨tr_sc h.1 e0 e1 (fun k hk => fl_un (by omega)) (by rw [fl_un (by decide)]) (by rw [fl_un (by decide)]) (fun k hk => fl_un (by omega)), ?_⟩
  obtain ⟨d1, d2, d3, d4, d5, d6⟩ := h.2
  unfold tr_d
  rw [e0, e1]
  have w : ∀ q, q < 3 → C T (q + 2) = R 82 (b + (q + 1)) → fl_u C T (k + 2) v T (q + 2) = fl_u R 82 (b + (k + 1)) v 82 (b + (q + 1)) := by
    intro q hq e
    by_cases hqk : q = k
    · subst hqk
      rw [fl_us, fl_us]
    · rw [fl_uo (Or.inr (by omega)), fl_uo (Or.inr (by omega))]
      exact e
  refine ⟨w 0 (by omega) d1, w 1 (by omega) d2, w 2 (by omega) d3, fun k hk => ?_, fun k hk => ?_, fun k k1 k2 => by rw [fl_uo (Or.inr (by omega))]; exact d6 k k1 k2⟩
  · rw [fl_uo (Or.inl (by omega)), fl_uo (Or.inr (by omega)), fl_uo (Or.inl (by omega)), fl_uo (Or.inr (by omega))]
    exact d4 k hk
  · rw [fl_uo (Or.inl (by omega)), fl_uo (Or.inr (by omega))]
    exact d5 k hk
end RW
theorem fj_div {x y : Int32} (hx : 0 ≤ x.toInt) (hy : 0 < y.toInt) : (x / y).toInt = x.toInt / y.toInt := by
  have h1 := x.toInt_lt
  rw [Int32.toInt_div, Int.tdiv_eq_ediv_of_nonneg hx]
  have h2 : 0 ≤ x.toInt / y.toInt := Int.ediv_nonneg hx (by omega)
  have h3 : x.toInt / y.toInt ≤ x.toInt := Int.ediv_le_self _ hx
  exact fi_bm (by omega) (by omega)
/-- a mouse eats something -/
theorem v142_b {R : fl_M} {i : Int32} (h1 : 1 ≤ (R 86 i.toNatClampNeg).toInt) (h9 : (R 86 i.toNatClampNeg).toInt ≤ 9) : 1 ≤ (v_142 i R).toInt ∧ (v_142 i R).toInt ≤ 18 := by
  unfold v_142
  generalize R 86 i.toNatClampNeg = x at h1 h9
  have e2 : (2 * x).toInt = 2 * x.toInt := by rw [fi_mul (by rw [fj_2]; omega) (by rw [fj_2]; omega), fj_2]
  have e3 : (x / 2 + 1).toInt = x.toInt / 2 + 1 := by
    have e := fj_div (x := x) (y := 2) (by omega) (by decide)
    rw [fj_2] at e
    rw [fi_add (by rw [e, fi_i1]; omega) (by rw [e, fi_i1]; omega), e, fi_i1]
  repeat' split
  all_goals omega
section PY
variable {T b : Nat} {C R : fl_M} {bI : Int32}
theorem py_1 (h : tr T b C R) (hb : tr_b bI b) (s : Int32) : (lr_46_4 s 0 T C).1 = (lr_150_5 bI s 0 R).1 ∧ tr T b (lr_46_4 s 0 T C).2 (lr_150_5 bI s 0 R).2 := by
  unfold lr_46_4 lr_150_5 lq_46_4 lq_150_5
  rw [← h.1.2.1]
  have key := it_r (f := ls_46_4 s T) (g := ls_150_5 bI s) (n := (C T 1).toNatClampNeg) (a := (0, C)) (b := (0, R)) (fun m x y => x.1 = y.1 ∧ tr T b x.2 y.2 ∧ x.2 T = C T) ⟨rfl, h, rfl⟩ ?_
  · exact ⟨key.1, key.2.1⟩
  · intro m x y hm hR
    obtain ⟨xe, X⟩ := x
    obtain ⟨ye, Y⟩ := y
    obtain ⟨r1, r2, r3⟩ := hR
    dsimp only at r1 r2 r3
    subst r1
    have n8 := tr_n r2
    have em := fi_ti (m := m) (by rw [r3] at n8; omega)
    have en := fi_at (m := m) (by rw [r3] at n8; omega)
    have hi : (Int32.ofNat m).toNatClampNeg < (X T 1).toNatClampNeg := by rw [en, r3]; exact hm
    have h0 : 0 ≤ (Int32.ofNat m).toInt := by rw [em]; omega
    obtain ⟨w1, w2⟩ := wa_eq r2 hb h0 hi
    have dV := v35_eq r2 hi
    obtain ⟨-, -, -, dT⟩ := tr_m r2 hb h0 hi
    have bV : 1 ≤ (v_142 (Int32.ofNat m) Y).toInt ∧ (v_142 (Int32.ofNat m) Y).toInt ≤ 18 := by
      obtain ⟨-, -, t1, t2⟩ := r2.1.2.2.2.2.2 _ hi
      rw [← dT] at t1 t2
      exact v142_b t1 t2
    unfold ls_46_4 ls_150_5
    dsimp only
    rw [w1, dV]
    generalize (lr_134_9 bI (Int32.ofNat m) (-9) 0 Y).1 = w at w2
    by_cases c1 : s >>> (Int32.ofNat m &&& 31) &&& 1 = 1
    · rw [if_pos c1, if_pos c1]
      exact ⟨rfl, r2, r3⟩
    · rw [if_neg c1, if_neg c1]
      by_cases c2 : w = (-9)
      · rw [if_pos c2, if_pos c2]
        exact ⟨rfl, r2, r3⟩
      · rw [if_neg c2, if_neg c2]
        rcases w2 with w2 | ⟨w0, wl⟩
        · exact absurd w2 c2
        obtain ⟨l7, dL, -, -⟩ := tr_l r2 hb w0 wl
        obtain ⟨⟨-, L0, L4⟩, -⟩ := r2.2.2.2.2.1 _ wl
        have iL : (bI + 4 + w).toNatClampNeg = b + 4 + w.toNatClampNeg := tr_i2 hb (c := 4) fi_i4 (by decide) w0 (by omega)
        have iP : (bI + 20 + Int32.ofNat m).toNatClampNeg = b + 20 + m := by rw [tr_i2 hb (c := 20) fj_20 (by decide) h0 (by rw [em]; rw [r3] at n8; omega), en]
        have cl := fi_cl w
        have cT := fi_cl (X T 0)
        have eU : ∀ (j k : Nat) (z : Int32), fl_u X (T + 8) j z (T + 3) k = X (T + 3) k := fun j k z => fl_uo (Or.inl (by omega))
        rw [iL] at dL
        simp only [iL, iP, eU, en, dL]
        have cell : ∀ z z', fl_u (fl_u X (T + 8) m z) (T + 3) w.toNatClampNeg z' T = C T := fun z z' => by rw [fl_un (by omega), fl_un (by omega)]; exact r3
        have mk : ∀ z, 0 ≤ z.toInt ∧ z.toInt ≤ 40 → tr T b (fl_u (fl_u X (T + 8) m w) (T + 3) w.toNatClampNeg z) (fl_u (fl_u Y 82 (b + 4 + w.toNatClampNeg) z) 82 (b + 20 + m) w) := by
          intro z hz
          have g1 := tr_up r2 (i := m) (v := w) (by rw [r3]; exact hm) ⟨w0, by omega⟩
          have g2 := tr_ul g1 (l := w.toNatClampNeg) (v := z) (by rw [fl_un (by omega)]; exact wl) hz
          have sw : fl_u (fl_u Y 82 (b + 4 + w.toNatClampNeg) z) 82 (b + 20 + m) w = fl_u (fl_u Y 82 (b + 20 + m) w) 82 (b + 4 + w.toNatClampNeg) z := by
            funext c j
            unfold fl_u
            by_cases hc : c = 82
            · by_cases k1 : j = b + 20 + m
              · rw [if_pos ⟨hc, k1⟩, if_neg (fun z => by omega), if_pos ⟨hc, k1⟩]
              · rw [if_neg (fun z => k1 z.2), if_neg (c := c = 82 ∧ j = b + 20 + m) (fun z => k1 z.2)]
            · rw [if_neg (fun z => hc z.1), if_neg (fun z => hc z.1), if_neg (fun z => hc z.1), if_neg (fun z => hc z.1)]
          rw [sw]
          exact g2
        by_cases c3 : v_142 (Int32.ofNat m) Y < X (T + 3) w.toNatClampNeg
        · simp only [if_pos c3]
          rw [fi_l] at c3
          have eS : (X (T + 3) w.toNatClampNeg - v_142 (Int32.ofNat m) Y).toInt = (X (T + 3) w.toNatClampNeg).toInt - (v_142 (Int32.ofNat m) Y).toInt := fi_sub (by omega) (by omega)
          exact ⟨by first | rfl | trivial, mk _ (by rw [eS]; omega), cell _ _⟩
        · simp only [if_neg c3]
          have eS : (X (T + 3) w.toNatClampNeg - X (T + 3) w.toNatClampNeg).toInt = 0 := by rw [Int32.sub_self]; rfl
          exact ⟨by first | rfl | trivial, mk _ (by rw [eS]; omega), cell _ _⟩
theorem py_2 (h : tr T b C R) (hb : tr_b bI b) : tr T b (lr_46_100 T C) (lr_150_130 bI R) := by
  unfold lr_46_100 lr_150_130 lq_46_100 lq_150_130
  rw [← h.1.1]
  have key := it_r (f := ls_46_100 T) (g := ls_150_130 bI) (n := (C T 0).toNatClampNeg) (a := C) (b := R) (fun m X Y => tr T b X Y ∧ X T = C T) ⟨h, rfl⟩ ?_
  · exact key.1
  · intro m X Y hm hR
    obtain ⟨r2, r3⟩ := hR
    have n8 := tr_n r2
    rw [r3] at n8
    have em := fi_ti (m := m) (by omega)
    have en := fi_at (m := m) (by omega)
    have hl : (Int32.ofNat m).toNatClampNeg < (X T 0).toNatClampNeg := by rw [en, r3]; exact hm
    have h0 : 0 ≤ (Int32.ofNat m).toInt := by rw [em]; omega
    obtain ⟨-, -, dC, -⟩ := tr_l r2 hb h0 hl
    obtain ⟨-, -, C0, C2⟩ := r2.2.2.2.2.1 _ hl
    have iC : (bI + 12 + Int32.ofNat m).toNatClampNeg = b + 12 + m := by rw [tr_i2 hb (c := 12) fj_12 (by decide) h0 (by rw [em]; omega), en]
    unfold ls_46_100 ls_150_130
    rw [dC, iC, en]
    rw [en] at C0 C2
    generalize hc : X (T + 4) m = c at C0 C2
    have e1 : (c - 1).toInt = c.toInt - 1 := by rw [fi_sub (by rw [fi_i1]; omega) (by rw [fi_i1]; omega), fi_i1]
    have cell : ∀ z, fl_u X (T + 4) m z T = C T := fun z => by rw [fl_un (by omega)]; exact r3
    have mk : ∀ z, 0 ≤ z.toInt ∧ z.toInt ≤ 20 → tr T b (fl_u X (T + 4) m z) (fl_u Y 82 (b + 12 + m) z) := fun z hz => tr_uc r2 (by rw [r3]; exact hm) hz
    by_cases c0 : 0 < c
    · rw [if_pos c0]
      rw [fi_l, fi_i0] at c0
      by_cases c1 : 0 < c - 1
      · rw [if_pos c1]
        exact ⟨mk _ (by rw [e1]; omega), cell _⟩
      · rw [if_neg c1]
        rw [fi_l, fi_i0, e1] at c1
        have : c - 1 = 0 := by rw [fi_e, e1, fi_i0]; omega
        rw [this]
        exact ⟨mk _ (by decide), cell _⟩
    · rw [if_neg c0]
      rw [fi_l, fi_i0] at c0
      have z0 : c = 0 := by rw [fi_e, fi_i0]; omega
      rw [if_neg (fun z => by rw [fi_l, fi_i0, e1] at z; omega), z0, show (0 : Int32) - 0 = 0 from rfl]
      exact ⟨mk _ (by decide), cell _⟩
/-- a year passes on both sides alike -/
theorem py_eq (h : tr T b C R) (hb : tr_b bI b) (s : Int32) : (lr_46_4 s 0 T C).1 = (lr_150_5 bI s 0 R).1 ∧ tr T b (m_46 s T C) (m_150 bI s R) := by
  obtain ⟨e, g1⟩ := py_1 h hb s
  have g2 := py_2 g1 hb
  refine ⟨e, ?_⟩
  unfold m_46 m_150
  rw [tr_i1 hb (c := 1) fi_i1 (by decide), ← g2.2.1]
  exact tr_u0 (k := 0) g2 (by decide)
end PY
