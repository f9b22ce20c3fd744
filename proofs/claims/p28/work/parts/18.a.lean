/-! Both sides' registers tied: a register of the class (its cells from T on, in the memory C) and one of the reference (its place b in the row 82, in the memory R). -/
def tr_s (T : Nat) (C R : fl_M) : Prop := C T 0 = R 81 1 ∧ C T 1 = R 81 4 ∧ (0 ≤ (C T 0).toInt ∧ (C T 0).toInt ≤ 8) ∧ (0 ≤ (C T 1).toInt ∧ (C T 1).toInt ≤ 4) ∧
  (∀ l, l < (C T 0).toNatClampNeg → C (T + 1) l = R 83 l ∧ C (T + 2) l = R 84 l) ∧
  (∀ i, i < (C T 1).toNatClampNeg → C (T + 5) i = R 85 i ∧ C (T + 6) i = R 86 i ∧ 1 ≤ (C (T + 6) i).toInt ∧ (C (T + 6) i).toInt ≤ 9)
def tr_d (T b : Nat) (C R : fl_M) : Prop := C T 2 = R 82 (b + 1) ∧ C T 3 = R 82 (b + 2) ∧ C T 4 = R 82 (b + 3) ∧
  (∀ l, l < (C T 0).toNatClampNeg → (C (T + 3) l = R 82 (b + 4 + l) ∧ 0 ≤ (C (T + 3) l).toInt ∧ (C (T + 3) l).toInt ≤ 40) ∧ C (T + 4) l = R 82 (b + 12 + l) ∧ 0 ≤ (C (T + 4) l).toInt ∧ (C (T + 4) l).toInt ≤ 20) ∧
  (∀ i, i < (C T 1).toNatClampNeg → C (T + 8) i = R 82 (b + 20 + i) ∧ 0 ≤ (C (T + 8) i).toInt ∧ (C (T + 8) i).toInt < (C T 0).toInt) ∧
  (∀ l, (C T 0).toNatClampNeg ≤ l → l < 8 → R 82 (b + 12 + l) = 0)
def tr (T b : Nat) (C R : fl_M) : Prop := tr_s T C R ∧ tr_d T b C R
/-- a place in the reference's row as an int -/
def tr_b (bI : Int32) (b : Nat) : Prop := bI.toInt = b ∧ b ≤ 3776
theorem fj_2 : (2 : Int32).toInt = 2 := rfl
theorem fj_8 : (8 : Int32).toInt = 8 := rfl
theorem fj_12 : (12 : Int32).toInt = 12 := rfl
theorem fj_20 : (20 : Int32).toInt = 20 := rfl
theorem fj_9 : (-9 : Int32).toInt = -9 := rfl
theorem fj_pa {x y : Int32} {a c : Nat} (hx : x.toInt = a) (hy : y.toInt = c) (h : a + c < 2147483648) : (x + y).toInt = ((a + c : Nat) : Int) := by
  rw [fi_add (by omega) (by omega)]
  omega
theorem fj_nn {x : Int32} {a : Nat} (hx : x.toInt = a) : x.toNatClampNeg = a := by
  rw [fi_cl, hx]
  rfl
theorem tr_i1 {bI : Int32} {b : Nat} (h : tr_b bI b) {k : Int32} {c : Nat} (hk : k.toInt = c) (hc : c ≤ 40) : (bI + k).toNatClampNeg = b + c := by
  obtain ⟨h1, h2⟩ := h
  exact fj_nn (fj_pa h1 hk (by omega))
theorem tr_i2 {bI : Int32} {b : Nat} (h : tr_b bI b) {k x : Int32} {c : Nat} (hk : k.toInt = c) (hc : c ≤ 40) (h0 : 0 ≤ x.toInt) (h9 : x.toInt ≤ 40) : (bI + k + x).toNatClampNeg = b + c + x.toNatClampNeg := by
  obtain ⟨h1, h2⟩ := h
  have e := fi_cl x
  exact fj_nn (fj_pa (fj_pa h1 hk (by omega)) (show x.toInt = (x.toNatClampNeg : Nat) by omega) (by omega))
theorem tr_b0 : tr_b 0 0 := ⟨rfl, by decide⟩
theorem tr_bt : tr_b 3776 3776 := ⟨rfl, by decide⟩
/-- small ones that are the same on both sides -/
theorem v31_eq (k w c f : Int32) : v_31 k w c f = v_138 k w c f := by
  unfold v_31 v_138
  have e : (3 < w) ↔ ¬ (w < 4) := by
    rw [fi_l, fi_l, fi_i3, fi_i4]
    omega
  by_cases h : w < 4
  · simp only [if_pos h, if_neg (fun z => (e.mp z) h)]
  · simp only [if_neg h, if_pos (e.mpr h)]
theorem bit_01 (x : Int32) : x &&& 1 = 0 ∨ x &&& 1 = 1 := by
  have h : (x &&& 1).toBitVec = 0#32 ∨ (x &&& 1).toBitVec = 1#32 := by
    rw [Int32.toBitVec_and, show (1 : Int32).toBitVec = 1#32 from rfl, BitVec.and_one_eq_setWidth_ofBool_getLsbD]
    cases x.toBitVec.getLsbD 0
    · exact Or.inl rfl
    · exact Or.inr rfl
  rcases h with h | h
  · exact Or.inl (Int32.toBitVec_inj.mp h)
  · exact Or.inr (Int32.toBitVec_inj.mp h)
theorem bit_no (x : Int32) : (x &&& 1 = 0) ↔ ¬ (x &&& 1 = 1) := by
  rcases bit_01 x with h | h
  · rw [h]; decide
  · rw [h]; decide
section RG
variable {T b : Nat} {C R : fl_M} {bI : Int32}
theorem tr_l (h : tr T b C R) (hb : tr_b bI b) {l : Int32} (h0 : 0 ≤ l.toInt) (hl : l.toNatClampNeg < (C T 0).toNatClampNeg) : l.toInt ≤ 7 ∧ R 82 (bI + 4 + l).toNatClampNeg = C (T + 3) l.toNatClampNeg ∧ R 82 (bI + 12 + l).toNatClampNeg = C (T + 4) l.toNatClampNeg ∧ C (T + 1) l.toNatClampNeg = R 83 l.toNatClampNeg := by
  have c1 := h.1.2.2.1
  have e1 := fi_cl l
  have e2 := fi_cl (C T 0)
  obtain ⟨⟨d1, -⟩, d2, -⟩ := h.2.2.2.2.1 _ hl
  rw [tr_i2 hb (c := 4) fi_i4 (by decide) h0 (by omega), tr_i2 hb (c := 12) fj_12 (by decide) h0 (by omega), d1, d2]
  exact ⟨by omega, rfl, rfl, (h.1.2.2.2.2.1 _ hl).1⟩
theorem tr_m (h : tr T b C R) (hb : tr_b bI b) {i : Int32} (h0 : 0 ≤ i.toInt) (hi : i.toNatClampNeg < (C T 1).toNatClampNeg) : i.toInt ≤ 3 ∧ R 82 (bI + 20 + i).toNatClampNeg = C (T + 8) i.toNatClampNeg ∧ R 85 i.toNatClampNeg = C (T + 5) i.toNatClampNeg ∧ R 86 i.toNatClampNeg = C (T + 6) i.toNatClampNeg := by
  have c1 := h.1.2.2.2.1
  have e1 := fi_cl i
  have e2 := fi_cl (C T 1)
  obtain ⟨d1, -⟩ := h.2.2.2.2.2.1 _ hi
  rw [tr_i2 hb (c := 20) fj_20 (by decide) h0 (by omega), d1]
  obtain ⟨d2, d3, -⟩ := h.1.2.2.2.2.2 _ hi
  exact ⟨by omega, rfl, d2.symm, d3.symm⟩
/-- how far -/
theorem v30_eq (h : tr T b C R) (hb : tr_b bI b) {i l : Int32} (h0 : 0 ≤ i.toInt) (hi : i.toNatClampNeg < (C T 1).toNatClampNeg) : v_30 i l T C = v_137 bI i l R := by
  unfold v_30 v_137
  rw [(tr_m h hb h0 hi).2.1]
  generalize C (T + 8) i.toNatClampNeg - l = x
  by_cases hx : x < 0
  · rw [if_pos hx, if_neg (fun z => by rw [fi_l, fi_i0] at hx; rw [Int32.le_iff_toInt_le, fi_i0] at z; omega)]
  · rw [if_neg hx, if_pos (by rw [fi_l, fi_i0] at hx; rw [Int32.le_iff_toInt_le, fi_i0]; omega)]
theorem v35_eq (h : tr T b C R) {i : Int32} (hi : i.toNatClampNeg < (C T 1).toNatClampNeg) : v_35 (C (T + 5) i.toNatClampNeg) (C (T + 6) i.toNatClampNeg) = v_142 i R := by
  obtain ⟨d2, d3, -⟩ := h.1.2.2.2.2.2 _ hi
  unfold v_35 v_142
  rw [d2, d3]
  generalize R 85 i.toNatClampNeg = k
  by_cases h3 : k = 3
  · rw [if_pos h3, if_pos h3]
  · rw [if_neg h3, if_neg h3]
    by_cases h5 : k = 5
    · subst h5
      rfl
    · rw [if_neg h5, if_neg h5]
/-- by how much a line is liked -/
theorem v136_eq (h : tr T b C R) (hb : tr_b bI b) {i l : Int32} (h0 : 0 ≤ i.toInt) (hi : i.toNatClampNeg < (C T 1).toNatClampNeg) (l0 : 0 ≤ l.toInt) (hl : l.toNatClampNeg < (C T 0).toNatClampNeg) : v_31 (C (T + 5) i.toNatClampNeg) (C (T + 1) l.toNatClampNeg) (C (T + 4) l.toNatClampNeg) (v_30 i l T C) = v_136 bI i l R := by
  obtain ⟨-, -, d1, d2⟩ := tr_l h hb l0 hl
  obtain ⟨-, -, d3, -⟩ := tr_m h hb h0 hi
  unfold v_136
  rw [v31_eq, v30_eq h hb h0 hi, d1, d2, d3]
/-- which line is wanted -/
theorem wa_eq (h : tr T b C R) (hb : tr_b bI b) {i : Int32} (h0 : 0 ≤ i.toInt) (hi : i.toNatClampNeg < (C T 1).toNatClampNeg) : (lr_28_11 i (-9) 0 0 T C).1 = (lr_134_9 bI i (-9) 0 R).1 ∧ ((lr_134_9 bI i (-9) 0 R).1 = (-9) ∨ (0 ≤ (lr_134_9 bI i (-9) 0 R).1.toInt ∧ (lr_134_9 bI i (-9) 0 R).1.toNatClampNeg < (C T 0).toNatClampNeg)) := by
  have c1 := h.1.2.2.1
  have e2 := fi_cl (C T 0)
  unfold lr_28_11 lr_134_9 lq_28_11 lq_134_9
  rw [← h.1.1]
  have key := it_r (f := ls_28_11 i T C) (g := ls_134_9 bI i R) (n := (C T 0).toNatClampNeg) (a := (-9, 0, 0)) (b := (-9, 0)) (fun m x y => x.1 = y.1 ∧ x.2.1 = y.2 ∧ (y.1 = (-9) → y.2 = 0) ∧ 0 ≤ y.2.toInt ∧ (¬ y.1 = (-9) → 0 < y.2.toInt ∧ x.2.2 = v_137 bI i y.1 R ∧ 0 ≤ y.1.toInt ∧ y.1.toInt < m)) ⟨rfl, rfl, fun _ => rfl, by decide, fun z => absurd rfl z⟩ ?_
  · obtain ⟨k1, k2, k3, k5, k4⟩ := key
    refine ⟨k1, ?_⟩
    by_cases hz : (fx_it (ls_134_9 bI i R) (C T 0).toNatClampNeg (-9, 0)).1 = (-9)
    · exact Or.inl hz
    · obtain ⟨-, -, k6, k7⟩ := k4 hz
      refine Or.inr ⟨k6, ?_⟩
      rw [fi_cl]
      omega
  · intro m x y hm hR
    obtain ⟨xb, xm, xn⟩ := x
    obtain ⟨yb, ym⟩ := y
    obtain ⟨r1, r2, r3, r4, r5⟩ := hR
    dsimp only at r1 r2 r3 r4 r5
    subst r1
    subst r2
    have em := fi_ti (m := m) (by omega)
    have en := fi_at (m := m) (by omega)
    have hl : (Int32.ofNat m).toNatClampNeg < (C T 0).toNatClampNeg := by rw [en]; exact hm
    have l0 : 0 ≤ (Int32.ofNat m).toInt := by rw [em]; omega
    obtain ⟨-, d1, -, -⟩ := tr_l h hb l0 hl
    have dV := v136_eq h hb h0 hi l0 hl
    have dF := v30_eq h hb (l := Int32.ofNat m) h0 hi
    have dW : R 82 (bI + 3).toNatClampNeg = C T 4 := by rw [tr_i1 hb (c := 3) fi_i3 (by decide)]; exact h.2.2.2.1.symm
    have dK : R 82 (bI + 2).toNatClampNeg = C T 3 := by rw [tr_i1 hb (c := 2) fj_2 (by decide)]; exact h.2.2.1.symm
    have n9 : ¬ Int32.ofNat m = (-9) := fun z => by rw [z, fj_9] at l0; omega
    unfold ls_28_11 ls_134_9
    dsimp only
    rw [d1, dV, dF, dW, dK]
    generalize v_136 bI i (Int32.ofNat m) R = V
    have D0 : (if xm < 0 then (Int32.ofNat m, (0 : Int32)) else if xb = (-9) then (xb, xm) else if 0 = xm then (if v_137 bI i (Int32.ofNat m) R < v_137 bI i xb R then (Int32.ofNat m, 0) else (xb, xm)) else (xb, xm)) = (xb, xm) := by
      rw [if_neg (fun z => by rw [fi_l, fi_i0] at z; omega)]
      by_cases hz : xb = (-9)
      · rw [if_pos hz]
      · rw [if_neg hz, if_neg (fun z => by have := (r5 hz).1; rw [← z, fi_i0] at this; omega)]
    have keep : ((xb, xm, xn) : Int32 × Int32 × Int32).1 = ((xb, xm) : Int32 × Int32).1 ∧ ((xb, xm, xn) : Int32 × Int32 × Int32).2.1 = ((xb, xm) : Int32 × Int32).2 ∧ (xb = (-9) → xm = 0) ∧ 0 ≤ xm.toInt ∧ (¬ xb = (-9) → 0 < xm.toInt ∧ xn = v_137 bI i xb R ∧ 0 ≤ xb.toInt ∧ xb.toInt < ((m + 1 : Nat) : Int)) := ⟨rfl, rfl, r3, r4, fun z => by obtain ⟨q1, q2, q3, q4⟩ := r5 z; exact ⟨q1, q2, q3, by omega⟩⟩
    by_cases c1 : 0 < C (T + 3) (Int32.ofNat m).toNatClampNeg
    · by_cases c2 : C T 4 >>> (Int32.ofNat m &&& 31) &&& 1 = 1
      · rw [if_neg (fun z => (bit_no _).mp z.2.1 c2), if_pos c1, if_pos c2, D0]
        exact keep
      · by_cases c3 : C T 3 = Int32.ofNat m
        · rw [if_neg (fun z => z.2.2 c3), if_pos c1, if_neg c2, if_pos c3, D0]
          exact keep
        · rw [if_pos ⟨c1, (bit_no _).mpr c2, c3⟩, if_pos c1, if_neg c2, if_neg c3]
          have new : 0 < V.toInt → ((Int32.ofNat m, V, v_137 bI i (Int32.ofNat m) R) : Int32 × Int32 × Int32).1 = ((Int32.ofNat m, V) : Int32 × Int32).1 ∧ ((Int32.ofNat m, V, v_137 bI i (Int32.ofNat m) R) : Int32 × Int32 × Int32).2.1 = ((Int32.ofNat m, V) : Int32 × Int32).2 ∧ (Int32.ofNat m = (-9) → V = 0) ∧ 0 ≤ V.toInt ∧ (¬ Int32.ofNat m = (-9) → 0 < V.toInt ∧ v_137 bI i (Int32.ofNat m) R = v_137 bI i (Int32.ofNat m) R ∧ 0 ≤ (Int32.ofNat m).toInt ∧ (Int32.ofNat m).toInt < ((m + 1 : Nat) : Int)) := fun hV => ⟨rfl, rfl, fun z => absurd z n9, by omega, fun _ => ⟨hV, rfl, l0, by omega⟩⟩
          by_cases c4 : xm < V
          · rw [if_pos c4, if_pos c4]
            exact new (by rw [fi_l] at c4; omega)
          · rw [if_neg c4, if_neg c4]
            by_cases c5 : xb = (-9)
            · simp only [if_pos c5]
              by_cases c6 : V = xm
              · simp only [if_pos c6]
                exact ⟨trivial, trivial, keep.2.2⟩
              · simp only [if_neg c6]
                exact ⟨trivial, trivial, keep.2.2⟩
            · simp only [if_neg c5]
              have r6 := r5 c5
              by_cases c6 : V = xm
              · simp only [if_pos c6, r6.2.1]
                by_cases c7 : v_137 bI i (Int32.ofNat m) R < v_137 bI i xb R
                · simp only [if_pos c7]
                  have n := new (by rw [c6]; exact r6.1)
                  exact ⟨trivial, trivial, n.2.2.1, n.2.2.2.1, fun z => by obtain ⟨a, -, c⟩ := n.2.2.2.2 z; exact ⟨a, trivial, c⟩⟩
                · simp only [if_neg c7]
                  have k2 := keep
                  simp only [r6.2.1] at k2
                  exact k2
              · simp only [if_neg c6]
                exact ⟨trivial, trivial, keep.2.2⟩
    · rw [if_neg (fun z => c1 z.1), if_neg c1, D0]
      exact keep
end RG
/-! Writes on both sides, and a year. -/
theorem fl_uo {M : fl_M} {a i c j : Nat} {v : Int32} (h : c ≠ a ∨ j ≠ i) : fl_u M a i v c j = M c j := by
  unfold fl_u
  rw [if_neg (fun z => by rcases h with h | h; exact h z.1; exact h z.2)]
theorem fl_us {M : fl_M} {a i : Nat} {v : Int32} : fl_u M a i v a i = v := by
  unfold fl_u
  rw [if_pos ⟨rfl, rfl⟩]
theorem tr_sc {T : Nat} {C R C' R' : fl_M} (h : tr_s T C R) (e0 : C' T 0 = C T 0) (e1 : C' T 1 = C T 1) (eC : ∀ k, (k = 1 ∨ k = 2 ∨ k = 5 ∨ k = 6) → C' (T + k) = C (T + k)) (r1 : R' 81 1 = R 81 1) (r4 : R' 81 4 = R 81 4) (eR : ∀ k, (83 ≤ k ∧ k ≤ 86) → R' k = R k) : tr_s T C' R' := by
  obtain ⟨s1, s2, s3, s4, s5, s6⟩ := h
  unfold tr_s
  rw [e0, e1, r1, r4, eC 1 (by omega), eC 2 (by omega), eC 5 (by omega), eC 6 (by omega), eR 83 (by omega), eR 84 (by omega), eR 85 (by omega), eR 86 (by omega)]
  exact ⟨s1, s2, s3, s4, s5, s6⟩
section RW
variable {T b : Nat} {C R : fl_M} {v : Int32}
theorem tr_n (h : tr T b C R) : (C T 0).toNatClampNeg ≤ 8 ∧ (C T 1).toNatClampNeg ≤ 4 := by
  have c1 := h.1.2.2.1
  have c2 := h.1.2.2.2.1
  rw [fi_cl, fi_cl]
  omega
theorem tr_ul (h : tr T b C R) {l : Nat} (hl : l < (C T 0).toNatClampNeg) (hv : 0 ≤ v.toInt ∧ v.toInt ≤ 40) : tr T b (fl_u C (T + 3) l v) (fl_u R 82 (b + 4 + l) v) := by
  have n8 := tr_n h
  have e0 : fl_u C (T + 3) l v T = C T := fl_un (by omega)
  refine ⟨tr_sc h.1 (by rw [e0]) (by rw [e0]) (fun k hk => fl_un (by omega)) (by rw [fl_un (by decide)]) (by rw [fl_un (by decide)]) (fun k hk => fl_un (by omega)), ?_⟩
  obtain ⟨d1, d2, d3, d4, d5, d6⟩ := h.2
  unfold tr_d
  rw [e0, fl_uo (c := 82) (j := b + 1) (Or.inr (by omega)), fl_uo (c := 82) (j := b + 2) (Or.inr (by omega)), fl_uo (c := 82) (j := b + 3) (Or.inr (by omega))]
  refine ⟨d1, d2, d3, fun k hk => ?_, fun k hk => ?_, fun k k1 k2 => by rw [fl_uo (Or.inr (by omega))]; exact d6 k k1 k2⟩
  · obtain ⟨q1, q2⟩ := d4 k hk
    refine ⟨?_, ?_⟩
    · by_cases hkl : k = l
      · subst hkl
        rw [fl_us, fl_us]
        exact ⟨rfl, hv⟩
      · rw [fl_uo (Or.inr hkl), fl_uo (Or.inr (by omega))]
        exact q1
    · rw [fl_uo (Or.inl (by omega)), fl_uo (Or.inr (by omega))]
      exact q2
  · rw [fl_uo (Or.inl (by omega)), fl_uo (Or.inr (by omega))]
    exact d5 k hk
theorem tr_uc (h : tr T b C R) {l : Nat} (hl : l < (C T 0).toNatClampNeg) (hv : 0 ≤ v.toInt ∧ v.toInt ≤ 20) : tr T b (fl_u C (T + 4) l v) (fl_u R 82 (b + 12 + l) v) := by
  have n8 := tr_n h
  have e0 : fl_u C (T + 4) l v T = C T := fl_un (by omega)
  refine ⟨tr_sc h.1 (by rw [e0]) (by rw [e0]) (fun k hk => fl_un (by omega)) (by rw [fl_un (by decide)]) (by rw [fl_un (by decide)]) (fun k hk => fl_un (by omega)), ?_⟩
  obtain ⟨d1, d2, d3, d4, d5, d6⟩ := h.2
  unfold tr_d
  rw [e0, fl_uo (c := 82) (j := b + 1) (Or.inr (by omega)), fl_uo (c := 82) (j := b + 2) (Or.inr (by omega)), fl_uo (c := 82) (j := b + 3) (Or.inr (by omega))]
  refine ⟨d1, d2, d3, fun k hk => ?_, fun k hk => ?_, fun k k1 k2 => by rw [fl_uo (Or.inr (by omega))]; exact d6 k k1 k2⟩
  · obtain ⟨q1, q2⟩ := d4 k hk
    refine ⟨?_, ?_⟩
    · rw [fl_uo (Or.inl (by omega)), fl_uo (Or.inr (by omega))]
      exact q1
    · by_cases hkl : k = l
      · subst hkl
        rw [fl_us, fl_us]
        exact ⟨rfl, hv⟩
      · rw [fl_uo (Or.inr hkl), fl_uo (Or.inr (by omega))]
        exact q2
  · rw [fl_uo (Or.inl (by omega)), fl_uo (Or.inr (by omega))]
    exact d5 k hk
theorem tr_up (h : tr T b C R) {i : Nat} (hi : i < (C T 1).toNatClampNeg) (hv : 0 ≤ v.toInt ∧ v.toInt < (C T 0).toInt) : tr T b (fl_u C (T + 8) i v) (fl_u R 82 (b + 20 + i) v) := by
  have n8 := tr_n h
  have e0 : fl_u C (T + 8) i v T = C T := fl_un (by omega)
  refine ⟨tr_sc h.1 (by rw [e0]) (by rw [e0]) (fun k hk => fl_un (by omega)) (by rw [fl_un (by decide)]) (by rw [fl_un (by decide)]) (fun k hk => fl_un (by omega)), ?_⟩
  obtain ⟨d1, d2, d3, d4, d5, d6⟩ := h.2
  unfold tr_d
  rw [e0, fl_uo (c := 82) (j := b + 1) (Or.inr (by omega)), fl_uo (c := 82) (j := b + 2) (Or.inr (by omega)), fl_uo (c := 82) (j := b + 3) (Or.inr (by omega))]
  refine ⟨d1, d2, d3, fun k hk => ?_, fun k hk => ?_, fun k k1 k2 => by rw [fl_uo (Or.inr (by omega))]; exact d6 k k1 k2⟩
  · rw [fl_uo (Or.inl (by omega)), fl_uo (Or.inr (by omega)), fl_uo (Or.inl (by omega)), fl_uo (Or.inr (by omega))]
    exact d4 k hk
  · by_cases hkl : k = i
    · subst hkl
      rw [fl_us, fl_us]
      exact ⟨rfl, hv⟩
    · rw [fl_uo (Or.inr hkl), fl_uo (Or.inr (by omega))]
      exact d5 k hk
/-- the year, the cat, the wax -/
theorem tr_u0 (h : tr T b C R) {k : Nat} (hk : k < 3) : tr T b (fl_u C T (k + 2) v) (fl_u R 82 (b + (k + 1)) v) := by
  have n8 := tr_n h
  have e0 : fl_u C T (k + 2) v T 0 = C T 0 := fl_uo (Or.inr (by omega))
  have e1 : fl_u C T (k + 2) v T 1 = C T 1 := fl_uo (Or.inr (by omega))
  refine ⟨tr_sc h.1 e0 e1 (fun k hk => fl_un (by omega)) (by rw [fl_un (by decide)]) (by rw [fl_un (by decide)]) (fun k hk => fl_un (by omega)), ?_⟩
  obtain ⟨d1, d2, d3, d4, d5, d6⟩ := h.2
  unfold tr_d
  rw [e0, e1]
  have w : ∀ q, q < 3 → C T (q + 2) = R 82 (b + (q + 1)) → fl_u C T (k + 2) v T (q + 2) = fl_u R 82 (b + (k + 1)) v 82 (b + (q + 1)) := by
    intro q hq e
    by_cases hqk : q = k
    · subst hqk
      rw [fl_us, fl_us]
    · rw [fl_uo (Or.inr (by omega)), fl_uo (Or.inr (by omega))]
      exact e
  refine ⟨w 0 (by omega) d1, w 1 (by omega) d2, w 2 (by omega) d3, fun k hk => ?_, fun k hk => ?_, fun k k1 k2 => by rw [fl_uo (Or.inr (by omega))]; exact d6 k k1 k2⟩
  · rw [fl_uo (Or.inl (by omega)), fl_uo (Or.inr (by omega)), fl_uo (Or.inl (by omega)), fl_uo (Or.inr (by omega))]
    exact d4 k hk
  · rw [fl_uo (Or.inl (by omega)), fl_uo (Or.inr (by omega))]
    exact d5 k hk
end RW
theorem fj_div {x y : Int32} (hx : 0 ≤ x.toInt) (hy : 0 < y.toInt) : (x / y).toInt = x.toInt / y.toInt := by
  have h1 := x.toInt_lt
  rw [Int32.toInt_div, Int.tdiv_eq_ediv_of_nonneg hx]
  have h2 : 0 ≤ x.toInt / y.toInt := Int.ediv_nonneg hx (by omega)
  have h3 : x.toInt / y.toInt ≤ x.toInt := Int.ediv_le_self _ hx
  exact fi_bm (by omega) (by omega)
/-- a mouse eats something -/
theorem v142_b {R : fl_M} {i : Int32} (h1 : 1 ≤ (R 86 i.toNatClampNeg).toInt) (h9 : (R 86 i.toNatClampNeg).toInt ≤ 9) : 1 ≤ (v_142 i R).toInt ∧ (v_142 i R).toInt ≤ 18 := by
  unfold v_142
  generalize R 86 i.toNatClampNeg = x at h1 h9
  have e2 : (2 * x).toInt = 2 * x.toInt := by rw [fi_mul (by rw [fj_2]; omega) (by rw [fj_2]; omega), fj_2]
  have e3 : (x / 2 + 1).toInt = x.toInt / 2 + 1 := by
    have e := fj_div (x := x) (y := 2) (by omega) (by decide)
    rw [fj_2] at e
    rw [fi_add (by rw [e, fi_i1]; omega) (by rw [e, fi_i1]; omega), e, fi_i1]
  repeat' split
  all_goals omega
section PY
variable {T b : Nat} {C R : fl_M} {bI : Int32}
theorem py_1 (h : tr T b C R) (hb : tr_b bI b) (s : Int32) : (lr_46_4 s 0 T C).1 = (lr_150_5 bI s 0 R).1 ∧ tr T b (lr_46_4 s 0 T C).2 (lr_150_5 bI s 0 R).2 := by
  unfold lr_46_4 lr_150_5 lq_46_4 lq_150_5
  rw [← h.1.2.1]
  have key := it_r (f := ls_46_4 s T) (g := ls_150_5 bI s) (n := (C T 1).toNatClampNeg) (a := (0, C)) (b := (0, R)) (fun m x y => x.1 = y.1 ∧ tr T b x.2 y.2 ∧ x.2 T = C T) ⟨rfl, h, rfl⟩ ?_
  · exact ⟨key.1, key.2.1⟩
  · intro m x y hm hR
    obtain ⟨xe, X⟩ := x
    obtain ⟨ye, Y⟩ := y
    obtain ⟨r1, r2, r3⟩ := hR
    dsimp only at r1 r2 r3
    subst r1
    have n8 := tr_n r2
    have em := fi_ti (m := m) (by rw [r3] at n8; omega)
    have en := fi_at (m := m) (by rw [r3] at n8; omega)
    have hi : (Int32.ofNat m).toNatClampNeg < (X T 1).toNatClampNeg := by rw [en, r3]; exact hm
    have h0 : 0 ≤ (Int32.ofNat m).toInt := by rw [em]; omega
    obtain ⟨w1, w2⟩ := wa_eq r2 hb h0 hi
    have dV := v35_eq r2 hi
    obtain ⟨-, -, -, dT⟩ := tr_m r2 hb h0 hi
    have bV : 1 ≤ (v_142 (Int32.ofNat m) Y).toInt ∧ (v_142 (Int32.ofNat m) Y).toInt ≤ 18 := by
      obtain ⟨-, -, t1, t2⟩ := r2.1.2.2.2.2.2 _ hi
      rw [← dT] at t1 t2
      exact v142_b t1 t2
    unfold ls_46_4 ls_150_5
    dsimp only
    rw [w1, dV]
    generalize (lr_134_9 bI (Int32.ofNat m) (-9) 0 Y).1 = w at w2
    by_cases c1 : s >>> (Int32.ofNat m &&& 31) &&& 1 = 1
    · rw [if_pos c1, if_pos c1]
      exact ⟨rfl, r2, r3⟩
    · rw [if_neg c1, if_neg c1]
      by_cases c2 : w = (-9)
      · rw [if_pos c2, if_pos c2]
        exact ⟨rfl, r2, r3⟩
      · rw [if_neg c2, if_neg c2]
        rcases w2 with w2 | ⟨w0, wl⟩
        · exact absurd w2 c2
        obtain ⟨l7, dL, -, -⟩ := tr_l r2 hb w0 wl
        obtain ⟨⟨-, L0, L4⟩, -⟩ := r2.2.2.2.2.1 _ wl
        have iL : (bI + 4 + w).toNatClampNeg = b + 4 + w.toNatClampNeg := tr_i2 hb (c := 4) fi_i4 (by decide) w0 (by omega)
        have iP : (bI + 20 + Int32.ofNat m).toNatClampNeg = b + 20 + m := by rw [tr_i2 hb (c := 20) fj_20 (by decide) h0 (by rw [em]; rw [r3] at n8; omega), en]
        have cl := fi_cl w
        have cT := fi_cl (X T 0)
        have eU : ∀ (j k : Nat) (z : Int32), fl_u X (T + 8) j z (T + 3) k = X (T + 3) k := fun j k z => fl_uo (Or.inl (by omega))
        rw [iL] at dL
        simp only [iL, iP, eU, en, dL]
        have cell : ∀ z z', fl_u (fl_u X (T + 8) m z) (T + 3) w.toNatClampNeg z' T = C T := fun z z' => by rw [fl_un (by omega), fl_un (by omega)]; exact r3
        have mk : ∀ z, 0 ≤ z.toInt ∧ z.toInt ≤ 40 → tr T b (fl_u (fl_u X (T + 8) m w) (T + 3) w.toNatClampNeg z) (fl_u (fl_u Y 82 (b + 4 + w.toNatClampNeg) z) 82 (b + 20 + m) w) := by
          intro z hz
          have g1 := tr_up r2 (i := m) (v := w) (by rw [r3]; exact hm) ⟨w0, by omega⟩
          have g2 := tr_ul g1 (l := w.toNatClampNeg) (v := z) (by rw [fl_un (by omega)]; exact wl) hz
          have sw : fl_u (fl_u Y 82 (b + 4 + w.toNatClampNeg) z) 82 (b + 20 + m) w = fl_u (fl_u Y 82 (b + 20 + m) w) 82 (b + 4 + w.toNatClampNeg) z := by
            funext c j
            unfold fl_u
            by_cases hc : c = 82
            · by_cases k1 : j = b + 20 + m
              · rw [if_pos ⟨hc, k1⟩, if_neg (fun z => by omega), if_pos ⟨hc, k1⟩]
              · rw [if_neg (fun z => k1 z.2), if_neg (c := c = 82 ∧ j = b + 20 + m) (fun z => k1 z.2)]
            · rw [if_neg (fun z => hc z.1), if_neg (fun z => hc z.1), if_neg (fun z => hc z.1), if_neg (fun z => hc z.1)]
          rw [sw]
          exact g2
        by_cases c3 : v_142 (Int32.ofNat m) Y < X (T + 3) w.toNatClampNeg
        · simp only [if_pos c3]
          rw [fi_l] at c3
          have eS : (X (T + 3) w.toNatClampNeg - v_142 (Int32.ofNat m) Y).toInt = (X (T + 3) w.toNatClampNeg).toInt - (v_142 (Int32.ofNat m) Y).toInt := fi_sub (by omega) (by omega)
          exact ⟨by first | rfl | trivial, mk _ (by rw [eS]; omega), cell _ _⟩
        · simp only [if_neg c3]
          have eS : (X (T + 3) w.toNatClampNeg - X (T + 3) w.toNatClampNeg).toInt = 0 := by rw [Int32.sub_self]; rfl
          exact ⟨by first | rfl | trivial, mk _ (by rw [eS]; omega), cell _ _⟩
theorem py_2 (h : tr T b C R) (hb : tr_b bI b) : tr T b (lr_46_100 T C) (lr_150_130 bI R) := by
  unfold lr_46_100 lr_150_130 lq_46_100 lq_150_130
  rw [← h.1.1]
  have key := it_r (f := ls_46_100 T) (g := ls_150_130 bI) (n := (C T 0).toNatClampNeg) (a := C) (b := R) (fun m X Y => tr T b X Y ∧ X T = C T) ⟨h, rfl⟩ ?_
  · exact key.1
  · intro m X Y hm hR
    obtain ⟨r2, r3⟩ := hR
    have n8 := tr_n r2
    rw [r3] at n8
    have em := fi_ti (m := m) (by omega)
    have en := fi_at (m := m) (by omega)
    have hl : (Int32.ofNat m).toNatClampNeg < (X T 0).toNatClampNeg := by rw [en, r3]; exact hm
    have h0 : 0 ≤ (Int32.ofNat m).toInt := by rw [em]; omega
    obtain ⟨-, -, dC, -⟩ := tr_l r2 hb h0 hl
    obtain ⟨-, -, C0, C2⟩ := r2.2.2.2.2.1 _ hl
    have iC : (bI + 12 + Int32.ofNat m).toNatClampNeg = b + 12 + m := by rw [tr_i2 hb (c := 12) fj_12 (by decide) h0 (by rw [em]; omega), en]
    unfold ls_46_100 ls_150_130
    rw [dC, iC, en]
    rw [en] at C0 C2
    generalize hc : X (T + 4) m = c at C0 C2
    have e1 : (c - 1).toInt = c.toInt - 1 := by rw [fi_sub (by rw [fi_i1]; omega) (by rw [fi_i1]; omega), fi_i1]
    have cell : ∀ z, fl_u X (T + 4) m z T = C T := fun z => by rw [fl_un (by omega)]; exact r3
    have mk : ∀ z, 0 ≤ z.toInt ∧ z.toInt ≤ 20 → tr T b (fl_u X (T + 4) m z) (fl_u Y 82 (b + 12 + m) z) := fun z hz => tr_uc r2 (by rw [r3]; exact hm) hz
    by_cases c0 : 0 < c
    · rw [if_pos c0]
      rw [fi_l, fi_i0] at c0
      by_cases c1 : 0 < c - 1
      · rw [if_pos c1]
        exact ⟨mk _ (by rw [e1]; omega), cell _⟩
      · rw [if_neg c1]
        rw [fi_l, fi_i0, e1] at c1
        have : c - 1 = 0 := by rw [fi_e, e1, fi_i0]; omega
        rw [this]
        exact ⟨mk _ (by decide), cell _⟩
    · rw [if_neg c0]
      rw [fi_l, fi_i0] at c0
      have z0 : c = 0 := by rw [fi_e, fi_i0]; omega
      rw [if_neg (fun z => by rw [fi_l, fi_i0, e1] at z; omega), z0, show (0 : Int32) - 0 = 0 from rfl]
      exact ⟨mk _ (by decide), cell _⟩
/-- a year passes on both sides alike -/
theorem py_eq (h : tr T b C R) (hb : tr_b bI b) (s : Int32) : (lr_46_4 s 0 T C).1 = (lr_150_5 bI s 0 R).1 ∧ tr T b (m_46 s T C) (m_150 bI s R) := by
  obtain ⟨e, g1⟩ := py_1 h hb s
  have g2 := py_2 g1 hb
  refine ⟨e, ?_⟩
  unfold m_46 m_150
  rw [tr_i1 hb (c := 1) fi_i1 (by decide), ← g2.2.1]
  exact tr_u0 (k := 0) g2 (by decide)
end PY
/-! Stretches copied; a register taken from another. -/
/-- a stretch of one row copied place by place to a stretch apart from it -/
theorem cp_it {f : Nat → fl_M → fl_M} {D S N : Nat} {a : fl_M} (hf : ∀ m q, m < N → (∀ j, j < D ∨ D + N ≤ j → q 82 j = a 82 j) → f m q = fl_u q 82 (D + m) (q 82 (S + m))) (hd : D + N ≤ S ∨ S + N ≤ D) : ∀ c j, fx_it f N a c j = if c = 82 ∧ D ≤ j ∧ j < D + N then a 82 (S + (j - D)) else a c j := by
  have key := it_p (f := f) (n := N) (a := a) (fun m q => ∀ c j, q c j = if c = 82 ∧ D ≤ j ∧ j < D + m then a 82 (S + (j - D)) else a c j) (fun c j => by rw [if_neg (fun z => by omega)]) (fun m q hm hq c j => ?_)
  · exact key
  · rw [hf m q hm (fun j hj => by rw [hq, if_neg (fun z => by omega)])]
    by_cases h : c = 82 ∧ j = D + m
    · obtain ⟨rfl, rfl⟩ := h
      rw [fl_us, hq, if_neg (fun z => by omega), if_pos ⟨rfl, by omega, by omega⟩]
      congr 1
      omega
    · rw [fl_uo (by omega), hq]
      by_cases h2 : c = 82 ∧ D ≤ j ∧ j < D + m
      · rw [if_pos h2, if_pos (by omega)]
      · rw [if_neg h2, if_neg (by omega)]
/-- what is tried out is laid -/
theorem lt_eq (R : fl_M) : ∀ c j, lr_160_2 R c j = if c = 82 ∧ 3776 ≤ j ∧ j < 3776 + 24 then R 82 (0 + (j - 3776)) else R c j := by
  unfold lr_160_2 lq_160_2
  refine cp_it (fun m q hm _ => ?_) (Or.inr (by omega))
  have en := fi_at (m := m) (by omega)
  have em := fi_ti (m := m) (by omega)
  unfold ls_160_2
  rw [en, tr_i1 tr_bt (k := Int32.ofNat m) (c := m) em (by omega), Nat.zero_add]
theorem tr_rc {T b b' : Nat} {C R R' : fl_M} (h : tr T b C R) (r1 : R' 81 1 = R 81 1) (r4 : R' 81 4 = R 81 4) (eR : ∀ k, (83 ≤ k ∧ k ≤ 86) → R' k = R k) (hb : ∀ k, 1 ≤ k → k < 24 → R' 82 (b' + k) = R 82 (b + k)) : tr T b' C R' := by
  have n8 := tr_n h
  refine ⟨tr_sc h.1 rfl rfl (fun _ _ => rfl) r1 r4 eR, ?_⟩
  obtain ⟨d1, d2, d3, d4, d5, d6⟩ := h.2
  unfold tr_d
  rw [hb 1 (by omega) (by omega), hb 2 (by omega) (by omega), hb 3 (by omega) (by omega)]
  refine ⟨d1, d2, d3, fun l hl => ?_, fun i hi => ?_, fun l h1 h2 => ?_⟩
  · have a1 := hb (4 + l) (by omega) (by omega)
    have a2 := hb (12 + l) (by omega) (by omega)
    rw [← Nat.add_assoc, ← Nat.add_assoc] at a1 a2
    rw [a1, a2]
    exact d4 l hl
  · have a1 := hb (20 + i) (by omega) (by omega)
    rw [← Nat.add_assoc, ← Nat.add_assoc] at a1
    rw [a1]
    exact d5 i hi
  · have a1 := hb (12 + l) (by omega) (by omega)
    rw [← Nat.add_assoc, ← Nat.add_assoc] at a1
    rw [a1]
    exact d6 l h1 h2
theorem lt_rg {T : Nat} {C R : fl_M} (h : tr T 0 C R) : tr T 3776 C (lr_160_2 R) := by
  have e := lt_eq R
  have o : ∀ c, c ≠ 82 → lr_160_2 R c = R c := fun c hc => by funext j; rw [e, if_neg (fun z => hc z.1)]
  refine tr_rc h (by rw [o 81 (by decide)]) (by rw [o 81 (by decide)]) (fun k hk => o k (by omega)) (fun k h1 h2 => ?_)
  rw [e, if_pos ⟨rfl, by omega, by omega⟩, show 3776 + k - 3776 = k by omega]
/-- the class' register from another's -/
theorem tk_m {T O : Nat} (hd : T + 9 ≤ O ∨ O + 9 ≤ T) (M : fl_M) (m : Nat) (hm : m < 8) : ∀ c j, ls_23_42 T O m M c j = if (T + 1 ≤ c ∧ c ≤ T + 4) ∧ j = m then M (O + (c - T)) m else M c j := by
  intro c j
  have en := fi_at (m := m) (by omega)
  unfold ls_23_42
  rw [en]
  by_cases h : (T + 1 ≤ c ∧ c ≤ T + 4) ∧ j = m
  · rw [if_pos h]
    obtain ⟨h1, rfl⟩ := h
    have hk : c = T + 1 ∨ c = T + 2 ∨ c = T + 3 ∨ c = T + 4 := by omega
    rcases hk with rfl | rfl | rfl | rfl
    · rw [fl_uo (Or.inl (by omega)), fl_uo (Or.inl (by omega)), fl_uo (Or.inl (by omega)), fl_us, show T + 1 - T = 1 by omega]
    · rw [fl_uo (Or.inl (by omega)), fl_uo (Or.inl (by omega)), fl_us, fl_uo (Or.inl (by omega)), show T + 2 - T = 2 by omega]
    · rw [fl_uo (Or.inl (by omega)), fl_us, fl_uo (Or.inl (by omega)), fl_uo (Or.inl (by omega)), show T + 3 - T = 3 by omega]
    · rw [fl_us, fl_uo (Or.inl (by omega)), fl_uo (Or.inl (by omega)), fl_uo (Or.inl (by omega)), show T + 4 - T = 4 by omega]
  · rw [if_neg h]
    have n : ∀ k, 1 ≤ k → k ≤ 4 → c ≠ T + k ∨ j ≠ m := fun k h1 h2 => by omega
    rw [fl_uo (n 4 (by omega) (by omega)), fl_uo (n 3 (by omega) (by omega)), fl_uo (n 2 (by omega) (by omega)), fl_uo (n 1 (by omega) (by omega))]
theorem tk_n {T O : Nat} (hd : T + 9 ≤ O ∨ O + 9 ≤ T) (M : fl_M) (m : Nat) (hm : m < 8) : ∀ c j, ls_23_106 T O m M c j = if (T + 5 ≤ c ∧ c ≤ T + 8) ∧ j = m then M (O + (c - T)) m else M c j := by
  intro c j
  have en := fi_at (m := m) (by omega)
  unfold ls_23_106
  rw [en]
  by_cases h : (T + 5 ≤ c ∧ c ≤ T + 8) ∧ j = m
  · rw [if_pos h]
    obtain ⟨h1, rfl⟩ := h
    have hk : c = T + 5 ∨ c = T + 6 ∨ c = T + 7 ∨ c = T + 8 := by omega
    rcases hk with rfl | rfl | rfl | rfl
    · rw [fl_uo (Or.inl (by omega)), fl_uo (Or.inl (by omega)), fl_uo (Or.inl (by omega)), fl_us, show T + 5 - T = 5 by omega]
    · rw [fl_uo (Or.inl (by omega)), fl_uo (Or.inl (by omega)), fl_us, fl_uo (Or.inl (by omega)), show T + 6 - T = 6 by omega]
    · rw [fl_uo (Or.inl (by omega)), fl_us, fl_uo (Or.inl (by omega)), fl_uo (Or.inl (by omega)), show T + 7 - T = 7 by omega]
    · rw [fl_us, fl_uo (Or.inl (by omega)), fl_uo (Or.inl (by omega)), fl_uo (Or.inl (by omega)), show T + 8 - T = 8 by omega]
  · rw [if_neg h]
    have n : ∀ k, 5 ≤ k → k ≤ 8 → c ≠ T + k ∨ j ≠ m := fun k h1 h2 => by omega
    rw [fl_uo (n 8 (by omega) (by omega)), fl_uo (n 7 (by omega) (by omega)), fl_uo (n 6 (by omega) (by omega)), fl_uo (n 5 (by omega) (by omega))]
/-- a loop that copies rows side by side -/
theorem ck_it {f : Nat → fl_M → fl_M} {T O lo hi N : Nat} {a : fl_M} (hd : T + 9 ≤ O ∨ O + 9 ≤ T) (h8 : 1 ≤ lo ∧ hi ≤ 8) (hf : ∀ m q, m < N → ∀ c j, f m q c j = if (T + lo ≤ c ∧ c ≤ T + hi) ∧ j = m then q (O + (c - T)) m else q c j) : ∀ c j, fx_it f N a c j = if (T + lo ≤ c ∧ c ≤ T + hi) ∧ j < N then a (O + (c - T)) j else a c j := by
  have key := it_p (f := f) (n := N) (a := a) (fun m q => ∀ c j, q c j = if (T + lo ≤ c ∧ c ≤ T + hi) ∧ j < m then a (O + (c - T)) j else a c j) (fun c j => by rw [if_neg (fun z => by omega)]) (fun m q hm hq c j => ?_)
  · exact key
  · rw [hf m q hm c j]
    by_cases hk : (T + lo ≤ c ∧ c ≤ T + hi)
    · have hn : ¬ (T + lo ≤ O + (c - T) ∧ O + (c - T) ≤ T + hi) := by omega
      by_cases hj : j = m
      · subst hj
        rw [if_pos ⟨hk, rfl⟩, hq, if_neg (fun z => hn z.1), if_pos ⟨hk, by omega⟩]
      · rw [if_neg (fun z => hj z.2), hq]
        by_cases h2 : j < m
        · rw [if_pos ⟨hk, h2⟩, if_pos ⟨hk, by omega⟩]
        · rw [if_neg (fun z => h2 z.2), if_neg (fun z => by omega)]
    · rw [if_neg (fun z => hk z.1), hq, if_neg (fun z => hk z.1), if_neg (fun z => hk z.1)]
theorem tk_rg {T O b : Nat} {C R : fl_M} (hd : T + 9 ≤ O ∨ O + 9 ≤ T) (h : tr O b C R) : tr T b (m_23 T O C) R := by
  have n8 := tr_n h
  -- the five ints
  obtain ⟨E, hE⟩ : ∃ E : fl_M, E = fl_u (fl_u (fl_u (fl_u (fl_u C T 0 (C O 0)) T 1 (C O 1)) T 2 (C O 2)) T 3 (C O 3)) T 4 (C O 4) := ⟨_, rfl⟩
  have eO : ∀ c, c ≠ T → E c = C c := fun c hc => by rw [hE, fl_un hc, fl_un hc, fl_un hc, fl_un hc, fl_un hc]
  have e0 : E T 0 = C O 0 := by rw [hE, fl_uo (Or.inr (by decide)), fl_uo (Or.inr (by decide)), fl_uo (Or.inr (by decide)), fl_uo (Or.inr (by decide)), fl_us]
  have e1 : E T 1 = C O 1 := by rw [hE, fl_uo (Or.inr (by decide)), fl_uo (Or.inr (by decide)), fl_uo (Or.inr (by decide)), fl_us]
  have e2 : E T 2 = C O 2 := by rw [hE, fl_uo (Or.inr (by decide)), fl_uo (Or.inr (by decide)), fl_us]
  have e3 : E T 3 = C O 3 := by rw [hE, fl_uo (Or.inr (by decide)), fl_us]
  have e4 : E T 4 = C O 4 := by rw [hE, fl_us]
  have eM : m_23 T O C = lr_23_106 T O (lr_23_42 T O E) := by
    unfold m_23
    rw [hE]
    have n : ∀ (M : fl_M) (i : Nat) (v : Int32), fl_u M T i v O = M O := fun M i v => fl_un (by omega)
    simp only [n]
  have f1 : ∀ c j, lr_23_42 T O E c j = if (T + 1 ≤ c ∧ c ≤ T + 4) ∧ j < (C O 0).toNatClampNeg then E (O + (c - T)) j else E c j := by
    unfold lr_23_42 lq_23_42
    rw [e0]
    exact ck_it hd (by omega) (fun m q hm => tk_m hd q m (by omega))
  have g1 : lr_23_42 T O E T = E T := by
    funext j
    rw [f1, if_neg (fun z => by omega)]
  have f2 : ∀ c j, m_23 T O C c j = if (T + 5 ≤ c ∧ c ≤ T + 8) ∧ j < (C O 1).toNatClampNeg then lr_23_42 T O E (O + (c - T)) j else lr_23_42 T O E c j := by
    rw [eM]
    unfold lr_23_106 lq_23_106
    rw [g1, e1]
    exact ck_it hd (by omega) (fun m q hm => tk_n hd q m (by omega))
  have a0 : ∀ j, m_23 T O C T j = E T j := fun j => by
    rw [f2, if_neg (fun z => by omega), g1]
  have a1 : ∀ k, 1 ≤ k → k ≤ 4 → ∀ j, j < (C O 0).toNatClampNeg → m_23 T O C (T + k) j = C (O + k) j := fun k h1 h2 j hj => by
    rw [f2, if_neg (fun z => by omega), f1, if_pos ⟨⟨by omega, by omega⟩, hj⟩, show O + (T + k - T) = O + k by omega, eO _ (by omega)]
  have a2 : ∀ k, 5 ≤ k → k ≤ 8 → ∀ j, j < (C O 1).toNatClampNeg → m_23 T O C (T + k) j = C (O + k) j := fun k h1 h2 j hj => by
    rw [f2, if_pos ⟨⟨by omega, by omega⟩, hj⟩, show O + (T + k - T) = O + k by omega, f1, if_neg (fun z => by omega), eO _ (by omega)]
  obtain ⟨⟨s1, s2, s3, s4, s5, s6⟩, d1, d2, d3, d4, d5, d6⟩ := h
  refine ⟨?_, ?_⟩
  · unfold tr_s
    rw [a0, a0, e0, e1]
    refine ⟨s1, s2, s3, s4, fun l hl => ?_, fun i hi => ?_⟩
    · rw [a1 1 (by omega) (by omega) l hl, a1 2 (by omega) (by omega) l hl]
      exact s5 l hl
    · rw [a2 5 (by omega) (by omega) i hi, a2 6 (by omega) (by omega) i hi]
      exact s6 i hi
  · unfold tr_d
    rw [a0, a0, a0, a0, a0, e0, e1, e2, e3, e4]
    refine ⟨d1, d2, d3, fun l hl => ?_, fun i hi => ?_, d6⟩
    · rw [a1 3 (by omega) (by omega) l hl, a1 4 (by omega) (by omega) l hl]
      exact d4 l hl
    · rw [a2 8 (by omega) (by omega) i hi]
      exact d5 i hi
/-! What was done, and done again: the class does the deeds anew, the reference keeps what was. -/
/-- the past is kept -/
theorem kp_eq {R : fl_M} {n : Nat} (hn : (R 82 0).toInt = n) (h4 : n < 40) : ∀ c j, lr_149_2 R c j = if c = 82 ∧ 24 + 23 * n ≤ j ∧ j < 24 + 23 * n + 23 then R 82 (1 + (j - (24 + 23 * n))) else R c j := by
  unfold lr_149_2 lq_149_2
  refine cp_it (fun m q hm hq => ?_) (Or.inr (by omega))
  have en := fi_at (m := m) (by omega)
  have em := fi_ti (m := m) (by omega)
  have e0 : q 82 0 = R 82 0 := hq 0 (by omega)
  have e1 : (23 * (R 82 0) : Int32).toInt = ((23 * n : Nat) : Int) := by
    rw [fi_mul (by rw [hn, show (23 : Int32).toInt = 23 from rfl]; omega) (by rw [hn, show (23 : Int32).toInt = 23 from rfl]; omega), hn, show (23 : Int32).toInt = 23 from rfl]
    omega
  have e2 := fj_pa (x := 24) (y := 23 * (R 82 0)) (a := 24) (c := 23 * n) rfl e1 (by omega)
  have e3 := fj_pa (x := 24 + 23 * (R 82 0)) (y := Int32.ofNat m) e2 em (by omega)
  have e4 := fj_pa (x := 1) (y := Int32.ofNat m) (a := 1) (c := m) rfl em (by omega)
  unfold ls_149_2
  rw [e0, fj_nn e3, fj_nn e4]
/-- where what was behind n deeds of sz lies -/
def hb (b sz n : Nat) : Nat := if n < sz then b + 23 + 23 * n else b
/-- from one deed to the next -/
def ch_w (D b : Nat) (C R : fl_M) (sz : Nat) : Prop :=
  (∀ n, n < sz → ∀ M : fl_M, tr 15 (hb b sz n) M R → tr 15 (hb b sz (n + 1)) (m_45 (C (D + 1) n) (C (D + 2) n) (C (D + 3) n) 15 M) R)
/-- the first of all: the lines whole, the mice where they began -/
def ch_f (x : Nat) (C R : fl_M) : Prop := R 82 (x + 1) = 0 ∧ R 82 (x + 2) = -9 ∧ R 82 (x + 3) = 0 ∧
  (∀ l, l < (C 15 0).toNatClampNeg → R 82 (x + 4 + l) = R 84 l ∧ 0 ≤ (R 84 l).toInt ∧ (R 84 l).toInt ≤ 40) ∧ (∀ l, l < 8 → R 82 (x + 12 + l) = 0) ∧
  (∀ i, i < (C 15 1).toNatClampNeg → R 82 (x + 20 + i) = C 22 i ∧ 0 ≤ (C 22 i).toInt ∧ (C 22 i).toInt < (C 15 0).toInt)
def ch (D b : Nat) (C R : fl_M) (sz : Nat) : Prop := ch_w D b C R sz ∧ ch_f (hb b sz 0) C R
/-- what is read of the reference's row, moved -/
theorem ch_mv {D b D' b' sz : Nat} {C R C' R' : fl_M} (h : ch D b C R sz) (h4 : sz ≤ 40) (h8 : (C 15 0).toNatClampNeg ≤ 8 ∧ (C 15 1).toNatClampNeg ≤ 4) (r1 : R' 81 1 = R 81 1) (r4 : R' 81 4 = R 81 4) (eR : ∀ k, (83 ≤ k ∧ k ≤ 86) → R' k = R k) (hbb : ∀ j, 1 ≤ j → j < 944 → R' 82 (b' + j) = R 82 (b + j)) (hD : ∀ n, n < sz → C' (D' + 1) n = C (D + 1) n ∧ C' (D' + 2) n = C (D + 2) n ∧ C' (D' + 3) n = C (D + 3) n) (e0 : C' 15 0 = C 15 0) (e1 : C' 15 1 = C 15 1) (e22 : C' 22 = C 22) : ch D' b' C' R' sz := by
  have hx : ∀ n k, 1 ≤ k → k < 24 → R' 82 (hb b' sz n + k) = R 82 (hb b sz n + k) := by
    intro n k h1 h2
    unfold hb
    by_cases hn : n < sz
    · rw [if_pos hn, if_pos hn]
      have a := hbb (23 + 23 * n + k) (by omega) (by omega)
      rw [show b' + 23 + 23 * n + k = b' + (23 + 23 * n + k) by omega, a, show b + 23 + 23 * n + k = b + (23 + 23 * n + k) by omega]
    · rw [if_neg hn, if_neg hn]
      exact hbb k h1 (by omega)
  obtain ⟨hw, f1, f2, f3, f4, f5, f6⟩ := h
  refine ⟨fun n hn M hM => ?_, ?_⟩
  · obtain ⟨d1, d2, d3⟩ := hD n hn
    rw [d1, d2, d3]
    have g1 : tr 15 (hb b sz n) M R := tr_rc hM r1.symm r4.symm (fun k hk => (eR k hk).symm) (fun k h1 h2 => (hx n k h1 h2).symm)
    exact tr_rc (hw n hn M g1) r1 r4 eR (fun k h1 h2 => hx (n + 1) k h1 h2)
  · have y := hx 0
    unfold ch_f
    rw [e0, e1, e22, y 1 (by omega) (by omega), y 2 (by omega) (by omega), y 3 (by omega) (by omega), eR 84 (by omega)]
    refine ⟨f1, f2, f3, fun l hl => ?_, fun l hl => ?_, fun i hi => ?_⟩
    · have a1 := y (4 + l) (by omega) (by omega)
      rw [← Nat.add_assoc, ← Nat.add_assoc] at a1
      rw [a1]
      exact f4 l hl
    · have a1 := y (12 + l) (by omega) (by omega)
      rw [← Nat.add_assoc, ← Nat.add_assoc] at a1
      rw [a1]
      exact f5 l hl
    · have a1 := y (20 + i) (by omega) (by omega)
      rw [← Nat.add_assoc, ← Nat.add_assoc] at a1
      rw [a1]
      exact f6 i hi
/-- one deed more -/
theorem ch_add {wh li am : Int32} {n : Nat} {C R C' R1 R' : fl_M} (h : ch 42 0 C R n) (hn : n < 40) (h8 : (C 15 0).toNatClampNeg ≤ 8 ∧ (C 15 1).toNatClampNeg ≤ 4)
    (k1 : ∀ c, c ≠ 82 → R1 c = R c) (k2 : ∀ j, 1 ≤ j → j < 944 → R1 82 j = if 24 + 23 * n ≤ j ∧ j < 24 + 23 * n + 23 then R 82 (1 + (j - (24 + 23 * n))) else R 82 j)
    (r1 : ∀ c, c ≠ 82 → c ≤ 86 → R' c = R1 c) (r2 : ∀ j, 24 ≤ j → j < 944 → R' 82 j = R1 82 j)
    (hop : ∀ M, tr 15 0 M R1 → tr 15 0 (m_45 wh li am 15 M) R')
    (hD : ∀ m, m < n → C' (42 + 1) m = C (42 + 1) m ∧ C' (42 + 2) m = C (42 + 2) m ∧ C' (42 + 3) m = C (42 + 3) m) (d1 : C' (42 + 1) n = wh) (d2 : C' (42 + 2) n = li) (d3 : C' (42 + 3) n = am)
    (e0 : C' 15 0 = C 15 0) (e1 : C' 15 1 = C 15 1) (e22 : C' 22 = C 22) : ch 42 0 C' R' (n + 1) := by
  have q : ∀ c, c ≠ 82 → c ≤ 86 → R' c = R c := fun c h1 h2 => by rw [r1 c h1 h2, k1 c h1]
  have s1 : R' 81 1 = R 81 1 := by rw [q 81 (by omega) (by omega)]
  have s4 : R' 81 4 = R 81 4 := by rw [q 81 (by omega) (by omega)]
  have sR : ∀ k, (83 ≤ k ∧ k ≤ 86) → R' k = R k := fun k hk => q k (by omega) (by omega)
  have hx : ∀ m k, m ≤ n → 1 ≤ k → k < 24 → R' 82 (hb 0 (n + 1) m + k) = R 82 (hb 0 n m + k) := by
    intro m k hm h1 h2
    unfold hb
    rw [if_pos (show m < n + 1 by omega), r2 _ (by omega) (by omega), k2 _ (by omega) (by omega)]
    by_cases hmn : m < n
    · rw [if_pos hmn, if_neg (by omega)]
    · have e : m = n := by omega
      subst e
      rw [if_neg hmn, if_pos (by omega)]
      congr 1
      omega
  obtain ⟨hw, f1, f2, f3, f4, f5, f6⟩ := h
  refine ⟨fun m hm M hM => ?_, ?_⟩
  · have g1 : tr 15 (hb 0 n m) M R := tr_rc hM s1.symm s4.symm (fun k hk => (sR k hk).symm) (fun k h1 h2 => (hx m k (by omega) h1 h2).symm)
    by_cases hmn : m < n
    · obtain ⟨a1, a2, a3⟩ := hD m hmn
      rw [a1, a2, a3]
      exact tr_rc (hw m hmn M g1) s1 s4 sR (fun k h1 h2 => hx (m + 1) k (by omega) h1 h2)
    · have e : m = n := by omega
      subst e
      rw [d1, d2, d3]
      have e0 : hb 0 m m = 0 := if_neg (by omega)
      have e1 : hb 0 (m + 1) (m + 1) = 0 := if_neg (by omega)
      rw [e0] at g1
      rw [e1]
      refine hop M (tr_rc g1 (by rw [k1 81 (by omega)]) (by rw [k1 81 (by omega)]) (fun k hk => k1 k (by omega)) (fun k h1 h2 => ?_))
      rw [Nat.zero_add, k2 k h1 (by omega), if_neg (by omega)]
  · have y := fun k => hx 0 k (Nat.zero_le _)
    unfold ch_f
    rw [e0, e1, e22, y 1 (by omega) (by omega), y 2 (by omega) (by omega), y 3 (by omega) (by omega), sR 84 (by omega)]
    refine ⟨f1, f2, f3, fun l hl => ?_, fun l hl => ?_, fun i hi => ?_⟩
    · have a1 := y (4 + l) (by omega) (by omega)
      rw [← Nat.add_assoc, ← Nat.add_assoc] at a1
      rw [a1]
      exact f4 l hl
    · have a1 := y (12 + l) (by omega) (by omega)
      rw [← Nat.add_assoc, ← Nat.add_assoc] at a1
      rw [a1]
      exact f5 l hl
    · have a1 := y (20 + i) (by omega) (by omega)
      rw [← Nat.add_assoc, ← Nat.add_assoc] at a1
      rw [a1]
      exact f6 i hi
/-- what a year and a deed leave alone -/
theorem st_46_4 {s e : Int32} {T c j : Nat} {M : fl_M} (h3 : ¬ c = T + 3) (h8 : ¬ c = T + 8) : (lr_46_4 s e T M).2 c j = M c j := by
  unfold lr_46_4 lq_46_4
  refine it_k (fun q : Int32 × fl_M => q.2 c j = M c j) rfl (fun m q hq => ?_)
  unfold ls_46_4
  (try repeat' split) <;> first | with_reducible exact hq | (simp [fl_u, h3, h8, hq]; done)
theorem st_46_100 {T c j : Nat} {M : fl_M} (h4 : ¬ c = T + 4) : (lr_46_100 T M) c j = M c j := by
  unfold lr_46_100 lq_46_100
  refine it_k (fun q : fl_M => q c j = M c j) rfl (fun m q hq => ?_)
  unfold ls_46_100
  simp [fl_u, h4, hq]
theorem st_46 {s : Int32} {T c j : Nat} {M : fl_M} (h3 : ¬ c = T + 3) (h4 : ¬ c = T + 4) (h8 : ¬ c = T + 8) (h2 : ¬ (c = T ∧ j = 2)) : m_46 s T M c j = M c j := by
  unfold m_46
  rw [fl_uo (by omega), st_46_100 h4, st_46_4 h3 h8]
theorem st_45 {wh li am : Int32} {T c j : Nat} {M : fl_M} (h3 : ¬ c = T + 3) (h4 : ¬ c = T + 4) (h8 : ¬ c = T + 8) (h2 : ¬ (c = T ∧ 2 ≤ j ∧ j ≤ 4)) : m_45 wh li am T M c j = M c j := by
  unfold m_45
  split
  · rw [fl_uo (by omega)]
  · split
    · rw [fl_uo (by omega)]
    · split
      · rw [fl_uo (by omega)]
      · rw [st_46 h3 h4 h8 (by omega)]
/-- a deed set down -/
theorem m44_eq {wh li am : Int32} {D n : Nat} {C : fl_M} (hn : (C D 0).toInt = n) (h4 : n < 40) : m_44 wh li am D C = fl_u (fl_u (fl_u (fl_u C (D + 1) n wh) (D + 2) n li) (D + 3) n am) D 0 (C D 0 + 1) := by
  have e := fj_nn hn
  unfold m_44
  rw [if_neg (fun z => by rw [fi_l, fi_i0] at z; omega), if_pos (by rw [fi_l, hn, fi_i40]; omega)]
  have a1 : ∀ (X : fl_M) (i : Nat) (v : Int32), fl_u X (D + 1) i v D = X D := fun X i v => fl_un (by omega)
  have a2 : ∀ (X : fl_M) (i : Nat) (v : Int32), fl_u X (D + 2) i v D = X D := fun X i v => fl_un (by omega)
  have a3 : ∀ (X : fl_M) (i : Nat) (v : Int32), fl_u X (D + 3) i v D = X D := fun X i v => fl_un (by omega)
  simp only [a1, a2, a3, e]
theorem tr_cc {T b : Nat} {C C' R : fl_M} (h : tr T b C R) (e : ∀ k, k < 9 → C' (T + k) = C (T + k)) : tr T b C' R := by
  have e0 := e 0 (by omega)
  rw [Nat.add_zero] at e0
  have e3 := e 3 (by omega)
  have e4 := e 4 (by omega)
  have e8 := e 8 (by omega)
  refine ⟨tr_sc h.1 (by rw [e0]) (by rw [e0]) (fun k hk => e k (by omega)) rfl rfl (fun _ _ => rfl), ?_⟩
  unfold tr_d
  rw [e0, e3, e4, e8]
  exact h.2
/-! What a year of the reference leaves alone in its row; begun anew; done again. -/
theorem wr_b {R : fl_M} {bI i : Int32} (h8 : (R 81 1).toInt ≤ 8) : (lr_134_9 bI i (-9) 0 R).1 = (-9) ∨ (0 ≤ (lr_134_9 bI i (-9) 0 R).1.toInt ∧ (lr_134_9 bI i (-9) 0 R).1.toInt ≤ 7) := by
  unfold lr_134_9 lq_134_9
  have e1 := fi_cl (R 81 1)
  have key := it_p (f := ls_134_9 bI i R) (n := (R 81 1).toNatClampNeg) (a := (-9, 0)) (fun m q => q.1 = (-9) ∨ (0 ≤ q.1.toInt ∧ q.1.toInt < m)) (Or.inl rfl) (fun m q hm hq => ?_)
  · rcases key with k | ⟨k1, k2⟩
    · exact Or.inl k
    · exact Or.inr ⟨k1, by omega⟩
  · have em := fi_ti (m := m) (by omega)
    have old : q.1 = (-9) ∨ (0 ≤ q.1.toInt ∧ q.1.toInt < ((m + 1 : Nat) : Int)) := by
      rcases hq with h | ⟨h1, h2⟩
      · exact Or.inl h
      · exact Or.inr ⟨h1, by omega⟩
    have new : Int32.ofNat m = (-9) ∨ (0 ≤ (Int32.ofNat m).toInt ∧ (Int32.ofNat m).toInt < ((m + 1 : Nat) : Int)) := Or.inr ⟨by omega, by omega⟩
    unfold ls_134_9
    (repeat' split) <;> first | exact new | exact old
theorem pf_5 {R : fl_M} {bI s : Int32} {b : Nat} (hb : tr_b bI b) (h8 : (R 81 1).toInt ≤ 8) (h4 : (R 81 4).toInt ≤ 4) {j : Nat} (hj : j ≤ b ∨ b + 24 ≤ j) : (lr_150_5 bI s 0 R).2 82 j = R 82 j ∧ (lr_150_5 bI s 0 R).2 81 = R 81 := by
  unfold lr_150_5 lq_150_5
  have e4 := fi_cl (R 81 4)
  have key := it_p (f := ls_150_5 bI s) (n := (R 81 4).toNatClampNeg) (a := (0, R)) (fun m q => q.2 82 j = R 82 j ∧ q.2 81 = R 81) ⟨rfl, rfl⟩ (fun m q hm hq => ?_)
  · exact key
  · obtain ⟨q1, q2⟩ := hq
    have em := fi_ti (m := m) (by omega)
    have w := wr_b (R := q.2) (bI := bI) (i := Int32.ofNat m) (by rw [q2]; exact h8)
    unfold ls_150_5
    generalize (lr_134_9 bI (Int32.ofNat m) (-9) 0 q.2).1 = w' at w
    have iP : (bI + 20 + Int32.ofNat m).toNatClampNeg = b + 20 + (Int32.ofNat m).toNatClampNeg := tr_i2 hb (c := 20) fj_20 (by decide) (by omega) (by omega)
    have en := fi_at (m := m) (by omega)
    split
    · exact ⟨q1, q2⟩
    · split
      · exact ⟨q1, q2⟩
      · rename_i c1 c2
        rcases w with w | ⟨w0, w7⟩
        · exact absurd w c2
        · have iL : (bI + 4 + w').toNatClampNeg = b + 4 + w'.toNatClampNeg := tr_i2 hb (c := 4) fi_i4 (by decide) w0 (by omega)
          have ew := fi_cl w'
          split
          · dsimp only
            rw [iP, iL, en, fl_uo (Or.inr (by omega)), fl_uo (Or.inr (by omega)), fl_un (by decide), fl_un (by decide)]
            exact ⟨q1, q2⟩
          · dsimp only
            rw [iP, iL, en, fl_uo (Or.inr (by omega)), fl_uo (Or.inr (by omega)), fl_un (by decide), fl_un (by decide)]
            exact ⟨q1, q2⟩
theorem pf_130 {R : fl_M} {bI : Int32} {b : Nat} (hb : tr_b bI b) (h8 : (R 81 1).toInt ≤ 8) {j : Nat} (hj : j ≤ b ∨ b + 24 ≤ j) : (lr_150_130 bI R) 82 j = R 82 j := by
  unfold lr_150_130 lq_150_130
  have e4 := fi_cl (R 81 1)
  refine it_p (f := ls_150_130 bI) (n := (R 81 1).toNatClampNeg) (a := R) (fun m q => q 82 j = R 82 j) rfl (fun m q hm hq => ?_)
  have em := fi_ti (m := m) (by omega)
  have en := fi_at (m := m) (by omega)
  have iC : (bI + 12 + Int32.ofNat m).toNatClampNeg = b + 12 + m := by rw [tr_i2 hb (c := 12) fj_12 (by decide) (by omega) (by omega), en]
  unfold ls_150_130
  rw [iC]
  split
  · rw [fl_uo (Or.inr (by omega))]
    exact hq
  · rw [fl_uo (Or.inr (by omega))]
    exact hq
/-- a year of the reference's writes its own 23 places alone -/
theorem pf_150 {R : fl_M} {bI s : Int32} {b : Nat} (hb : tr_b bI b) (h8 : (R 81 1).toInt ≤ 8) (h4 : (R 81 4).toInt ≤ 4) {j : Nat} (hj : j ≤ b ∨ b + 24 ≤ j) : m_150 bI s R 82 j = R 82 j := by
  unfold m_150
  obtain ⟨p1, p2⟩ := pf_5 (s := s) hb h8 h4 hj
  rw [tr_i1 hb (c := 1) fi_i1 (by decide), fl_uo (Or.inr (by omega)), pf_130 hb (by rw [p2]; exact h8) hj, p1]
/-- begun anew -/
theorem bg_1 {T : Nat} {E : fl_M} (h8 : (E T 0).toNatClampNeg ≤ 8) : ∀ c j, lr_22_18 T E c j = if c = T + 3 ∧ j < (E T 0).toNatClampNeg then E (T + 2) j else if c = T + 4 ∧ j < (E T 0).toNatClampNeg then 0 else E c j := by
  unfold lr_22_18 lq_22_18
  refine it_p (f := ls_22_18 T) (n := (E T 0).toNatClampNeg) (a := E) (fun m q => ∀ c j, q c j = if c = T + 3 ∧ j < m then E (T + 2) j else if c = T + 4 ∧ j < m then 0 else E c j) (fun c j => by rw [if_neg (by omega), if_neg (by omega)]) (fun m q hm hq c j => ?_)
  have en := fi_at (m := m) (by omega)
  unfold ls_22_18
  rw [en]
  by_cases h3 : c = T + 3
  · subst h3
    rw [fl_uo (Or.inl (by omega))]
    by_cases hj : j = m
    · subst hj
      rw [fl_us, hq, if_neg (by omega), if_neg (by omega), if_pos ⟨rfl, by omega⟩]
    · rw [fl_uo (Or.inr hj), hq]
      by_cases hjm : j < m
      · rw [if_pos ⟨rfl, hjm⟩, if_pos ⟨rfl, by omega⟩]
      · rw [if_neg (by omega), if_neg (by omega), if_neg (by omega), if_neg (by omega)]
  · rw [if_neg (c := c = T + 3 ∧ j < m + 1) (by omega)]
    by_cases h4 : c = T + 4
    · subst h4
      by_cases hj : j = m
      · subst hj
        rw [fl_us, if_pos ⟨rfl, by omega⟩]
      · rw [fl_uo (Or.inr hj), fl_uo (Or.inl (by omega)), hq, if_neg (c := T + 4 = T + 3 ∧ j < m) (by omega)]
        by_cases hjm : j < m
        · rw [if_pos ⟨rfl, hjm⟩, if_pos ⟨rfl, by omega⟩]
        · rw [if_neg (by omega), if_neg (by omega)]
    · rw [fl_uo (Or.inl h4), fl_uo (Or.inl h3), hq, if_neg (by omega), if_neg (by omega), if_neg (by omega)]
theorem bg_2 {T : Nat} {E : fl_M} (h4 : (E T 1).toNatClampNeg ≤ 4) : ∀ c j, lr_22_53 T E c j = if c = T + 8 ∧ j < (E T 1).toNatClampNeg then E (T + 7) j else E c j := by
  unfold lr_22_53 lq_22_53
  refine it_p (f := ls_22_53 T) (n := (E T 1).toNatClampNeg) (a := E) (fun m q => ∀ c j, q c j = if c = T + 8 ∧ j < m then E (T + 7) j else E c j) (fun c j => by rw [if_neg (by omega)]) (fun m q hm hq c j => ?_)
  have en := fi_at (m := m) (by omega)
  unfold ls_22_53
  rw [en]
  by_cases h3 : c = T + 8
  · subst h3
    by_cases hj : j = m
    · subst hj
      rw [fl_us, hq, if_neg (by omega), if_pos ⟨rfl, by omega⟩]
    · rw [fl_uo (Or.inr hj), hq]
      by_cases hjm : j < m
      · rw [if_pos ⟨rfl, hjm⟩, if_pos ⟨rfl, by omega⟩]
      · rw [if_neg (by omega), if_neg (by omega)]
  · rw [fl_uo (Or.inl h3), hq, if_neg (by omega), if_neg (by omega)]
/-- the register as it is begun anew -/
def bgn (T : Nat) (C : fl_M) : fl_M := lr_22_53 T (lr_22_18 T (fl_u (fl_u (fl_u C T 2 0) T 3 (-9)) T 4 0))
theorem bg_eq {T : Nat} {C : fl_M} (h8 : (C T 0).toNatClampNeg ≤ 8) (h4 : (C T 1).toNatClampNeg ≤ 4) : (∀ c, c ≠ T → c ≠ T + 3 → c ≠ T + 4 → c ≠ T + 8 → bgn T C c = C c) ∧ bgn T C T 0 = C T 0 ∧ bgn T C T 1 = C T 1 ∧ bgn T C T 2 = 0 ∧ bgn T C T 3 = -9 ∧ bgn T C T 4 = 0 ∧ (∀ l, l < (C T 0).toNatClampNeg → bgn T C (T + 3) l = C (T + 2) l ∧ bgn T C (T + 4) l = 0) ∧ (∀ i, i < (C T 1).toNatClampNeg → bgn T C (T + 8) i = C (T + 7) i) := by
  obtain ⟨E, hE⟩ : ∃ E : fl_M, E = fl_u (fl_u (fl_u C T 2 0) T 3 (-9)) T 4 0 := ⟨_, rfl⟩
  have eO : ∀ c, c ≠ T → E c = C c := fun c hc => by rw [hE, fl_un hc, fl_un hc, fl_un hc]
  have e0 : E T 0 = C T 0 := by rw [hE, fl_uo (Or.inr (by decide)), fl_uo (Or.inr (by decide)), fl_uo (Or.inr (by decide))]
  have e1 : E T 1 = C T 1 := by rw [hE, fl_uo (Or.inr (by decide)), fl_uo (Or.inr (by decide)), fl_uo (Or.inr (by decide))]
  have e2 : E T 2 = 0 := by rw [hE, fl_uo (Or.inr (by decide)), fl_uo (Or.inr (by decide)), fl_us]
  have e3 : E T 3 = -9 := by rw [hE, fl_uo (Or.inr (by decide)), fl_us]
  have e4 : E T 4 = 0 := by rw [hE, fl_us]
  have f1 := bg_1 (T := T) (E := E) (by rw [e0]; exact h8)
  rw [e0] at f1
  have t1 : ∀ j, lr_22_18 T E T j = E T j := fun j => by rw [f1, if_neg (by omega), if_neg (by omega)]
  have f2 := bg_2 (T := T) (E := lr_22_18 T E) (by rw [t1, e1]; exact h4)
  rw [t1, e1] at f2
  have hb : bgn T C = lr_22_53 T (lr_22_18 T E) := by unfold bgn; rw [hE]
  have tT : ∀ j, bgn T C T j = E T j := fun j => by rw [hb, f2, if_neg (by omega), t1]
  refine ⟨fun c h1 h2 h3 h4 => ?_, by rw [tT, e0], by rw [tT, e1], by rw [tT, e2], by rw [tT, e3], by rw [tT, e4], fun l hl => ⟨?_, ?_⟩, fun i hi => ?_⟩
  · funext j
    rw [hb, f2, if_neg (by omega), f1, if_neg (by omega), if_neg (by omega), eO c h1]
  · rw [hb, f2, if_neg (by omega), f1, if_pos ⟨rfl, hl⟩, eO _ (by omega)]
  · rw [hb, f2, if_neg (by omega), f1, if_neg (by omega), if_pos ⟨rfl, hl⟩]
  · rw [hb, f2, if_pos ⟨rfl, hi⟩, f1, if_neg (by omega), if_neg (by omega), eO _ (by omega)]
/-- begun anew: what was first -/
theorem bg_tr {x : Nat} {C R : fl_M} (h : tr_s 15 C R) (hf : ch_f x C R) : tr 15 x (bgn 15 C) R := by
  obtain ⟨s1, s2, s3, s4, s5, s6⟩ := h
  obtain ⟨f1, f2, f3, f4, f5, f6⟩ := hf
  obtain ⟨g0, g1, g2, g3, g4, g5, g6, g7⟩ := bg_eq (T := 15) (C := C) (by rw [fi_cl]; omega) (by rw [fi_cl]; omega)
  refine ⟨tr_sc ⟨s1, s2, s3, s4, s5, s6⟩ g1 g2 (fun k hk => g0 _ (by omega) (by omega) (by omega) (by omega)) rfl rfl (fun _ _ => rfl), ?_⟩
  unfold tr_d
  rw [g1, g2, g3, g4, g5, f1, f2, f3]
  refine ⟨rfl, rfl, rfl, fun l hl => ?_, fun i hi => ?_, fun l _ h2 => f5 l h2⟩
  · obtain ⟨a1, a2⟩ := g6 l hl
    obtain ⟨b1, b2, b3⟩ := f4 l hl
    have e := (s5 l hl).2
    have n8 : l < 8 := by rw [fi_cl] at hl; omega
    rw [a1, a2, b1, f5 l n8, e]
    exact ⟨⟨rfl, b2, b3⟩, rfl, by decide, by decide⟩
  · rw [g7 i hi]
    obtain ⟨b1, b2⟩ := f6 i hi
    exact ⟨b1.symm, b2⟩
/-- the deeds done again, as far as n -/
theorem ag_tr {D b sz n : Nat} {C R E : fl_M} (hw : ch_w D b C R sz) (hn : n ≤ sz) (h4 : n ≤ 40) (h0 : tr 15 (hb b sz 0) E R) (hE : (E 42 0).toNatClampNeg = n) (hD : ∀ m, m < n → E 43 m = C (D + 1) m ∧ E 44 m = C (D + 2) m ∧ E 45 m = C (D + 3) m) : tr 15 (hb b sz n) (lr_51_9 E) R ∧ (∀ c, (c < 15 ∨ 24 ≤ c) → lr_51_9 E c = E c) ∧ (∀ k, (k = 0 ∨ k = 1) → lr_51_9 E 15 k = E 15 k) ∧ lr_51_9 E 22 = E 22 := by
  have fr : ∀ c, (c < 15 ∨ 24 ≤ c) → lr_51_9 E c = E c := fun c hc => by funext j; exact fr_51_9 (by omega)
  have key := it_p (f := ls_51_9) (n := n) (a := E) (fun m q => tr 15 (hb b sz m) q R ∧ (∀ c, (c < 15 ∨ 24 ≤ c) → q c = E c) ∧ (∀ k, (k = 0 ∨ k = 1) → q 15 k = E 15 k) ∧ q 22 = E 22) ⟨h0, fun _ _ => rfl, fun _ _ => rfl, rfl⟩ (fun m q hm hq => ?_)
  · unfold lr_51_9 lq_51_9
    rw [hE]
    exact key
  · obtain ⟨q1, q2, q3, q4⟩ := hq
    have en := fi_at (m := m) (by omega)
    obtain ⟨d1, d2, d3⟩ := hD m hm
    unfold ls_51_9
    rw [en, q2 43 (by omega), q2 44 (by omega), q2 45 (by omega), d1, d2, d3]
    refine ⟨hw m (by omega) q q1, fun c hc => ?_, fun k hk => ?_, ?_⟩
    · funext j
      rw [st_45 (by omega) (by omega) (by omega) (by omega), q2 c hc]
    · rw [st_45 (by omega) (by omega) (by omega) (by omega), q3 k hk]
    · funext j
      rw [st_45 (by omega) (by omega) (by omega) (by omega), q4]
/-! All of the registers: as it is, its deeds, the kept ones. -/
def kh (D b : Nat) (C R : fl_M) : Prop := C D 0 = R 82 b ∧ -1 ≤ (C D 0).toInt ∧ (C D 0).toInt ≤ 40 ∧ (0 ≤ (C D 0).toInt → ch D b C R (C D 0).toNatClampNeg)
def tt (C R : fl_M) : Prop := tr 15 0 C R ∧ kh 42 0 C R ∧ 0 ≤ (C 42 0).toInt ∧ ∀ k, k < 3 → kh (47 + 4 * k) (944 + 944 * k) C R
theorem kh_mv {D b D' b' : Nat} {C R C' R' : fl_M} (h : kh D b C R) (h8 : (C 15 0).toNatClampNeg ≤ 8 ∧ (C 15 1).toNatClampNeg ≤ 4) (r1 : R' 81 1 = R 81 1) (r4 : R' 81 4 = R 81 4) (eR : ∀ k, (83 ≤ k ∧ k ≤ 86) → R' k = R k) (hbb : ∀ j, j < 944 → R' 82 (b' + j) = R 82 (b + j)) (hD0 : C' D' 0 = C D 0) (hD : ∀ n, n < (C D 0).toNatClampNeg → C' (D' + 1) n = C (D + 1) n ∧ C' (D' + 2) n = C (D + 2) n ∧ C' (D' + 3) n = C (D + 3) n) (e0 : C' 15 0 = C 15 0) (e1 : C' 15 1 = C 15 1) (e22 : C' 22 = C 22) : kh D' b' C' R' := by
  obtain ⟨k1, k2, k3, k4⟩ := h
  have a := hbb 0 (by omega)
  rw [Nat.add_zero, Nat.add_zero] at a
  unfold kh
  rw [hD0]
  refine ⟨by rw [k1, a], k2, k3, fun h0 => ?_⟩
  exact ch_mv (k4 h0) (by rw [fi_cl]; omega) h8 r1 r4 eR (fun j _ hj => hbb j hj) hD e0 e1 e22
/-- what the tie doesn't see may change -/
theorem tt_c {C C' R R' : fl_M} (h : tt C R) (eC : ∀ c, ((15 ≤ c ∧ c ≤ 23) ∨ (42 ≤ c ∧ c ≤ 58)) → C' c = C c) (r1 : R' 81 1 = R 81 1) (r4 : R' 81 4 = R 81 4) (eR : ∀ k, (83 ≤ k ∧ k ≤ 86) → R' k = R k) (e82 : ∀ j, j < 3776 → R' 82 j = R 82 j) : tt C' R' := by
  obtain ⟨t1, t2, t3, t4⟩ := h
  have h8 := tr_n t1
  have e15 : C' 15 = C 15 := eC 15 (by omega)
  have e22 : C' 22 = C 22 := eC 22 (by omega)
  refine ⟨tr_rc (tr_cc t1 (fun k hk => eC _ (by omega))) r1 r4 eR (fun k h1 h2 => e82 _ (by omega)), kh_mv t2 h8 r1 r4 eR (fun j hj => e82 _ (by omega)) (by rw [eC 42 (by omega)]) (fun n _ => by rw [eC (42 + 1) (by omega), eC (42 + 2) (by omega), eC (42 + 3) (by omega)]; exact ⟨rfl, rfl, rfl⟩) (by rw [e15]) (by rw [e15]) e22, by rw [eC 42 (by omega)]; exact t3, fun k hk => ?_⟩
  exact kh_mv (t4 k hk) h8 r1 r4 eR (fun j hj => e82 _ (by omega)) (by rw [eC _ (by omega)]) (fun n _ => by rw [eC (47 + 4 * k + 1) (by omega), eC (47 + 4 * k + 2) (by omega), eC (47 + 4 * k + 3) (by omega)]; exact ⟨rfl, rfl, rfl⟩) (by rw [e15]) (by rw [e15]) e22
/-- a deed, on both sides -/
def kp (R : fl_M) : fl_M := fl_u (lr_149_2 R) 82 0 ((lr_149_2 R) 82 0 + 1)
theorem kp_e {C R : fl_M} (h : tt C R) (h4 : (C 42 0).toInt < 40) : (∀ c, c ≠ 82 → kp R c = R c) ∧ kp R 82 0 = R 82 0 + 1 ∧ (∀ j, 1 ≤ j → kp R 82 j = if 24 + 23 * (C 42 0).toNatClampNeg ≤ j ∧ j < 24 + 23 * (C 42 0).toNatClampNeg + 23 then R 82 (1 + (j - (24 + 23 * (C 42 0).toNatClampNeg))) else R 82 j) := by
  obtain ⟨t1, ⟨k1, k2, k3, k4⟩, t3, t4⟩ := h
  have e := fi_cl (C 42 0)
  have hk := kp_eq (R := R) (n := (C 42 0).toNatClampNeg) (by rw [← k1]; omega) (by omega)
  unfold kp
  refine ⟨fun c hc => ?_, ?_, fun j hj => ?_⟩
  · funext j
    rw [fl_uo (Or.inl hc), hk, if_neg (fun z => hc z.1)]
  · rw [fl_us, hk, if_neg (by omega)]
  · rw [fl_uo (Or.inr (by omega)), hk]
    by_cases hc : 24 + 23 * (C 42 0).toNatClampNeg ≤ j ∧ j < 24 + 23 * (C 42 0).toNatClampNeg + 23
    · rw [if_pos ⟨rfl, hc⟩, if_pos hc]
    · rw [if_neg (fun z => hc z.2), if_neg hc]
theorem do_tr {wh li am : Int32} {C R : fl_M} (h : tt C R) (h4 : (C 42 0).toInt < 40) : tr 15 0 (m_44 wh li am 42 C) (kp R) := by
  obtain ⟨e1, e2, e3⟩ := kp_e h h4
  refine tr_rc (tr_cc h.1 (fun k hk => ?_)) (by rw [e1 81 (by decide)]) (by rw [e1 81 (by decide)]) (fun k hk => e1 k (by omega)) (fun k h1 h2 => ?_)
  · funext j
    exact fr_44 (by omega)
  · rw [Nat.zero_add, e3 k h1, if_neg (by omega)]
theorem do_tt {wh li am : Int32} {C R R' : fl_M} (h : tt C R) (h4 : (C 42 0).toInt < 40) (r1 : ∀ c, c ≠ 82 → c ≤ 86 → R' c = kp R c) (r2 : ∀ j, 24 ≤ j → j < 3776 → R' 82 j = kp R 82 j) (r0 : R' 82 0 = kp R 82 0) (hop : ∀ M, tr 15 0 M (kp R) → tr 15 0 (m_45 wh li am 15 M) R') : tt (m_45 wh li am 15 (m_44 wh li am 42 C)) R' := by
  have t0 := do_tr (wh := wh) (li := li) (am := am) h h4
  obtain ⟨e1, e2, e3⟩ := kp_e h h4
  obtain ⟨t1, ⟨k1, k2, k3, k4⟩, t3, t4⟩ := h
  have h8 := tr_n t1
  have e := fi_cl (C 42 0)
  have hm := m44_eq (wh := wh) (li := li) (am := am) (D := 42) (C := C) (n := (C 42 0).toNatClampNeg) (by omega) (by omega)
  have c45 : ∀ c, (c < 15 ∨ 24 ≤ c) → m_45 wh li am 15 (m_44 wh li am 42 C) c = m_44 wh li am 42 C c := fun c hc => by funext j; exact fr_45 (by omega)
  have c15 : ∀ c, 15 ≤ c → c ≤ 23 → m_44 wh li am 42 C c = C c := fun c h1 h2 => by funext j; exact fr_44 (by omega)
  have x0 : m_45 wh li am 15 (m_44 wh li am 42 C) 15 0 = C 15 0 := by rw [st_45 (by omega) (by omega) (by omega) (by omega), c15 15 (by omega) (by omega)]
  have x1 : m_45 wh li am 15 (m_44 wh li am 42 C) 15 1 = C 15 1 := by rw [st_45 (by omega) (by omega) (by omega) (by omega), c15 15 (by omega) (by omega)]
  have x22 : m_45 wh li am 15 (m_44 wh li am 42 C) 22 = C 22 := by funext j; rw [st_45 (by omega) (by omega) (by omega) (by omega), c15 22 (by omega) (by omega)]
  have s42 : m_45 wh li am 15 (m_44 wh li am 42 C) 42 0 = C 42 0 + 1 := by rw [c45 42 (by omega), hm, fl_us]
  have i1 : (C 42 0 + 1).toInt = (C 42 0).toInt + 1 := fi_p1 (by omega)
  have q1 : R' 81 1 = R 81 1 := by rw [r1 81 (by decide) (by decide), e1 81 (by decide)]
  have q4 : R' 81 4 = R 81 4 := by rw [r1 81 (by decide) (by decide), e1 81 (by decide)]
  have qR : ∀ k, (83 ≤ k ∧ k ≤ 86) → R' k = R k := fun k hk => by rw [r1 k (by omega) (by omega), e1 k (by omega)]
  refine ⟨hop _ t0, ⟨?_, ?_, ?_, fun _ => ?_⟩, ?_, fun k hk => ?_⟩
  · rw [s42, r0, e2, k1]
  · rw [s42]; omega
  · rw [s42]; omega
  · rw [s42, show (C 42 0 + 1).toNatClampNeg = (C 42 0).toNatClampNeg + 1 by rw [fi_cl, i1]; omega]
    refine ch_add (k4 t3) (by omega) h8 e1 (fun j h1 h2 => e3 j h1) r1 (fun j h1 h2 => r2 j h1 (by omega)) hop (fun m hm' => ?_) ?_ ?_ ?_ x0 x1 x22
    · rw [c45 (42 + 1) (by omega), c45 (42 + 2) (by omega), c45 (42 + 3) (by omega), hm]
      refine ⟨?_, ?_, ?_⟩
      · rw [fl_uo (Or.inl (by omega)), fl_uo (Or.inl (by omega)), fl_uo (Or.inl (by omega)), fl_uo (Or.inr (by omega))]
      · rw [fl_uo (Or.inl (by omega)), fl_uo (Or.inl (by omega)), fl_uo (Or.inr (by omega)), fl_uo (Or.inl (by omega))]
      · rw [fl_uo (Or.inl (by omega)), fl_uo (Or.inr (by omega)), fl_uo (Or.inl (by omega)), fl_uo (Or.inl (by omega))]
    · rw [c45 (42 + 1) (by omega), hm, fl_uo (Or.inl (by omega)), fl_uo (Or.inl (by omega)), fl_uo (Or.inl (by omega)), fl_us]
    · rw [c45 (42 + 2) (by omega), hm, fl_uo (Or.inl (by omega)), fl_uo (Or.inl (by omega)), fl_us]
    · rw [c45 (42 + 3) (by omega), hm, fl_uo (Or.inl (by omega)), fl_us]
  · rw [s42]; omega
  · have cK : ∀ c, 47 ≤ c → m_45 wh li am 15 (m_44 wh li am 42 C) c = C c := fun c hc => by rw [c45 c (by omega)]; funext j; exact fr_44 (by omega)
    refine kh_mv (t4 k hk) h8 q1 q4 qR (fun j hj => ?_) (by rw [cK _ (by omega)]) (fun n _ => by rw [cK _ (by omega), cK _ (by omega), cK _ (by omega)]; exact ⟨rfl, rfl, rfl⟩) x0 x1 x22
    rw [r2 _ (by omega) (by omega), e3 _ (by omega), if_neg (by omega)]
/-- a year -/
theorem yr_p {C R : fl_M} (h : tt C R) : v_42 C = v_148 R ∧ tt (m_42 C) (m_148 R) := by
  have hh := h
  obtain ⟨t1, ⟨k1, k2, k3, k4⟩, t3, t4⟩ := h
  have s4 := t1.1.2.1
  unfold v_42 v_148 m_42 m_148
  rw [← s4, ← k1]
  by_cases c1 : C 15 1 = 0
  · rw [if_pos c1, if_pos c1, if_pos c1, if_pos c1]
    exact ⟨rfl, hh⟩
  · rw [if_neg c1, if_neg c1, if_neg c1, if_neg c1]
    by_cases c2 : C 42 0 = 40
    · have c3 : ¬ C 42 0 < 40 := fun z => by rw [c2] at z; exact absurd z (by decide)
      rw [if_neg c3, if_pos c2, if_neg c3, if_pos c2]
      exact ⟨rfl, hh⟩
    · have h4 : (C 42 0).toInt < 40 := by
        have := fi_ne c2
        rw [fi_i40] at this
        omega
      have c3 : C 42 0 < 40 := by rw [fi_l, fi_i40]; exact h4
      rw [if_pos c3, if_neg c2, if_pos c3, if_neg c2]
      have t0 := do_tr (wh := 0) (li := 0) (am := 0) hh h4
      have e45 : ∀ M, m_45 0 0 0 15 M = m_46 0 15 M := fun M => by unfold m_45; rw [if_neg (by decide), if_neg (by decide), if_neg (by decide)]
      have v45 : ∀ M, v_45 0 0 0 15 M = (lr_46_4 0 0 15 M).1 := fun M => by unfold v_45; rw [if_neg (by decide), if_neg (by decide), if_neg (by decide)]
      have n8 : (kp R 81 1).toInt ≤ 8 ∧ (kp R 81 4).toInt ≤ 4 := by
        rw [← t0.1.1, ← t0.1.2.1]
        exact ⟨t0.1.2.2.1.2, t0.1.2.2.2.1.2⟩
      refine ⟨?_, ?_⟩
      · rw [v45]
        exact (py_eq t0 tr_b0 0).1
      · refine do_tt hh h4 (fun c h1 _ => by funext j; exact fw_150 h1) (fun j h1 _ => pf_150 tr_b0 n8.1 n8.2 (Or.inr (by omega))) (pf_150 tr_b0 n8.1 n8.2 (Or.inl (by omega))) (fun M hM => ?_)
        rw [e45]
        exact (py_eq hM tr_b0 0).2
/-! Cheese, the cat, wax. -/
theorem ln_A {x l : Int32} (h0 : 0 ≤ x.toInt) (h8 : x.toInt ≤ 40) : ((¬ (l < 0)) ∧ (¬ (x - 1 < l))) ↔ ¬ ((l < 0) ∨ (¬ (l < x))) := by
  rw [fi_l, fi_l, fi_l, fi_sub (by rw [fi_i1]; omega) (by rw [fi_i1]; omega), fi_i0, fi_i1]
  omega
theorem ln_R {x l : Int32} (h : ¬ ((l < 0) ∨ (¬ (l < x)))) : 0 ≤ l.toInt ∧ l.toInt < x.toInt ∧ l.toNatClampNeg < x.toNatClampNeg := by
  rw [fi_l, fi_l, fi_i0] at h
  rw [fi_cl, fi_cl]
  omega
theorem tt_n {C R : fl_M} (h : tt C R) : (0 ≤ (C 15 0).toInt ∧ (C 15 0).toInt ≤ 8) ∧ (0 ≤ (C 15 1).toInt ∧ (C 15 1).toInt ≤ 4) ∧ C 15 0 = R 81 1 ∧ C 15 1 = R 81 4 ∧ C 42 0 = R 82 0 ∧ 0 ≤ (C 42 0).toInt ∧ (C 42 0).toInt ≤ 40 := ⟨h.1.1.2.2.1, h.1.1.2.2.2.1, h.1.1.1, h.1.1.2.1, h.2.1.1, h.2.2.1, h.2.1.2.2.1⟩
/-- a deed more, if there is room -/
theorem rm_d {x : Int32} (h : x.toInt ≤ 40) : (x < 40 ↔ ¬ x = 40) := by
  rw [fi_l, fi_e, fi_i40]
  omega
theorem ch_p {C R : fl_M} (h : tt C R) (l n : Int32) : v_47 l n C = v_151 l n R ∧ tt (m_47 l n C) (m_151 l n R) := by
  obtain ⟨a0, a1, s1, s4, sd, d0, d4⟩ := tt_n h
  have hA := ln_A (x := C 15 0) (l := l) a0.1 (by omega)
  unfold v_47 v_151 m_47 m_151
  rw [← s1, ← sd]
  by_cases c1 : (l < 0) ∨ (¬ (l < (C 15 0)))
  · simp only [if_pos c1, if_neg (fun z => hA.mp z c1)]
    exact ⟨trivial, h⟩
  · simp only [if_neg c1, if_pos (hA.mpr c1)]
    obtain ⟨l0, l1, l2⟩ := ln_R c1
    obtain ⟨l7, -, dC, -⟩ := tr_l h.1 tr_b0 l0 l2
    have ecl := fi_cl l
    have iC : (12 + l).toNatClampNeg = 12 + l.toNatClampNeg := fj_nn (fj_pa (a := 12) rfl (show l.toInt = (l.toNatClampNeg : Nat) by rw [fi_cl]; omega) (by omega))
    have i0 : (0 + 12 + l : Int32).toNatClampNeg = 12 + l.toNatClampNeg := by rw [tr_i2 tr_b0 (c := 12) fj_12 (by decide) l0 (by omega)]
    rw [i0] at dC
    obtain ⟨-, -, c0, c9⟩ := h.1.2.2.2.2.1 _ l2
    by_cases c2 : n < 1
    · simp only [if_pos c2, if_neg (fun z : (¬ (n < 1)) ∧ (¬ (9 < n)) => z.1 c2)]
      exact ⟨trivial, h⟩
    · simp only [if_neg c2]
      by_cases c3 : 9 < n
      · simp only [if_pos c3, if_neg (fun z : (¬ (n < 1)) ∧ (¬ (9 < n)) => z.2 c3)]
        exact ⟨trivial, h⟩
      · simp only [if_neg c3, if_pos (⟨c2, c3⟩ : (¬ (n < 1)) ∧ (¬ (9 < n)))]
        rw [iC, dC]
        have n1 := fi_ge.mp c2
        have n9 := fi_ge.mp c3
        rw [fi_i1] at n1
        rw [show (9 : Int32).toInt = 9 from rfl] at n9
        have es : (C 19 l.toNatClampNeg + n).toInt = (C 19 l.toNatClampNeg).toInt + n.toInt := fi_add (by show -2147483648 ≤ (C (15 + 4) l.toNatClampNeg).toInt + n.toInt; omega) (by show (C (15 + 4) l.toNatClampNeg).toInt + n.toInt < 2147483648; omega)
        by_cases c4 : 20 < C 19 l.toNatClampNeg + n
        · have c4' : 20 < C (15 + 4) l.toNatClampNeg + n := c4
          simp only [if_pos c4, if_pos c4']
          exact ⟨trivial, h⟩
        · have c4' : ¬ 20 < C (15 + 4) l.toNatClampNeg + n := c4
          simp only [if_neg c4, if_neg c4']
          have e20 := fi_ge.mp c4
          rw [fj_20, es] at e20
          by_cases c5 : C 42 0 = 40
          · simp only [if_neg (fun z => (rm_d d4).mp z c5), if_pos c5]
            exact ⟨trivial, h⟩
          · have c6 := (rm_d d4).mpr c5
            simp only [if_pos c6, if_neg c5]
            have h4 : (C 42 0).toInt < 40 := by rw [fi_l, fi_i40] at c6; exact c6
            obtain ⟨e1, e2, e3⟩ := kp_e h h4
            have t0 := do_tr (wh := 1) (li := l) (am := n) h h4
            show v_45 1 l n 15 (m_44 1 l n 42 C) = fl_u (kp R) 82 (12 + l.toNatClampNeg) ((kp R) 82 (12 + l.toNatClampNeg) + n) 82 (12 + l.toNatClampNeg) ∧ tt (m_45 1 l n 15 (m_44 1 l n 42 C)) (fl_u (kp R) 82 (12 + l.toNatClampNeg) ((kp R) 82 (12 + l.toNatClampNeg) + n))
            have op : ∀ M, tr 15 0 M (kp R) → M (15 + 4) l.toNatClampNeg = (kp R) 82 (12 + l.toNatClampNeg) ∧ (if (M (15 + 4) l.toNatClampNeg) + n < 20 then (M (15 + 4) l.toNatClampNeg) + n else 20) = (kp R) 82 (12 + l.toNatClampNeg) + n ∧ 0 ≤ ((kp R) 82 (12 + l.toNatClampNeg) + n).toInt ∧ ((kp R) 82 (12 + l.toNatClampNeg) + n).toInt ≤ 20 ∧ l.toNatClampNeg < (M 15 0).toNatClampNeg := by
              intro M hM
              have hl : l.toNatClampNeg < (M 15 0).toNatClampNeg := by rw [hM.1.1, e1 81 (by decide), ← s1]; exact l2
              obtain ⟨-, m2, -, -⟩ := hM.2.2.2.2.1 _ hl
              have m2 : M (15 + 4) l.toNatClampNeg = kp R 82 (12 + l.toNatClampNeg) := by rw [m2, Nat.zero_add]
              have eR : kp R 82 (12 + l.toNatClampNeg) = C 19 l.toNatClampNeg := by rw [e3 _ (by omega), if_neg (by omega), dC]
              rw [m2, eR]
              refine ⟨rfl, ?_, ?_, ?_, hl⟩
              · by_cases c7 : C 19 l.toNatClampNeg + n < 20
                · rw [if_pos c7]
                · rw [if_neg c7]
                  have e := fi_ge.mp c7
                  rw [fj_20, es] at e
                  rw [fi_e, es, fj_20]
                  omega
              · rw [es]
                show 0 ≤ (C (15 + 4) l.toNatClampNeg).toInt + n.toInt
                omega
              · rw [es]; exact e20
            refine ⟨?_, do_tt h h4 (fun c h1 _ => fl_un h1) (fun j h1 _ => fl_uo (Or.inr (by omega))) (fl_uo (Or.inr (by omega))) (fun M hM => ?_)⟩
            · obtain ⟨o1, o2, -⟩ := op _ t0
              unfold v_45
              rw [if_pos rfl, fl_us, fl_us]
              exact o2
            · obtain ⟨o1, o2, o3, o4, o5⟩ := op M hM
              have g := tr_uc (v := kp R 82 (12 + l.toNatClampNeg) + n) hM o5 ⟨o3, o4⟩
              rw [Nat.zero_add] at g
              unfold m_45
              rw [if_pos rfl, o2]
              exact g
/-- the cat is set -/
theorem ct_d {C R : fl_M} (h : tt C R) (h4 : (C 42 0).toInt < 40) (l am : Int32) : tt (m_45 2 l am 15 (m_44 2 l am 42 C)) (fl_u (kp R) 82 2 l) := by
  refine do_tt h h4 (fun c h1 _ => fl_un h1) (fun j h1 _ => fl_uo (Or.inr (by omega))) (fl_uo (Or.inr (by omega))) (fun M hM => ?_)
  have g := tr_u0 (k := 1) (v := l) hM (by decide)
  unfold m_45
  rw [if_neg (by decide), if_pos rfl]
  exact g
theorem wx_d {C R : fl_M} (h : tt C R) (h4 : (C 42 0).toInt < 40) (l am : Int32) : tt (m_45 3 l am 15 (m_44 3 l am 42 C)) (fl_u (kp R) 82 3 ((kp R) 82 3 ^^^ ((1 : Int32) <<< (l &&& 31)))) := by
  refine do_tt h h4 (fun c h1 _ => fl_un h1) (fun j h1 _ => fl_uo (Or.inr (by omega))) (fl_uo (Or.inr (by omega))) (fun M hM => ?_)
  have g := tr_u0 (k := 2) (v := (kp R) 82 3 ^^^ ((1 : Int32) <<< (l &&& 31))) hM (by decide)
  have e : M 15 4 = kp R 82 3 := hM.2.2.2.1
  unfold m_45
  rw [if_neg (by decide), if_neg (by decide), if_pos rfl, e]
  exact g
theorem ct_p {C R : fl_M} (h : tt C R) (l : Int32) : v_48 l C = v_152 l R ∧ tt (m_48 l C) (m_152 l R) := by
  obtain ⟨a0, a1, s1, s4, sd, d0, d4⟩ := tt_n h
  have hA := ln_A (x := C 15 0) (l := l) a0.1 (by omega)
  have k2 : C 15 3 = R 82 2 := h.1.2.2.1
  have tail : (if (C 15 1) = 0 then (-4) else (if (C 15 3) = l then (-4) else (if (C 42 0) < 40 then v_45 2 l 0 15 (m_44 2 l 0 42 C) else (-2)))) = (if (R 81 4) = 0 then (-4) else (if (R 82 2) = l then (-4) else (if (R 82 0) = 40 then (-2) else R 82 2))) ∧ tt (if (C 15 1) = 0 then C else (if (C 15 3) = l then C else (if (C 42 0) < 40 then (m_45 2 l 0 15 (m_44 2 l 0 42 C)) else C))) (if (R 81 4) = 0 then R else (if (R 82 2) = l then R else (if (R 82 0) = 40 then R else (fl_u (fl_u (lr_149_2 R) 82 0 (((lr_149_2 R) 82 0) + 1)) 82 2 l)))) := by
    rw [← s4, ← k2, ← sd]
    by_cases c1 : C 15 1 = 0
    · simp only [if_pos c1]
      exact ⟨trivial, h⟩
    · simp only [if_neg c1]
      by_cases c2 : C 15 3 = l
      · simp only [if_pos c2]
        exact ⟨trivial, h⟩
      · simp only [if_neg c2]
        by_cases c5 : C 42 0 = 40
        · simp only [if_neg (fun z => (rm_d d4).mp z c5), if_pos c5]
          exact ⟨trivial, h⟩
        · have c6 := (rm_d d4).mpr c5
          simp only [if_pos c6, if_neg c5]
          have h4 : (C 42 0).toInt < 40 := by rw [fi_l, fi_i40] at c6; exact c6
          refine ⟨?_, ct_d h h4 l 0⟩
          unfold v_45
          rw [if_neg (by decide), if_pos rfl, fr_44 (by omega)]
  unfold v_48 v_152 m_48 m_152
  by_cases c0 : l = (-9)
  · simp only [if_pos c0]
    exact tail
  · simp only [if_neg c0]
    rw [← s1]
    by_cases c1 : (l < 0) ∨ (¬ (l < (C 15 0)))
    · simp only [if_pos c1, if_neg (fun z => hA.mp z c1)]
      exact ⟨trivial, h⟩
    · simp only [if_neg c1, if_pos (hA.mpr c1)]
      exact tail
theorem wx_p {C R : fl_M} (h : tt C R) (l : Int32) : v_49 l C = v_153 l R ∧ tt (m_49 l C) (m_153 l R) := by
  obtain ⟨a0, a1, s1, s4, sd, d0, d4⟩ := tt_n h
  have hA := ln_A (x := C 15 0) (l := l) a0.1 (by omega)
  unfold v_49 v_153 m_49 m_153
  rw [← s1, ← sd]
  by_cases c1 : (l < 0) ∨ (¬ (l < (C 15 0)))
  · simp only [if_pos c1, if_neg (fun z => hA.mp z c1)]
    exact ⟨trivial, h⟩
  · simp only [if_neg c1, if_pos (hA.mpr c1)]
    by_cases c5 : C 42 0 = 40
    · simp only [if_neg (fun z => (rm_d d4).mp z c5), if_pos c5]
      exact ⟨trivial, h⟩
    · have c6 := (rm_d d4).mpr c5
      simp only [if_pos c6, if_neg c5]
      have h4 : (C 42 0).toInt < 40 := by rw [fi_l, fi_i40] at c6; exact c6
      have w := wx_d h h4 l 0
      have t0 := do_tr (wh := 3) (li := l) (am := 0) h h4
      have e : m_44 3 l 0 42 C 15 4 = kp R 82 3 := t0.2.2.2.1
      unfold kp at w e
      refine ⟨?_, w⟩
      unfold v_45
      rw [if_neg (by decide), if_neg (by decide), if_pos rfl, fl_us, e]
/-! Undone, kept, gone on from. -/
theorem ix_r {α γ : Type} {f : Nat → α → γ ⊕ α} {g : Nat → α → α} (h : ∀ m q, f m q = .inr (g m q)) (n : Nat) (a : α) : fx_ix f n a = .inr (fx_it g n a) := by
  induction n with
  | zero => rfl
  | succ n ih => exact ix_s1 ih (h n _)
theorem un_e {R : fl_M} {n many : Int32} {k : Nat} (hk : n.toInt = k) (h4 : k ≤ 40) (hm : 0 < many) : ∀ c j, lr_154_29 n many R c j = if c = 82 ∧ 1 ≤ j ∧ j < 1 + 23 then R 82 (24 + 23 * k + (j - 1)) else R c j := by
  unfold lr_154_29 lq_154_29
  rw [ix_r (g := fun m q => fl_u q 82 ((1 + (Int32.ofNat m)).toNatClampNeg) (q 82 (((24 + (23 * n)) + (Int32.ofNat m)).toNatClampNeg))) (fun m q => by unfold ls_154_29; rw [if_pos hm])]
  unfold fx_ib
  dsimp only
  refine cp_it (fun m q hm' hq => ?_) (Or.inl (by omega))
  have em := fi_ti (m := m) (by omega)
  have e1 : (23 * n : Int32).toInt = ((23 * k : Nat) : Int) := by
    rw [fi_mul (by rw [hk, show (23 : Int32).toInt = 23 from rfl]; omega) (by rw [hk, show (23 : Int32).toInt = 23 from rfl]; omega), hk, show (23 : Int32).toInt = 23 from rfl]
    omega
  have e2 := fj_pa (x := 24) (y := 23 * n) (a := 24) (c := 23 * k) rfl e1 (by omega)
  have e3 := fj_pa (x := 24 + 23 * n) (y := Int32.ofNat m) e2 em (by omega)
  have e4 := fj_pa (x := 1) (y := Int32.ofNat m) (a := 1) (c := m) rfl em (by omega)
  show fl_u q 82 ((1 + (Int32.ofNat m)).toNatClampNeg) (q 82 (((24 + (23 * n)) + (Int32.ofNat m)).toNatClampNeg)) = _
  rw [fj_nn e3, fj_nn e4]
theorem un_0 {R : fl_M} {n many : Int32} (hm : ¬ 0 < many) : lr_154_29 n many R = R := by
  unfold lr_154_29 lq_154_29
  have e : fx_ix (ls_154_29 n many) 1 R = .inl R := ix_s1 (m := 0) (b := R) rfl (by unfold ls_154_29; rw [if_neg hm])
  rw [ix_l e (by decide)]
  rfl
theorem un_p {C R : fl_M} (h : tt C R) (n : Int32) : (¬ n = C 42 0 → v_50 n C = v_154 n R) ∧ tt (m_50 n C) (m_154 n R) := by
  obtain ⟨a0, a1, s1, s4, sd, d0, d4⟩ := tt_n h
  have ed := fi_cl (C 42 0)
  have en := fi_cl n
  unfold v_50 v_154 m_50 m_154
  rw [← sd]
  by_cases c1 : n < 0
  · simp only [if_pos c1, if_neg (fun z : (¬ (n < 0)) ∧ (¬ (C 42 0 < n)) => z.1 c1)]
    exact ⟨fun _ => trivial, h⟩
  · simp only [if_neg c1]
    have n0 := fi_ge.mp c1
    rw [fi_i0] at n0
    by_cases c2 : n < C 42 0
    · have n2 := fi_l.mp c2
      have c3 : ¬ C 42 0 < n := fun z => by rw [fi_l] at z; omega
      simp only [if_pos c2, if_pos (⟨c1, c3⟩ : (¬ (n < 0)) ∧ (¬ (C 42 0 < n)))]
      refine ⟨fun _ => trivial, ?_⟩
      have hmany : 0 < C 42 0 - n := by rw [fi_l, fi_i0, fi_sub (by omega) (by omega)]; omega
      have eR := un_e (R := R) (n := n) (many := C 42 0 - n) (k := n.toNatClampNeg) (by omega) (by omega) hmany
      obtain ⟨t1, ⟨k1, k2, k3, k4⟩, t3, t4⟩ := h
      obtain ⟨hw, hf⟩ := k4 t3
      have h8 := tr_n t1
      -- the reference
      obtain ⟨R', hR'⟩ : ∃ R' : fl_M, R' = fl_u (lr_154_29 n (C 42 0 - n) R) 82 0 n := ⟨_, rfl⟩
      rw [← hR']
      have q : ∀ c, c ≠ 82 → R' c = R c := fun c hc => by funext j; rw [hR', fl_uo (Or.inl hc), eR, if_neg (fun z => hc z.1)]
      have q0 : R' 82 0 = n := by rw [hR', fl_us]
      have q1 : ∀ j, 1 ≤ j → j < 24 → R' 82 j = R 82 (23 + 23 * n.toNatClampNeg + j) := fun j h1 h2 => by
        rw [hR', fl_uo (Or.inr (by omega)), eR, if_pos ⟨rfl, by omega, by omega⟩, show 24 + 23 * n.toNatClampNeg + (j - 1) = 23 + 23 * n.toNatClampNeg + j by omega]
      have q2 : ∀ j, 24 ≤ j → R' 82 j = R 82 j := fun j h1 => by
        rw [hR', fl_uo (Or.inr (by omega)), eR, if_neg (by omega)]
      -- the class
      obtain ⟨E, hE⟩ : ∃ E : fl_M, E = fl_u C 42 0 n := ⟨_, rfl⟩
      have eE : ∀ c, c ≠ 42 → E c = C c := fun c hc => by rw [hE, fl_un hc]
      have eb : lr_22_53 15 (lr_22_18 15 (fl_u (fl_u (fl_u (fl_u C 42 0 n) 15 2 0) 15 3 (-9)) 15 4 0)) = bgn 15 E := by unfold bgn; rw [hE]
      rw [eb]
      have tE : tr_s 15 E R := (tr_cc t1 (fun k hk => eE _ (by omega))).1
      have fE : ch_f (hb 0 (C 42 0).toNatClampNeg 0) E R := by
        unfold ch_f
        rw [eE 15 (by decide), eE 22 (by decide)]
        exact hf
      have b1 := bg_tr tE fE
      obtain ⟨g0, g1, g2, -⟩ := bg_eq (T := 15) (C := E) (by rw [eE 15 (by decide)]; exact h8.1) (by rw [eE 15 (by decide)]; exact h8.2)
      have x42 : bgn 15 E 42 = E 42 := g0 42 (by omega) (by omega) (by omega) (by omega)
      obtain ⟨r1, r2, r3, r4⟩ := ag_tr (D := 42) (b := 0) (sz := (C 42 0).toNatClampNeg) (n := n.toNatClampNeg) (C := C) (R := R) (E := bgn 15 E) hw (by omega) (by omega) b1 (by rw [x42, hE, fl_us]) (fun m hm => by rw [g0 43 (by omega) (by omega) (by omega) (by omega), g0 44 (by omega) (by omega) (by omega) (by omega), g0 45 (by omega) (by omega) (by omega) (by omega), eE 43 (by decide), eE 44 (by decide), eE 45 (by decide)]; exact ⟨rfl, rfl, rfl⟩)
      have hbn : hb 0 (C 42 0).toNatClampNeg n.toNatClampNeg = 0 + 23 + 23 * n.toNatClampNeg := if_pos (by omega)
      have f42 : lr_51_9 (bgn 15 E) 42 0 = n := by rw [r2 42 (by omega), x42, hE, fl_us]
      have fO : ∀ c, (c < 15 ∨ 24 ≤ c) → c ≠ 42 → lr_51_9 (bgn 15 E) c = C c := fun c hc h42 => by rw [r2 c hc, g0 c (by omega) (by omega) (by omega) (by omega), eE c h42]
      have f0 : lr_51_9 (bgn 15 E) 15 0 = C 15 0 := by rw [r3 0 (Or.inl rfl), g1, eE 15 (by decide)]
      have f1 : lr_51_9 (bgn 15 E) 15 1 = C 15 1 := by rw [r3 1 (Or.inr rfl), g2, eE 15 (by decide)]
      have f22 : lr_51_9 (bgn 15 E) 22 = C 22 := by rw [r4, g0 22 (by omega) (by omega) (by omega) (by omega), eE 22 (by decide)]
      have sR1 : R' 81 1 = R 81 1 := by rw [q 81 (by decide)]
      have sR4 : R' 81 4 = R 81 4 := by rw [q 81 (by decide)]
      have sRR : ∀ k, (83 ≤ k ∧ k ≤ 86) → R' k = R k := fun k hk => q k (by omega)
      refine ⟨tr_rc r1 sR1 sR4 sRR (fun k h1 h2 => ?_), ⟨by rw [f42, q0], by rw [f42]; omega, by rw [f42]; omega, fun _ => ?_⟩, by rw [f42]; exact n0, fun k hk => ?_⟩
      · rw [hbn, Nat.zero_add, Nat.zero_add, q1 k h1 h2]
      · rw [f42]
        -- the chain up to n
        have hx : ∀ m k, m ≤ n.toNatClampNeg → 1 ≤ k → k < 24 → R' 82 (hb 0 n.toNatClampNeg m + k) = R 82 (hb 0 (C 42 0).toNatClampNeg m + k) := by
          intro m k hm h1 h2
          unfold hb
          rw [if_pos (show m < (C 42 0).toNatClampNeg by omega)]
          by_cases hmn : m < n.toNatClampNeg
          · rw [if_pos hmn, q2 _ (by omega)]
          · have e : m = n.toNatClampNeg := by omega
            rw [if_neg hmn, Nat.zero_add, Nat.zero_add, q1 k h1 h2, e]
        refine ⟨fun m hm M hM => ?_, ?_⟩
        · have g : tr 15 (hb 0 (C 42 0).toNatClampNeg m) M R := tr_rc hM sR1.symm sR4.symm (fun k hk => (sRR k hk).symm) (fun k h1 h2 => (hx m k (by omega) h1 h2).symm)
          have g2 := hw m (by omega) M g
          rw [fO (42 + 1) (by omega) (by omega), fO (42 + 2) (by omega) (by omega), fO (42 + 3) (by omega) (by omega)]
          exact tr_rc g2 sR1 sR4 sRR (fun k h1 h2 => hx (m + 1) k (by omega) h1 h2)
        · have y := fun k => hx 0 k (Nat.zero_le _)
          obtain ⟨f1', f2', f3', f4', f5', f6'⟩ := hf
          unfold ch_f
          rw [f0, f1, f22, y 1 (by omega) (by omega), y 2 (by omega) (by omega), y 3 (by omega) (by omega), sRR 84 (by omega)]
          refine ⟨f1', f2', f3', fun l hl => ?_, fun l hl => ?_, fun i hi => ?_⟩
          · have a1 := y (4 + l) (by omega) (by omega)
            rw [← Nat.add_assoc, ← Nat.add_assoc] at a1
            rw [a1]
            exact f4' l hl
          · have a1 := y (12 + l) (by omega) (by omega)
            rw [← Nat.add_assoc, ← Nat.add_assoc] at a1
            rw [a1]
            exact f5' l hl
          · have a1 := y (20 + i) (by omega) (by omega)
            rw [← Nat.add_assoc, ← Nat.add_assoc] at a1
            rw [a1]
            exact f6' i hi
      · refine kh_mv (t4 k hk) h8 sR1 sR4 sRR (fun j hj => q2 _ (by omega)) (by rw [fO _ (by omega) (by omega)]) (fun n _ => by rw [fO _ (by omega) (by omega), fO _ (by omega) (by omega), fO _ (by omega) (by omega)]; exact ⟨rfl, rfl, rfl⟩) f0 f1 f22
    · simp only [if_neg c2]
      have n2 := fi_ge.mp c2
      by_cases c3 : C 42 0 < n
      · simp only [if_neg (fun z : (¬ (n < 0)) ∧ (¬ (C 42 0 < n)) => z.2 c3)]
        exact ⟨fun _ => trivial, h⟩
      · have n3 := fi_ge.mp c3
        simp only [if_pos (⟨c1, c3⟩ : (¬ (n < 0)) ∧ (¬ (C 42 0 < n)))]
        have e : n = C 42 0 := fi_e.mpr (by omega)
        refine ⟨fun z => absurd e z, ?_⟩
        have hmany : ¬ 0 < C 42 0 - n := by rw [fi_l, fi_i0, fi_sub (by omega) (by omega)]; omega
        rw [un_0 hmany]
        refine tt_c h (fun _ _ => rfl) (fl_uo (Or.inl (by decide))) (fl_uo (Or.inl (by decide))) (fun k hk => fl_un (by omega)) (fun j hj => ?_)
        by_cases hj0 : j = 0
        · subst hj0
          rw [fl_us, e, sd]
        · rw [fl_uo (Or.inr hj0)]
/-! Kept, and gone on from. -/
theorem ka_46 (j : Nat) : fl_ar 46 j = 47 + 4 * j := by
  unfold fl_ar
  rw [if_pos rfl]
theorem dt_eq {K O : Nat} {E : fl_M} (hd : K + 4 ≤ O ∨ O + 4 ≤ K) (h4 : (E K 0).toNatClampNeg ≤ 40) : ∀ c j, lr_54_10 K O E c j = if (K + 1 ≤ c ∧ c ≤ K + 3) ∧ j < (E K 0).toNatClampNeg then E (O + (c - K)) j else E c j := by
  unfold lr_54_10 lq_54_10
  refine it_p (f := ls_54_10 K O) (n := (E K 0).toNatClampNeg) (a := E) (fun m q => ∀ c j, q c j = if (K + 1 ≤ c ∧ c ≤ K + 3) ∧ j < m then E (O + (c - K)) j else E c j) (fun c j => by rw [if_neg (by omega)]) (fun m q hm hq c j => ?_)
  have en := fi_at (m := m) (by omega)
  unfold ls_54_10
  rw [en]
  have rO : ∀ k, 1 ≤ k → k ≤ 3 → q (O + k) m = E (O + k) m := fun k h1 h2 => by rw [hq, if_neg (by omega)]
  have a1 : ∀ (i : Nat) (v : Int32) (k : Nat), 1 ≤ k → k ≤ 3 → fl_u q (K + 1) i v (O + k) m = q (O + k) m := fun i v k h1 h2 => fl_uo (Or.inl (by omega))
  by_cases hj : j = m
  · subst hj
    by_cases hc : K + 1 ≤ c ∧ c ≤ K + 3
    · rw [if_pos ⟨hc, by omega⟩]
      have hk : c = K + 1 ∨ c = K + 2 ∨ c = K + 3 := by omega
      rcases hk with rfl | rfl | rfl
      · rw [fl_uo (Or.inl (by omega)), fl_uo (Or.inl (by omega)), fl_us, rO 1 (by omega) (by omega), show K + 1 - K = 1 by omega]
      · rw [fl_uo (Or.inl (by omega)), fl_us, fl_uo (Or.inl (by omega)), rO 2 (by omega) (by omega), show K + 2 - K = 2 by omega]
      · rw [fl_us, fl_uo (Or.inl (by omega)), fl_uo (Or.inl (by omega)), rO 3 (by omega) (by omega), show K + 3 - K = 3 by omega]
    · rw [if_neg (fun z => hc z.1), fl_uo (Or.inl (by omega)), fl_uo (Or.inl (by omega)), fl_uo (Or.inl (by omega)), hq, if_neg (fun z => hc z.1)]
  · rw [fl_uo (Or.inr hj), fl_uo (Or.inr hj), fl_uo (Or.inr hj), hq]
    by_cases hc : (K + 1 ≤ c ∧ c ≤ K + 3) ∧ j < m
    · rw [if_pos hc, if_pos ⟨hc.1, by omega⟩]
    · rw [if_neg hc, if_neg (by omega)]
theorem cr_eq {a b : Int32} {A B : Nat} {R : fl_M} (ha : a.toInt = A) (hb : b.toInt = B) (hA : A ≤ 3000) (hB : B ≤ 3000) (hd : B + 944 ≤ A ∨ A + 944 ≤ B) : ∀ c j, lr_156_2 a b R c j = if c = 82 ∧ B ≤ j ∧ j < B + 944 then R 82 (A + (j - B)) else R c j := by
  unfold lr_156_2 lq_156_2
  refine cp_it (fun m q hm _ => ?_) hd
  have em := fi_ti (m := m) (by omega)
  unfold ls_156_2
  rw [fj_nn (fj_pa hb em (by omega)), fj_nn (fj_pa ha em (by omega))]
theorem kb_i {k : Int32} (h0 : 0 ≤ k.toInt) (h2 : k.toInt ≤ 2) : (944 * (1 + k) : Int32).toInt = ((944 + 944 * k.toNatClampNeg : Nat) : Int) := by
  have e := fi_cl k
  have e1 : (1 + k).toInt = 1 + k.toInt := by rw [fi_add (by rw [fi_i1]; omega) (by rw [fi_i1]; omega), fi_i1]
  have e9 : (944 : Int32).toInt = 944 := rfl
  rw [fi_mul (by rw [e9, e1]; omega) (by rw [e9, e1]; omega), e9, e1]
  omega
theorem k3_A {k : Int32} : ((¬ (k < 0)) ∧ (¬ (2 < k))) ↔ ¬ ((k < 0) ∨ (¬ (k < 3))) := by
  rw [fi_l, fi_l, fi_l, fi_i0, fj_2, fi_i3]
  omega
theorem k3_R {k : Int32} (h : ¬ ((k < 0) ∨ (¬ (k < 3)))) : 0 ≤ k.toInt ∧ k.toInt ≤ 2 ∧ k.toNatClampNeg < 3 := by
  rw [fi_l, fi_l, fi_i0, fi_i3] at h
  rw [fi_cl]
  omega
theorem kp_p {C R : fl_M} (h : tt C R) (k : Int32) : v_52 k C = v_155 k R ∧ tt (m_52 k C) (m_155 k R) := by
  obtain ⟨a0, a1, s1, s4, sd, d0, d4⟩ := tt_n h
  have ed := fi_cl (C 42 0)
  unfold v_52 v_155 m_52 m_155
  rw [← s4]
  by_cases c1 : (k < 0) ∨ (¬ (k < 3))
  · simp only [if_pos c1, if_neg (fun z => k3_A.mp z c1)]
    exact ⟨trivial, h⟩
  · simp only [if_neg c1, if_pos (k3_A.mpr c1)]
    obtain ⟨k0, k2, k3⟩ := k3_R c1
    by_cases c2 : C 15 1 = 0
    · simp only [if_pos c2]
      exact ⟨trivial, h⟩
    · simp only [if_neg c2]
      have eR := cr_eq (R := R) (a := 0) (b := 944 * (1 + k)) (A := 0) rfl (kb_i k0 k2) (by omega) (by omega) (Or.inr (by omega))
      rw [ka_46]
      obtain ⟨E, hE⟩ : ∃ E : fl_M, E = fl_u C (47 + 4 * k.toNatClampNeg) 0 (C 42 0) := ⟨_, rfl⟩
      have eE : ∀ c, c ≠ 47 + 4 * k.toNatClampNeg → E c = C c := fun c hc => by rw [hE, fl_un hc]
      have eK : E (47 + 4 * k.toNatClampNeg) 0 = C 42 0 := by rw [hE, fl_us]
      have eC := dt_eq (K := 47 + 4 * k.toNatClampNeg) (O := 42) (E := E) (Or.inr (by omega)) (by rw [eK]; omega)
      rw [eK] at eC
      rw [← hE]
      have o42 : lr_54_10 (47 + 4 * k.toNatClampNeg) 42 E 42 0 = C 42 0 := by rw [eC, if_neg (by omega), eE 42 (by omega)]
      have oO : ∀ c, (c < 47 + 4 * k.toNatClampNeg ∨ 47 + 4 * k.toNatClampNeg + 4 ≤ c) → lr_54_10 (47 + 4 * k.toNatClampNeg) 42 E c = C c := fun c hc => by funext j; rw [eC, if_neg (by omega), eE c (by omega)]
      have oK : lr_54_10 (47 + 4 * k.toNatClampNeg) 42 E (47 + 4 * k.toNatClampNeg) 0 = C 42 0 := by rw [eC, if_neg (by omega), eK]
      have oD : ∀ d, 1 ≤ d → d ≤ 3 → ∀ j, j < (C 42 0).toNatClampNeg → lr_54_10 (47 + 4 * k.toNatClampNeg) 42 E (47 + 4 * k.toNatClampNeg + d) j = C (42 + d) j := fun d h1 h2 j hj => by
        rw [eC, if_pos ⟨⟨by omega, by omega⟩, hj⟩, show 42 + (47 + 4 * k.toNatClampNeg + d - (47 + 4 * k.toNatClampNeg)) = 42 + d by omega, eE _ (by omega)]
      have qO : ∀ c, c ≠ 82 → lr_156_2 0 (944 * (1 + k)) R c = R c := fun c hc => by funext j; rw [eR, if_neg (fun z => hc z.1)]
      have qL : ∀ j, j < 944 + 944 * k.toNatClampNeg ∨ 944 + 944 * k.toNatClampNeg + 944 ≤ j → lr_156_2 0 (944 * (1 + k)) R 82 j = R 82 j := fun j hj => by rw [eR, if_neg (by omega)]
      have qK : ∀ j, j < 944 → lr_156_2 0 (944 * (1 + k)) R 82 (944 + 944 * k.toNatClampNeg + j) = R 82 (0 + j) := fun j hj => by rw [eR, if_pos ⟨rfl, by omega, by omega⟩, show 944 + 944 * k.toNatClampNeg + j - (944 + 944 * k.toNatClampNeg) = j by omega]
      have x15 : lr_54_10 (47 + 4 * k.toNatClampNeg) 42 E 15 = C 15 := oO 15 (by omega)
      have x22 : lr_54_10 (47 + 4 * k.toNatClampNeg) 42 E 22 = C 22 := oO 22 (by omega)
      obtain ⟨t1, t2, t3, t4⟩ := h
      have h8 := tr_n t1
      have u1 : lr_156_2 0 (944 * (1 + k)) R 81 1 = R 81 1 := by rw [qO 81 (by decide)]
      have u4 : lr_156_2 0 (944 * (1 + k)) R 81 4 = R 81 4 := by rw [qO 81 (by decide)]
      have uR : ∀ z, (83 ≤ z ∧ z ≤ 86) → lr_156_2 0 (944 * (1 + k)) R z = R z := fun z hz => qO z (by omega)
      refine ⟨by rw [o42, qL 0 (by omega), sd], tr_rc (tr_cc t1 (fun z hz => oO _ (by omega))) u1 u4 uR (fun z h1 h2 => qL _ (by omega)), kh_mv t2 h8 u1 u4 uR (fun j hj => qL _ (by omega)) o42 (fun n _ => by rw [oO (42 + 1) (by omega), oO (42 + 2) (by omega), oO (42 + 3) (by omega)]; exact ⟨rfl, rfl, rfl⟩) (by rw [x15]) (by rw [x15]) x22, by rw [o42]; exact t3, fun q hq => ?_⟩
      by_cases hqk : q = k.toNatClampNeg
      · subst hqk
        exact kh_mv t2 h8 u1 u4 uR (fun j hj => qK j hj) oK (fun n hn => ⟨oD 1 (by omega) (by omega) n hn, oD 2 (by omega) (by omega) n hn, oD 3 (by omega) (by omega) n hn⟩) (by rw [x15]) (by rw [x15]) x22
      · exact kh_mv (t4 q hq) h8 u1 u4 uR (fun j hj => qL _ (by omega)) (by rw [oO _ (by omega)]) (fun n _ => by rw [oO _ (by omega), oO _ (by omega), oO _ (by omega)]; exact ⟨rfl, rfl, rfl⟩) (by rw [x15]) (by rw [x15]) x22
theorem on_p {C R : fl_M} (h : tt C R) (k : Int32) : v_55 k C = v_157 k R ∧ tt (m_55 k C) (m_157 k R) := by
  obtain ⟨a0, a1, s1, s4, sd, d0, d4⟩ := tt_n h
  unfold v_55 v_157 m_55 m_157
  by_cases c1 : (k < 0) ∨ (¬ (k < 3))
  · simp only [if_pos c1, if_neg (fun z => k3_A.mp z c1)]
    exact ⟨trivial, h⟩
  · simp only [if_neg c1, if_pos (k3_A.mpr c1)]
    obtain ⟨k0, k2, k3⟩ := k3_R c1
    have eb := kb_i k0 k2
    have ib : (944 * (1 + k) + 0 : Int32).toNatClampNeg = 944 + 944 * k.toNatClampNeg := by rw [Int32.add_zero]; exact fj_nn eb
    rw [ka_46, ib]
    have hk := h.2.2.2 k.toNatClampNeg k3
    obtain ⟨K1, K2, K3, K4⟩ := hk
    rw [← K1]
    by_cases c2 : C (47 + 4 * k.toNatClampNeg) 0 = (-1)
    · simp only [if_pos c2, if_pos ((ft_B K2).mpr c2)]
      refine ⟨trivial, tt_c h (fun c hc => by rw [fl_un (by omega), fl_un (by omega)]) (by rw [fl_un (by decide), fl_uo (Or.inr (by decide))]) (by rw [fl_un (by decide), fl_uo (Or.inr (by decide))]) (fun z hz => by rw [fl_un (by omega), fl_un (by omega)]) (fun j _ => by rw [fl_un (by decide), fl_un (by decide)])⟩
    · simp only [if_neg c2, if_neg (fun z => c2 ((ft_B K2).mp z))]
      have eK := fi_cl (C (47 + 4 * k.toNatClampNeg) 0)
      have kp0 : 0 ≤ (C (47 + 4 * k.toNatClampNeg) 0).toInt := by
        have z := fi_ne c2
        rw [fi_m1] at z
        omega
      obtain ⟨hw, hf⟩ := K4 kp0
      obtain ⟨t1, t2, t3, t4⟩ := h
      have h8 := tr_n t1
      have eR := cr_eq (R := R) (a := 944 * (1 + k)) (b := 0) (B := 0) eb rfl (by omega) (by omega) (Or.inl (by omega))
      obtain ⟨F, hF⟩ : ∃ F : fl_M, F = fl_u C 42 0 (C (47 + 4 * k.toNatClampNeg) 0) := ⟨_, rfl⟩
      have eF : ∀ c, c ≠ 42 → F c = C c := fun c hc => by rw [hF, fl_un hc]
      have eF0 : F 42 0 = C (47 + 4 * k.toNatClampNeg) 0 := by rw [hF, fl_us]
      have eC := dt_eq (K := 42) (O := 47 + 4 * k.toNatClampNeg) (E := F) (Or.inl (by omega)) (by rw [eF0]; omega)
      rw [eF0] at eC
      rw [← hF]
      obtain ⟨E, hE⟩ : ∃ E : fl_M, E = lr_54_10 42 (47 + 4 * k.toNatClampNeg) F := ⟨_, rfl⟩
      rw [← hE] at eC ⊢
      have oO : ∀ c, (c < 42 ∨ 46 ≤ c) → E c = C c := fun c hc => by funext j; rw [eC, if_neg (by omega), eF c (by omega)]
      have o42 : E 42 0 = C (47 + 4 * k.toNatClampNeg) 0 := by rw [eC, if_neg (by omega), eF0]
      have oD : ∀ d, 1 ≤ d → d ≤ 3 → ∀ j, j < (C (47 + 4 * k.toNatClampNeg) 0).toNatClampNeg → E (42 + d) j = C (47 + 4 * k.toNatClampNeg + d) j := fun d h1 h2 j hj => by
        rw [eC, if_pos ⟨⟨by omega, by omega⟩, hj⟩, show 47 + 4 * k.toNatClampNeg + (42 + d - 42) = 47 + 4 * k.toNatClampNeg + d by omega, eF _ (by omega)]
      have ebg : lr_22_53 15 (lr_22_18 15 (fl_u (fl_u (fl_u E 15 2 0) 15 3 (-9)) 15 4 0)) = bgn 15 E := rfl
      rw [ebg]
      have tE : tr_s 15 E R := (tr_cc t1 (fun k hk => oO _ (by omega))).1
      have fE : ch_f (hb (944 + 944 * k.toNatClampNeg) (C (47 + 4 * k.toNatClampNeg) 0).toNatClampNeg 0) E R := by
        unfold ch_f
        rw [oO 15 (by omega), oO 22 (by omega)]
        exact hf
      have b1 := bg_tr tE fE
      obtain ⟨g0, g1, g2, -⟩ := bg_eq (T := 15) (C := E) (by rw [oO 15 (by omega)]; exact h8.1) (by rw [oO 15 (by omega)]; exact h8.2)
      have x42 : bgn 15 E 42 = E 42 := g0 42 (by omega) (by omega) (by omega) (by omega)
      obtain ⟨r1, r2, r3, r4⟩ := ag_tr (D := 47 + 4 * k.toNatClampNeg) (b := 944 + 944 * k.toNatClampNeg) (sz := (C (47 + 4 * k.toNatClampNeg) 0).toNatClampNeg) (n := (C (47 + 4 * k.toNatClampNeg) 0).toNatClampNeg) (C := C) (R := R) (E := bgn 15 E) hw (by omega) (by omega) b1 (by rw [x42, o42]) (fun m hm => by rw [g0 43 (by omega) (by omega) (by omega) (by omega), g0 44 (by omega) (by omega) (by omega) (by omega), g0 45 (by omega) (by omega) (by omega) (by omega)]; exact ⟨oD 1 (by omega) (by omega) m hm, oD 2 (by omega) (by omega) m hm, oD 3 (by omega) (by omega) m hm⟩)
      have hbn : hb (944 + 944 * k.toNatClampNeg) (C (47 + 4 * k.toNatClampNeg) 0).toNatClampNeg (C (47 + 4 * k.toNatClampNeg) 0).toNatClampNeg = 944 + 944 * k.toNatClampNeg := if_neg (by omega)
      rw [hbn] at r1
      have f42 : lr_51_9 (bgn 15 E) 42 0 = C (47 + 4 * k.toNatClampNeg) 0 := by rw [r2 42 (by omega), x42, o42]
      have fE2 : ∀ c, 24 ≤ c → lr_51_9 (bgn 15 E) c = E c := fun c hc => by rw [r2 c (by omega), g0 c (by omega) (by omega) (by omega) (by omega)]
      have f0 : lr_51_9 (bgn 15 E) 15 0 = C 15 0 := by rw [r3 0 (Or.inl rfl), g1, oO 15 (by omega)]
      have f1 : lr_51_9 (bgn 15 E) 15 1 = C 15 1 := by rw [r3 1 (Or.inr rfl), g2, oO 15 (by omega)]
      have f22 : lr_51_9 (bgn 15 E) 22 = C 22 := by rw [r4, g0 22 (by omega) (by omega) (by omega) (by omega), oO 22 (by omega)]
      have qO : ∀ c, c ≠ 82 → lr_156_2 (944 * (1 + k)) 0 R c = R c := fun c hc => by funext j; rw [eR, if_neg (fun z => hc z.1)]
      have qL : ∀ j, 944 ≤ j → lr_156_2 (944 * (1 + k)) 0 R 82 j = R 82 j := fun j hj => by rw [eR, if_neg (by omega)]
      have qK : ∀ j, j < 944 → lr_156_2 (944 * (1 + k)) 0 R 82 (0 + j) = R 82 (944 + 944 * k.toNatClampNeg + j) := fun j hj => by rw [eR, if_pos ⟨rfl, by omega, by omega⟩, show 0 + j - 0 = j by omega]
      have u1 : lr_156_2 (944 * (1 + k)) 0 R 81 1 = R 81 1 := by rw [qO 81 (by decide)]
      have u4 : lr_156_2 (944 * (1 + k)) 0 R 81 4 = R 81 4 := by rw [qO 81 (by decide)]
      have uR : ∀ z, (83 ≤ z ∧ z ≤ 86) → lr_156_2 (944 * (1 + k)) 0 R z = R z := fun z hz => qO z (by omega)
      have q00 : lr_156_2 (944 * (1 + k)) 0 R 82 0 = C (47 + 4 * k.toNatClampNeg) 0 := by
        have z := qK 0 (by omega)
        rw [Nat.add_zero, Nat.add_zero] at z
        rw [z, K1]
      refine ⟨by rw [f42, q00], tr_rc r1 u1 u4 uR (fun z h1 h2 => qK z (by omega)), kh_mv ⟨K1, K2, K3, K4⟩ h8 u1 u4 uR (fun j hj => qK j hj) f42 (fun n hn => ?_) f0 f1 f22, by rw [f42]; exact kp0, fun q hq => ?_⟩
      · rw [fE2 (42 + 1) (by omega), fE2 (42 + 2) (by omega), fE2 (42 + 3) (by omega)]
        exact ⟨oD 1 (by omega) (by omega) n hn, oD 2 (by omega) (by omega) n hn, oD 3 (by omega) (by omega) n hn⟩
      · exact kh_mv (t4 q hq) h8 u1 u4 uR (fun j hj => qL _ (by omega)) (by rw [fE2 _ (by omega), oO _ (by omega)]) (fun n _ => by rw [fE2 _ (by omega), fE2 _ (by omega), fE2 _ (by omega), oO _ (by omega), oO _ (by omega), oO _ (by omega)]; exact ⟨rfl, rfl, rfl⟩) f0 f1 f22
/-! By lots. -/
theorem rm_32 {x y : Int32} (hx : 0 ≤ x.toInt) (hy : 0 < y.toInt) : (x - x / y * y).toInt = x.toInt % y.toInt := by
  have b1 := x.toInt_lt
  have b2 := y.toInt_lt
  have e1 := fj_div hx hy
  have h4 : x.toInt / y.toInt * y.toInt ≤ x.toInt := Int.ediv_mul_le _ (by omega)
  have h5 : 0 ≤ x.toInt / y.toInt * y.toInt := Int.mul_nonneg (Int.ediv_nonneg hx (by omega)) (by omega)
  have e2 : (x / y * y).toInt = x.toInt / y.toInt * y.toInt := by
    rw [fi_mul (by rw [e1]; omega) (by rw [e1]; omega), e1]
  have h6 := Int.emod_def x.toInt y.toInt
  rw [Int.mul_comm] at h6
  rw [fi_sub (by rw [e2]; omega) (by rw [e2]; omega), e2, ← h6]
theorem dv_64 {x y : Int64} (hx : 0 ≤ x.toInt) (hy : 0 < y.toInt) : (x / y).toInt = x.toInt / y.toInt := by
  have b1 := x.toInt_lt
  have h2 : 0 ≤ x.toInt / y.toInt := Int.ediv_nonneg hx (by omega)
  have h3 : x.toInt / y.toInt ≤ x.toInt := Int.ediv_le_self _ hx
  rw [Int64.toInt_div, Int.tdiv_eq_ediv_of_nonneg hx]
  unfold Int.bmod
  dsimp only
  split <;> omega
theorem n_32 {x : Int64} (h0 : 0 ≤ x.toInt) (h1 : x.toInt < 2147483648) : x.toInt32.toInt = x.toInt := by
  rw [Int64.toInt_toInt32]
  exact fi_bm (by omega) (by omega)
theorem lo_w {x : Int64} (h0 : 0 ≤ x.toInt) (h1 : x.toInt < 2147483648) {y : Int64} {z : Int32} (hy : 0 < y.toInt) (hz : z.toInt = y.toInt) : (x - x / y * y).toInt32 = x.toInt32 - x.toInt32 / z * z := by
  have e0 := n_32 h0 h1
  have e1 := eu_rem h0 hy
  have e2 := rm_32 (x := x.toInt32) (y := z) (by omega) (by omega)
  have m0 := Int.emod_nonneg x.toInt (show y.toInt ≠ 0 by omega)
  have m1 : x.toInt % y.toInt ≤ x.toInt := by
    rw [Int.emod_def]
    have := Int.mul_nonneg (show 0 ≤ y.toInt by omega) (Int.ediv_nonneg h0 (show 0 ≤ y.toInt by omega))
    omega
  rw [fi_e, e2, n_32 (by omega) (by omega), e1, e0, hz]
theorem d_42 {wh li am : Int32} {C R : fl_M} (h : tt C R) (h4 : (C 42 0).toInt < 40) : m_45 wh li am 15 (m_44 wh li am 42 C) 42 0 = C 42 0 + 1 ∧ m_45 wh li am 15 (m_44 wh li am 42 C) 15 1 = C 15 1 := by
  obtain ⟨a0, a1, s1, s4, sd, d0, d4⟩ := tt_n h
  have e := fi_cl (C 42 0)
  refine ⟨?_, ?_⟩
  · rw [fr_45 (by omega), m44_eq (n := (C 42 0).toNatClampNeg) (by omega) (by omega), fl_us]
  · rw [st_45 (by omega) (by omega) (by omega) (by omega), fr_44 (by omega)]
/-- cheese by lot -/
theorem cl_d {C R : fl_M} (h : tt C R) (h4 : (C 42 0).toInt < 40) {l a : Int32} (l0 : 0 ≤ l.toInt) (l1 : l.toNatClampNeg < (C 15 0).toNatClampNeg) (ha : 1 ≤ a.toInt ∧ a.toInt ≤ 9) {X : Int32} (hX : X = (if 20 < kp R 82 (12 + l.toNatClampNeg) + a then 20 else kp R 82 (12 + l.toNatClampNeg) + a)) : tt (m_45 1 l a 15 (m_44 1 l a 42 C)) (fl_u (kp R) 82 (12 + l.toNatClampNeg) X) := by
  obtain ⟨a0, a1, s1, s4, sd, d0, d4⟩ := tt_n h
  obtain ⟨e1, e2, e3⟩ := kp_e h h4
  have ecl := fi_cl l
  have ecn := fi_cl (C 15 0)
  refine do_tt h h4 (fun c h1 _ => fl_un h1) (fun j h1 _ => fl_uo (Or.inr (by omega))) (fl_uo (Or.inr (by omega))) (fun M hM => ?_)
  have hl : l.toNatClampNeg < (M 15 0).toNatClampNeg := by rw [hM.1.1, e1 81 (by decide), ← s1]; exact l1
  obtain ⟨-, m2, m3, m4⟩ := hM.2.2.2.2.1 _ hl
  rw [Nat.zero_add] at m2
  have m2' : M (15 + 4) l.toNatClampNeg = kp R 82 (12 + l.toNatClampNeg) := m2
  rw [m2'] at m3 m4
  generalize hx : kp R 82 (12 + l.toNatClampNeg) = x at *
  have es : (x + a).toInt = x.toInt + a.toInt := fi_add (by omega) (by omega)
  have eX : (if (M (15 + 4) l.toNatClampNeg) + a < 20 then (M (15 + 4) l.toNatClampNeg) + a else 20) = X := by
    rw [m2', hX]
    by_cases c1 : 20 < x + a
    · rw [if_pos c1, if_neg (fun z => by rw [fi_l, fj_20] at c1 z; omega)]
    · rw [if_neg c1]
      by_cases c2 : x + a < 20
      · rw [if_pos c2]
      · rw [if_neg c2, fi_e, fj_20]
        rw [fi_l, fj_20] at c1 c2
        omega
  have bX : 0 ≤ X.toInt ∧ X.toInt ≤ 20 := by
    rw [hX]
    split
    · exact ⟨by decide, by decide⟩
    · rename_i c1
      rw [fi_l, fj_20] at c1
      omega
  have g := tr_uc (v := X) hM hl bX
  rw [Nat.zero_add] at g
  unfold m_45
  rw [if_pos rfl, eX]
  exact g
theorem bl_p {C R : fl_M} (h : tt C R) (h4 : (C 42 0).toInt < 40) (hl : 0 < (C 15 0).toInt) {lot : Int64} (h0 : 0 ≤ lot.toInt) (h9 : lot.toInt < 2147483648) : tt (m_89 lot.toInt32 C) (m_189 lot (kp R)) ∧ m_89 lot.toInt32 C 42 0 = C 42 0 + 1 ∧ m_89 lot.toInt32 C 15 1 = C 15 1 := by
  obtain ⟨a0, a1, s1, s4, sd, d0, d4⟩ := tt_n h
  obtain ⟨e1, e2, e3⟩ := kp_e h h4
  have sL : kp R 81 1 = C 15 0 := by rw [e1 81 (by decide), s1]
  have ex := n_32 h0 h9
  have wL := lo_w h0 h9 (y := (C 15 0).toInt64) (z := C 15 0) (by rw [Int32.toInt_toInt64]; exact hl) (Int32.toInt_toInt64 _).symm
  have v8 : (lot / 8).toInt = lot.toInt / 8 := dv_64 h0 (by decide)
  have v64 : (lot / 64).toInt = lot.toInt / 64 := dv_64 h0 (by decide)
  have x8 : (lot.toInt32 / 8).toInt = lot.toInt / 8 := by rw [fj_div (by omega) (by decide), ex]; rfl
  have x64 : (lot.toInt32 / 64).toInt = lot.toInt / 64 := by rw [fj_div (by omega) (by decide), ex]; rfl
  have t8 : (lot / 8).toInt32 = lot.toInt32 / 8 := by rw [fi_e, n_32 (by omega) (by omega), v8, x8]
  have t64 : (lot / 64).toInt32 = lot.toInt32 / 64 := by rw [fi_e, n_32 (by omega) (by omega), v64, x64]
  have w8 := lo_w (x := lot / 8) (by omega) (by omega) (y := 8) (z := 8) (by decide) rfl
  have w64 := lo_w (x := lot / 64) (by omega) (by omega) (y := 5) (z := 5) (by decide) rfl
  rw [t8] at w8
  rw [t64] at w64
  unfold m_189 m_89
  rw [sL, wL, w8, w64]
  have bl := rm_32 (x := lot.toInt32) (y := C 15 0) (by omega) hl
  have bl0 := Int.emod_nonneg lot.toInt32.toInt (show (C 15 0).toInt ≠ 0 by omega)
  have bl1 := Int.emod_lt_of_pos lot.toInt32.toInt hl
  have bw := rm_32 (x := lot.toInt32 / 8) (y := 8) (by omega) (by decide)
  rw [fj_8] at bw
  have ba := rm_32 (x := lot.toInt32 / 64) (y := 5) (by omega) (by decide)
  rw [fi_i5] at ba
  generalize hlx : lot.toInt32 - lot.toInt32 / C 15 0 * C 15 0 = l at *
  generalize hwx : lot.toInt32 / 8 - lot.toInt32 / 8 / 8 * 8 = w at *
  generalize hax : lot.toInt32 / 64 - lot.toInt32 / 64 / 5 * 5 = a at *
  have l0 : 0 ≤ l.toInt := by omega
  have ecl := fi_cl l
  have ecn := fi_cl (C 15 0)
  have l1 : l.toNatClampNeg < (C 15 0).toNatClampNeg := by omega
  have iC : (12 + l).toNatClampNeg = 12 + l.toNatClampNeg := fj_nn (fj_pa (a := 12) rfl (show l.toInt = (l.toNatClampNeg : Nat) by omega) (by omega))
  have a1' : (1 + a).toInt = 1 + a.toInt := by rw [fi_add (by rw [fi_i1]; omega) (by rw [fi_i1]; omega), fi_i1]
  have cpos : 0 < C 15 0 := by rw [fi_l, fi_i0]; exact hl
  rw [iC, Int32.add_assoc]
  have D := fun wh li am => d_42 (wh := wh) (li := li) (am := am) h h4
  have ch := cl_d h h4 l0 l1 (a := 1 + a) (by omega) rfl
  have chX : (if w < 2 then if 20 < kp R 82 (12 + l.toNatClampNeg) + (1 + a) then fl_u (kp R) 82 (12 + l.toNatClampNeg) 20 else fl_u (kp R) 82 (12 + l.toNatClampNeg) (kp R 82 (12 + l.toNatClampNeg) + (1 + a)) else kp R) = (if w < 2 then fl_u (kp R) 82 (12 + l.toNatClampNeg) (if 20 < kp R 82 (12 + l.toNatClampNeg) + (1 + a) then 20 else kp R 82 (12 + l.toNatClampNeg) + (1 + a)) else kp R) := by
    by_cases c : w < 2
    · simp only [if_pos c]
      split <;> rfl
    · simp only [if_neg c]
  simp only [if_pos cpos]
  by_cases c2 : w < 2
  · simp only [if_pos c2] at chX ⊢
    rw [chX]
    have w01 : w = 0 ∨ w = 1 := by
      rw [fi_l, fj_2] at c2
      rw [fi_e, fi_e, fi_i0, fi_i1]
      omega
    rcases w01 with rfl | rfl
    · simp only [if_true]
      exact ⟨ch, D 1 l (1 + a)⟩
    · simp only [if_neg (show ¬ (1 : Int32) = 0 by decide), if_true]
      exact ⟨ch, D 1 l (1 + a)⟩
  · have n0 : ¬ w = 0 := fun z => by rw [z] at c2; exact c2 (by decide)
    have n1 : ¬ w = 1 := fun z => by rw [z] at c2; exact c2 (by decide)
    simp only [if_neg c2, if_neg n0, if_neg n1]
    by_cases c3 : w = 2
    · simp only [if_pos c3]
      exact ⟨ct_d h h4 l 0, D 2 l 0⟩
    · simp only [if_neg c3]
      by_cases c4 : w = 3
      · simp only [if_pos c4]
        exact ⟨wx_d h h4 l 0, D 3 l 0⟩
      · simp only [if_neg c4]
        refine ⟨?_, D 0 0 0⟩
        have t0 := do_tr (wh := 0) (li := 0) (am := 0) h h4
        have e45 : ∀ M, m_45 0 0 0 15 M = m_46 0 15 M := fun M => by unfold m_45; rw [if_neg (by decide), if_neg (by decide), if_neg (by decide)]
        have n8 : (kp R 81 1).toInt ≤ 8 ∧ (kp R 81 4).toInt ≤ 4 := by
          rw [← t0.1.1, ← t0.1.2.1]
          exact ⟨t0.1.2.2.1.2, t0.1.2.2.2.1.2⟩
        refine do_tt h h4 (fun c h1 _ => by funext j; exact fw_150 h1) (fun j h1 _ => pf_150 tr_b0 n8.1 n8.2 (Or.inr (by omega))) (pf_150 tr_b0 n8.1 n8.2 (Or.inl (by omega))) (fun M hM => ?_)
        rw [e45]
        exact (py_eq hM tr_b0 0).2
/-- how many are left in all -/
theorem al_eq {T b : Nat} {C R : fl_M} {bI : Int32} (h : tr T b C R) (hb : tr_b bI b) : lr_66_4 0 T C = lr_168_4 bI 0 R := by
  unfold lr_66_4 lr_168_4 lq_66_4 lq_168_4
  rw [← h.1.1]
  have n8 := tr_n h
  refine it_c rfl (fun m q hm => ?_)
  have em := fi_ti (m := m) (by omega)
  have en := fi_at (m := m) (by omega)
  obtain ⟨-, d1, -⟩ := tr_l h hb (l := Int32.ofNat m) (by omega) (by rw [en]; exact hm)
  unfold ls_66_4 ls_168_4
  rw [d1]
theorem lo_p {C R : fl_M} (h : tt C R) (n seed : Int32) : v_88 n seed C = v_188 n seed R ∧ tt (m_88 n seed C) (m_188 n seed R) := by
  obtain ⟨a0, a1, s1, s4, sd, d0, d4⟩ := tt_n h
  unfold v_88 v_188 m_88 m_188
  rw [← s4, ← sd]
  by_cases c1 : n < 1
  · simp only [if_pos c1, if_neg (fun z : (¬ (n < 1)) ∧ (¬ (20 < n)) => z.1 c1)]
    exact ⟨trivial, h⟩
  · simp only [if_neg c1]
    by_cases c2 : 20 < n
    · simp only [if_pos c2, if_neg (fun z : (¬ (n < 1)) ∧ (¬ (20 < n)) => z.2 c2)]
      exact ⟨trivial, h⟩
    · simp only [if_neg c2, if_pos (⟨c1, c2⟩ : (¬ (n < 1)) ∧ (¬ (20 < n)))]
      by_cases c3 : seed < 1
      · simp only [if_pos c3, if_neg (fun z : (¬ (seed < 1)) ∧ (¬ (2147483646 < seed)) => z.1 c3)]
        exact ⟨trivial, h⟩
      · simp only [if_neg c3]
        have eS : (seed < 2147483647) ↔ ¬ (2147483646 < seed) := by
          rw [fi_l, fi_l, show (2147483647 : Int32).toInt = 2147483647 from rfl, show (2147483646 : Int32).toInt = 2147483646 from rfl]
          omega
        by_cases c4 : seed < 2147483647
        · simp only [if_pos c4, if_pos (⟨c3, eS.mp c4⟩ : (¬ (seed < 1)) ∧ (¬ (2147483646 < seed)))]
          by_cases c5 : C 15 1 = 0
          · simp only [if_pos c5]
            exact ⟨trivial, h⟩
          · simp only [if_neg c5]
            by_cases c6 : 40 < C 42 0 + n
            · simp only [if_pos c6]
              exact ⟨trivial, h⟩
            · simp only [if_neg c6]
              have m1 : 0 < (C 15 1).toInt := by
                have z := fi_ne c5
                rw [fi_i0] at z
                omega
              have n1 := fi_ge.mp c1
              have n2 := fi_ge.mp c2
              rw [fi_i1] at n1
              rw [fj_20] at n2
              have n6 := fi_ge.mp c6
              rw [fi_i40, fi_add (by omega) (by omega)] at n6
              have en := fi_cl n
              have key : tt (lr_88_60 n seed.toInt64 C).2 (lr_188_58 n seed.toInt64 R).2 := by
                unfold lr_88_60 lr_188_58 lq_88_60 lq_188_58
                have k := it_r (f := ls_88_60) (g := ls_188_58) (n := n.toNatClampNeg) (a := (seed.toInt64, C)) (b := (seed.toInt64, R)) (fun m x y => x.1 = y.1 ∧ 0 ≤ x.1.toInt ∧ x.1.toInt < 2147483648 ∧ tt x.2 y.2 ∧ (x.2 42 0).toInt = (C 42 0).toInt + m ∧ x.2 15 1 = C 15 1) ?_ ?_
                · exact k.2.2.2.1
                · have s0 := fi_ge.mp c3
                  rw [fi_i1] at s0
                  have s9 := seed.toInt_lt
                  refine ⟨rfl, ?_, ?_, h, (show (C 42 0).toInt = (C 42 0).toInt + ((0 : Nat) : Int) by omega), rfl⟩
                  · rw [Int32.toInt_toInt64]; omega
                  · rw [Int32.toInt_toInt64]; omega
                · intro m x y hm hR
                  obtain ⟨xl, X⟩ := x
                  obtain ⟨yl, Y⟩ := y
                  obtain ⟨r1, r2, r3, r4, r5, r6⟩ := hR
                  dsimp only at r1 r2 r3 r4 r5 r6
                  subst r1
                  have e48 : (48271 : Int64).toInt = 48271 := rfl
                  have em : (xl * 48271).toInt = xl.toInt * 48271 := by
                    rw [Int64.toInt_mul, e48]
                    unfold Int.bmod
                    dsimp only
                    split <;> omega
                  have er := eu_rem (x := xl * 48271) (y := 2147483647) (by rw [em]; omega) (by decide)
                  have e21 : (2147483647 : Int64).toInt = 2147483647 := rfl
                  rw [e21] at er
                  have er0 := Int.emod_nonneg (xl * 48271).toInt (show (2147483647 : Int) ≠ 0 by decide)
                  have er1 := Int.emod_lt_of_pos (xl * 48271).toInt (show (0 : Int) < 2147483647 by decide)
                  unfold ls_88_60 ls_188_58
                  dsimp only
                  generalize xl * 48271 - xl * 48271 / 2147483647 * 2147483647 = L at *
                  have mX : 0 < (X 15 0).toInt := by
                    have hm1 : 0 < (X 15 1).toNatClampNeg := by rw [r6, fi_cl]; omega
                    have z := r4.1.2.2.2.2.2.1 0 hm1
                    omega
                  obtain ⟨b1, b2, b3⟩ := bl_p r4 (by omega) mX (lot := L) (by omega) (by omega)
                  have e4 : (X 42 0).toInt < 2147483647 := by omega
                  refine ⟨rfl, by omega, by omega, b1, ?_, by rw [b3, r6]⟩
                  rw [b2, fi_p1 e4, r5]
                  omega
              exact ⟨al_eq key.1 tr_b0, key⟩
        · simp only [if_neg c4, if_neg (fun z : (¬ (seed < 1)) ∧ (¬ (2147483646 < seed)) => c4 (eS.mpr z.2))]
          exact ⟨trivial, h⟩
/-! What is told; lines, mice, marks. -/
/-- whether what is asked is told alike (it wants duel's numbers) -/
def qa : Prop := False
def td (C R : fl_M) : Prop := (qa → C 0 12 = R 81 11) ∧ C 0 11 = R 81 14 ∧ ∀ f, f < 6 → C 80 f = R 91 f
def t2 (C R : fl_M) : Prop := tt C R ∧ td C R
section T2
variable {C R : fl_M}
/-- an answer told -/
theorem t2_tell (h : t2 C R) {x y : Int32} (e : x = y) : t2 (fl_u C 0 12 x) (fl_u R 81 11 y) := by
  obtain ⟨ht, d1, d2, d3⟩ := h
  refine ⟨tt_c ht (fun c hc => fl_un (by omega)) (fl_uo (Or.inr (by decide))) (fl_uo (Or.inr (by decide))) (fun k hk => fl_un (by omega)) (fun j _ => by rw [fl_un (by decide)]), ?_, ?_, fun f hf => ?_⟩
  · intro _
    rw [fl_us, fl_us, e]
  · rw [fl_uo (Or.inr (by decide)), fl_uo (Or.inr (by decide))]
    exact d2
  · rw [fl_un (by decide), fl_un (by decide)]
    exact d3 f hf
/-- a refusal -/
theorem t2_no (h : t2 C R) (v : Int32) {f : Nat} (hf : f < 6) : t2 (fl_u (fl_u C 0 11 v) 80 f (C 80 f + 1)) (fl_u (fl_u R 81 14 v) 91 f (R 91 f + 1)) := by
  obtain ⟨ht, d1, d2, d3⟩ := h
  refine ⟨tt_c ht (fun c hc => by rw [fl_un (by omega), fl_un (by omega)]) (by rw [fl_un (by decide), fl_uo (Or.inr (by decide))]) (by rw [fl_un (by decide), fl_uo (Or.inr (by decide))]) (fun k hk => by rw [fl_un (by omega), fl_un (by omega)]) (fun j _ => by rw [fl_un (by decide), fl_un (by decide)]), ?_, ?_, fun g hg => ?_⟩
  · rw [fl_un (c := 0) (a := 80) (by decide), fl_un (c := 81) (a := 91) (by decide), fl_uo (Or.inr (by decide)), fl_uo (Or.inr (by decide))]
    exact d1
  · rw [fl_un (c := 0) (a := 80) (by decide), fl_un (c := 81) (a := 91) (by decide), fl_us, fl_us]
  · by_cases hgf : g = f
    · subst hgf
      rw [fl_us, fl_us, d3 g hg]
    · rw [fl_uo (Or.inr hgf), fl_uo (Or.inr hgf), fl_un (by decide), fl_un (by decide)]
      exact d3 g hg
/-- what neither the registers nor what is told see -/
theorem t2_c {C' R' : fl_M} (h : t2 C R) (eC : ∀ c, (c = 0 ∨ c = 80 ∨ (15 ≤ c ∧ c ≤ 23) ∨ (42 ≤ c ∧ c ≤ 58)) → C' c = C c) (eR : ∀ k, (k = 81 ∨ (83 ≤ k ∧ k ≤ 86) ∨ k = 91) → R' k = R k) (e82 : ∀ j, j < 3776 → R' 82 j = R 82 j) : t2 C' R' := by
  obtain ⟨ht, d1, d2, d3⟩ := h
  refine ⟨tt_c ht (fun c hc => eC c (by omega)) (by rw [eR 81 (by omega)]) (by rw [eR 81 (by omega)]) (fun k hk => eR k (by omega)) e82, ?_, ?_, fun f hf => ?_⟩
  · rw [eC 0 (by omega), eR 81 (by omega)]; exact d1
  · rw [eC 0 (by omega), eR 81 (by omega)]; exact d2
  · rw [eC 80 (by omega), eR 91 (by omega)]; exact d3 f hf
end T2
section Q
variable {T b : Nat} {C R : fl_M} {bI : Int32}
theorem ea_eq (h : tr T b C R) (hb : tr_b bI b) : lr_61_4 0 T C = lr_163_4 bI 0 R := by
  unfold lr_61_4 lr_163_4 lq_61_4 lq_163_4
  rw [← h.1.1]
  have n8 := tr_n h
  refine it_c rfl (fun m q hm => ?_)
  have em := fi_ti (m := m) (by omega)
  have en := fi_at (m := m) (by omega)
  obtain ⟨-, d1, -⟩ := tr_l h hb (l := Int32.ofNat m) (by omega) (by rw [en]; exact hm)
  unfold ls_61_4 ls_163_4
  rw [d1]
theorem mt_eq (h : tr T 0 C R) (l : Int32) : lr_27_4 l 0 T C = lr_133_4 l 0 R := by
  unfold lr_27_4 lr_133_4 lq_27_4 lq_133_4
  rw [← h.1.2.1]
  have n8 := tr_n h
  refine it_c rfl (fun m q hm => ?_)
  have em := fi_ti (m := m) (by omega)
  have en := fi_at (m := m) (by omega)
  have w := (wa_eq h tr_b0 (i := Int32.ofNat m) (by omega) (by rw [en]; exact hm)).1
  unfold ls_27_4 ls_133_4
  rw [w, Int32.or_zero]
theorem lk_eq (h : tr T 0 C R) {i : Int32} (h0 : 0 ≤ i.toInt) (hi : i.toNatClampNeg < (C T 1).toNatClampNeg) : lr_38_4 i 0 T C = lr_145_4 i 0 R := by
  unfold lr_38_4 lr_145_4 lq_38_4 lq_145_4
  rw [← h.1.1]
  have n8 := tr_n h
  refine it_c rfl (fun m q hm => ?_)
  have em := fi_ti (m := m) (by omega)
  have en := fi_at (m := m) (by omega)
  have w := v136_eq h tr_b0 h0 hi (l := Int32.ofNat m) (by omega) (by rw [en]; exact hm)
  unfold ls_38_4 ls_145_4
  rw [w]
theorem lw_eq (h : tr T b C R) : lr_39_4 0 T C = lr_146_4 0 R := by
  unfold lr_39_4 lr_146_4 lq_39_4 lq_146_4
  rw [← h.1.1]
  have n8 := tr_n h
  refine it_c rfl (fun m q hm => ?_)
  have en := fi_at (m := m) (by omega)
  unfold ls_39_4 ls_146_4
  rw [en, (h.1.2.2.2.2.1 m hm).1]
  generalize R 83 m = w
  by_cases c : w < 4
  · rw [if_pos c, if_neg (fun z => by rw [fi_l, fi_i4] at c; rw [fi_l, fi_i3] at z; omega)]
  · rw [if_neg c, if_pos (by rw [fi_l, fi_i4] at c; rw [fi_l, fi_i3]; omega)]
theorem it_ap {α : Type} (f : Nat → α → α) (n m : Nat) (a : α) (h : ∀ k q, n ≤ k → k < n + m → f k q = q) : fx_it f (n + m) a = fx_it f n a := by
  induction m with
  | zero => rfl
  | succ m ih =>
    rw [← Nat.add_assoc, fx_it_s, h _ _ (by omega) (by omega)]
    exact ih (fun k q h1 h2 => h k q h1 (by omega))
theorem cs_eq (h : tr T 0 C R) : lr_41_4 0 T C = lr_147_4 0 R := by
  unfold lr_41_4 lr_147_4 lq_41_4 lq_147_4
  have n8 := tr_n h
  have e8 : 8 = (C T 0).toNatClampNeg + (8 - (C T 0).toNatClampNeg) := by omega
  rw [e8, it_ap (ls_147_4 R) _ _ _ (fun k q h1 h2 => ?_)]
  · refine it_c rfl (fun m q hm => ?_)
    have em := fi_ti (m := m) (by omega)
    have en := fi_at (m := m) (by omega)
    obtain ⟨-, -, d1, -⟩ := tr_l h tr_b0 (l := Int32.ofNat m) (by omega) (by rw [en]; exact hm)
    have e0 : (0 + 12 + Int32.ofNat m : Int32) = 12 + Int32.ofNat m := by rw [Int32.zero_add]
    rw [e0] at d1
    unfold ls_41_4 ls_147_4
    rw [d1]
  · have em := fi_ti (m := k) (by omega)
    have d6 := h.2.2.2.2.2.2 k h1 (by omega)
    rw [Nat.zero_add] at d6
    unfold ls_147_4
    rw [fj_nn (fj_pa (x := 12) (y := Int32.ofNat k) (a := 12) rfl em (by omega)), d6, Int32.add_zero]
theorem is_eq {K kind : Int32} (h : ¬ kind = 0) : ((kind = 0) ∨ ((K = kind) ∨ (((K = 4) ∧ ((kind = 2) ∨ ((K = 5) ∧ (kind = 3)))) ∨ ((¬ (K = 4)) ∧ ((K = 5) ∧ (kind = 3)))))) ↔ ((K = kind) ∨ (((kind = 2) ∧ ((K = 4) ∨ ((kind = 3) ∧ (K = 5)))) ∨ ((¬ (kind = 2)) ∧ ((kind = 3) ∧ (K = 5))))) := by
  simp only [fi_e, fi_i0, fj_2, fi_i3, fi_i4, fi_i5] at h ⊢
  omega
theorem th_eq (h : tr T b C R) {kind : Int32} (hk : ¬ kind = 0) : lr_95_4 kind 0 T C = lr_195_4 kind 0 R := by
  unfold lr_95_4 lr_195_4 lq_95_4 lq_195_4
  rw [← h.1.2.1]
  have n8 := tr_n h
  refine it_c rfl (fun m q hm => ?_)
  have en := fi_at (m := m) (by omega)
  unfold ls_95_4 ls_195_4
  rw [en, (h.1.2.2.2.2.2 m hm).1]
  have e := is_eq (K := R 85 m) hk
  by_cases c : (R 85 m = kind) ∨ (((kind = 2) ∧ ((R 85 m = 4) ∨ ((kind = 3) ∧ (R 85 m = 5)))) ∨ ((¬ (kind = 2)) ∧ ((kind = 3) ∧ (R 85 m = 5))))
  · rw [if_pos c, if_pos (e.mpr c)]
  · rw [if_neg c, if_neg (fun z => c (e.mp z))]
end Q
section PQ
variable {C R : fl_M}
theorem v26_eq (h : tt C R) {l wh : Int32} (l0 : 0 ≤ l.toInt) (l1 : l.toNatClampNeg < (C 15 0).toNatClampNeg) : v_26 l wh C = v_132 l wh R := by
  obtain ⟨l7, dL, dC, dW⟩ := tr_l h.1 tr_b0 l0 l1
  have e4 : (0 + 4 + l : Int32) = 4 + l := by rw [Int32.zero_add]
  have e12 : (0 + 12 + l : Int32) = 12 + l := by rw [Int32.zero_add]
  rw [e4] at dL
  rw [e12] at dC
  have dK := (h.1.1.2.2.2.2.1 _ l1).2
  have d4 : C 15 4 = R 82 3 := h.1.2.2.2.1
  have dM := mt_eq h.1 l
  unfold v_26 v_132
  rw [dL, dC, ← dW, ← dK, d4, dM]
theorem v34_eq (h : tt C R) {i wh : Int32} (i0 : 0 ≤ i.toInt) (i1 : i.toNatClampNeg < (C 15 1).toNatClampNeg) : v_34 i wh C = v_141 i wh R := by
  obtain ⟨i3, dP, dK, dT⟩ := tr_m h.1 tr_b0 i0 i1
  have e20 : (0 + 20 + i : Int32) = 20 + i := by rw [Int32.zero_add]
  rw [e20] at dP
  have dE := v35_eq h.1 i1
  have dW := (wa_eq h.1 tr_b0 i0 i1).1
  have dE' : v_35 (C 20 i.toNatClampNeg) (C 21 i.toNatClampNeg) = v_142 i R := dE
  unfold v_34 v_141
  rw [dP, dK, dT, dE', dW]
theorem li_p (h : t2 C R) (l wh : Int32) : v_24 l wh C = v_130 l wh R ∧ t2 (m_24 l wh C) (m_130 l wh R) := by
  obtain ⟨a0, a1, s1, s4, sd, d0, d4⟩ := tt_n h.1
  have hA := ln_A (x := C 15 0) (l := l) a0.1 (by omega)
  unfold v_24 v_130 m_24 m_130
  rw [← s1]
  by_cases c1 : (l < 0) ∨ (¬ (l < (C 15 0)))
  · simp only [if_pos c1, if_neg (fun z => hA.mp z c1)]
    exact ⟨trivial, h⟩
  · simp only [if_neg c1, if_pos (hA.mpr c1)]
    obtain ⟨l0, l1, l2⟩ := ln_R c1
    have e6 : (wh < 6) ↔ ¬ (5 < wh) := by rw [fi_l, fi_l, fi_i5, fi_i6]; omega
    by_cases c2 : wh < 0
    · simp only [if_pos c2, if_neg (fun z : (¬ (wh < 0)) ∧ (¬ (5 < wh)) => z.1 c2)]
      exact ⟨trivial, h⟩
    · by_cases c3 : wh < 6
      · simp only [if_neg c2, if_pos c3, if_pos (⟨c2, e6.mp c3⟩ : (¬ (wh < 0)) ∧ (¬ (5 < wh)))]
        exact ⟨trivial, t2_tell h (v26_eq h.1 l0 l2)⟩
      · simp only [if_neg c2, if_neg c3, if_neg (fun z : (¬ (wh < 0)) ∧ (¬ (5 < wh)) => c3 (e6.mpr z.2))]
        exact ⟨trivial, h⟩
theorem mo_p (h : t2 C R) (i wh : Int32) : v_32 i wh C = v_139 i wh R ∧ t2 (m_32 i wh C) (m_139 i wh R) := by
  obtain ⟨a0, a1, s1, s4, sd, d0, d4⟩ := tt_n h.1
  have hA := ln_A (x := C 15 1) (l := i) a1.1 (by omega)
  unfold v_32 v_139 m_32 m_139
  rw [← s4]
  by_cases c1 : (i < 0) ∨ (¬ (i < (C 15 1)))
  · simp only [if_pos c1, if_neg (fun z => hA.mp z c1)]
    exact ⟨trivial, h⟩
  · simp only [if_neg c1, if_pos (hA.mpr c1)]
    obtain ⟨l0, l1, l2⟩ := ln_R c1
    have e6 : (wh < 5) ↔ ¬ (4 < wh) := by rw [fi_l, fi_l, fi_i5, fi_i4]; omega
    by_cases c2 : wh < 0
    · simp only [if_pos c2, if_neg (fun z : (¬ (wh < 0)) ∧ (¬ (4 < wh)) => z.1 c2)]
      exact ⟨trivial, h⟩
    · by_cases c3 : wh < 5
      · simp only [if_neg c2, if_pos c3, if_pos (⟨c2, e6.mp c3⟩ : (¬ (wh < 0)) ∧ (¬ (4 < wh)))]
        exact ⟨trivial, t2_tell h (v34_eq h.1 l0 l2)⟩
      · simp only [if_neg c2, if_neg c3, if_neg (fun z : (¬ (wh < 0)) ∧ (¬ (4 < wh)) => c3 (e6.mpr z.2))]
        exact ⟨trivial, h⟩
theorem lk_p (h : t2 C R) (i w ch far : Int32) : v_56 i w ch far C = v_158 i w ch far R ∧ t2 (m_56 i w ch far C) (m_158 i w ch far R) := by
  obtain ⟨a0, a1, s1, s4, sd, d0, d4⟩ := tt_n h.1
  have hA := ln_A (x := C 15 1) (l := i) a1.1 (by omega)
  unfold v_56 v_158 m_56 m_158
  rw [← s4]
  by_cases c1 : (i < 0) ∨ (¬ (i < (C 15 1)))
  · simp only [if_pos c1, if_neg (fun z => hA.mp z c1)]
    exact ⟨trivial, h⟩
  · simp only [if_neg c1, if_pos (hA.mpr c1)]
    obtain ⟨l0, l1, l2⟩ := ln_R c1
    obtain ⟨-, -, dK, -⟩ := tr_m h.1.1 tr_b0 l0 l2
    by_cases c2 : w < 0
    · simp only [if_pos c2, if_neg (fun z : (¬ (w < 0)) ∧ (¬ (9 < w)) => z.1 c2)]
      exact ⟨trivial, h⟩
    · by_cases c3 : 9 < w
      · simp only [if_neg c2, if_pos c3, if_neg (fun z : (¬ (w < 0)) ∧ (¬ (9 < w)) => z.2 c3)]
        exact ⟨trivial, h⟩
      · simp only [if_neg c2, if_neg c3, if_pos (⟨c2, c3⟩ : (¬ (w < 0)) ∧ (¬ (9 < w)))]
        by_cases c4 : ch < 0
        · simp only [if_pos c4, if_neg (fun z : (¬ (ch < 0)) ∧ (¬ (20 < ch)) => z.1 c4)]
          exact ⟨trivial, h⟩
        · by_cases c5 : 20 < ch
          · simp only [if_neg c4, if_pos c5, if_neg (fun z : (¬ (ch < 0)) ∧ (¬ (20 < ch)) => z.2 c5)]
            exact ⟨trivial, h⟩
          · simp only [if_neg c4, if_neg c5, if_pos (⟨c4, c5⟩ : (¬ (ch < 0)) ∧ (¬ (20 < ch)))]
            by_cases c6 : far < 0
            · simp only [if_pos c6, if_neg (fun z : (¬ (far < 0)) ∧ (¬ (7 < far)) => z.1 c6)]
              exact ⟨trivial, h⟩
            · by_cases c7 : 7 < far
              · simp only [if_neg c6, if_pos c7, if_neg (fun z : (¬ (far < 0)) ∧ (¬ (7 < far)) => z.2 c7)]
                exact ⟨trivial, h⟩
              · simp only [if_neg c6, if_neg c7, if_pos (⟨c6, c7⟩ : (¬ (far < 0)) ∧ (¬ (7 < far)))]
                exact ⟨trivial, t2_tell h (by rw [v31_eq, dK])⟩
theorem mk_p (h : t2 C R) (i kind : Int32) : v_36 i kind C = v_143 i kind R ∧ t2 (m_36 i kind C) (m_143 i kind R) := by
  obtain ⟨a0, a1, s1, s4, sd, d0, d4⟩ := tt_n h.1
  have hA := ln_A (x := C 15 1) (l := i) a1.1 (by omega)
  unfold v_36 v_143 m_36 m_143
  rw [← s4]
  by_cases c1 : (i < 0) ∨ (¬ (i < (C 15 1)))
  · simp only [if_pos c1, if_neg (fun z => hA.mp z c1)]
    exact ⟨trivial, h⟩
  · simp only [if_neg c1, if_pos (hA.mpr c1)]
    obtain ⟨l0, l1, l2⟩ := ln_R c1
    obtain ⟨i3, dP, dK, dT⟩ := tr_m h.1.1 tr_b0 l0 l2
    have dK : R 85 i.toNatClampNeg = C 20 i.toNatClampNeg := dK
    have dT : R 86 i.toNatClampNeg = C 21 i.toNatClampNeg := dT
    have dE : v_35 (C 20 i.toNatClampNeg) (C 21 i.toNatClampNeg) = v_142 i R := v35_eq h.1.1 l2
    have e5 : ((¬ (kind < 1)) ∧ (¬ (5 < kind))) ↔ (0 < kind ∧ kind < 6) := by
      rw [fi_l, fi_l, fi_l, fi_l, fi_i0, fi_i1, fi_i5, fi_i6]
      omega
    by_cases c2 : 0 < kind
    · by_cases c3 : kind < 6
      · simp only [if_pos c2, if_pos c3, if_pos (e5.mpr ⟨c2, c3⟩)]
        have k0 : ¬ kind = 0 := fun z => by rw [z] at c2; exact absurd c2 (by decide)
        have e := is_eq (K := C 20 i.toNatClampNeg) k0
        rw [dK]
        by_cases c4 : (C 20 i.toNatClampNeg = kind) ∨ (((kind = 2) ∧ ((C 20 i.toNatClampNeg = 4) ∨ ((kind = 3) ∧ (C 20 i.toNatClampNeg = 5)))) ∨ ((¬ (kind = 2)) ∧ ((kind = 3) ∧ (C 20 i.toNatClampNeg = 5))))
        · simp only [if_pos c4, if_pos (e.mpr c4)]
          refine ⟨?_, h⟩
          rw [lk_eq h.1.1 l0 l2, lw_eq h.1.1, cs_eq h.1.1, dE, dT, show v_35 0 (C 21 i.toNatClampNeg) = C 21 i.toNatClampNeg by unfold v_35; rw [if_neg (by decide), if_neg (by decide), if_neg (by decide)]]
          have eH : v_40 i 15 C = (((R 82 ((4 + (R 82 ((20 + i).toNatClampNeg))).toNatClampNeg)) + (v_142 i R)) - 1) / (v_142 i R) := by
            have e20 : (0 + 20 + i : Int32) = 20 + i := by rw [Int32.zero_add]
            rw [e20] at dP
            obtain ⟨p1, p2, p3⟩ := h.1.1.2.2.2.2.2.1 _ l2
            obtain ⟨-, -, t1, t9⟩ := h.1.1.1.2.2.2.2.2 _ l2
            have bV := v142_b (R := R) (i := i) (by rw [dT]; exact t1) (by rw [dT]; exact t9)
            have cP := fi_cl (C (15 + 8) i.toNatClampNeg)
            have cN := fi_cl (C 15 0)
            obtain ⟨-, dL, -, -⟩ := tr_l h.1.1 tr_b0 (l := C (15 + 8) i.toNatClampNeg) p2 (by omega)
            have e4 : (0 + 4 + C (15 + 8) i.toNatClampNeg : Int32) = 4 + C (15 + 8) i.toNatClampNeg := by rw [Int32.zero_add]
            rw [e4] at dL
            unfold v_40
            rw [dP, dL, show v_35 (C (15 + 5) i.toNatClampNeg) (C (15 + 6) i.toNatClampNeg) = v_142 i R from dE, if_pos (by rw [fi_l, fi_i0]; omega)]
          rw [eH]
        · simp only [if_neg c4, if_neg (fun z => c4 (e.mp z))]
          exact ⟨trivial, t2_no h 3 (f := 3) (by decide)⟩
      · simp only [if_pos c2, if_neg c3, if_neg (fun z => c3 (e5.mp z).2)]
        exact ⟨trivial, h⟩
    · simp only [if_neg c2, if_neg (fun z => c2 (e5.mp z).1)]
      exact ⟨trivial, h⟩
end PQ
/-! What comes, tried out aside. -/
def fC (C a : fl_M) : Prop := ∀ c, (c < 24 ∨ 33 ≤ c) → a c = C c
def fR (R b : fl_M) : Prop := (∀ c, c ≠ 82 → b c = R c) ∧ ∀ j, j < 3776 → b 82 j = R 82 j
def as (C R a b : fl_M) : Prop := tr 24 3776 a b ∧ fC C a ∧ fR R b
theorem fC_t {C a a' : fl_M} (h : fC C a) (e : ∀ c, (c < 24 ∨ 33 ≤ c) → a' c = a c) : fC C a' := fun c hc => by rw [e c hc, h c hc]
theorem fR_t {R b b' : fl_M} (h : fR R b) (e : ∀ c, c ≠ 82 → b' c = b c) (e2 : ∀ j, j < 3776 → b' 82 j = b 82 j) : fR R b' := ⟨fun c hc => by rw [e c hc, h.1 c hc], fun j hj => by rw [e2 j hj, h.2 j hj]⟩
section AS
variable {C R a b : fl_M}
theorem as_t2 (h : t2 C R) (h1 : fC C a) (h2 : fR R b) : t2 a b := t2_c h (fun c hc => h1 c (by omega)) (fun k hk => h2.1 k (by omega)) h2.2
theorem as_tt (h : tt C R) (h1 : fC C a) (h2 : fR R b) : tt a b := tt_c h (fun c hc => h1 c (by omega)) (by rw [h2.1 81 (by decide)]) (by rw [h2.1 81 (by decide)]) (fun k hk => h2.1 k (by omega)) h2.2
theorem as_0 (h : tt C R) (h1 : fC C a) (h2 : fR R b) : as C R (m_23 24 15 a) (lr_160_2 b) := by
  have g := as_tt h h1 h2
  refine ⟨lt_rg (tk_rg (Or.inr (by omega)) g.1), fC_t h1 (fun c hc => by funext j; exact fr_23 (by omega)), fR_t h2 (fun c hc => by funext j; exact fw_160 hc) (fun j hj => ?_)⟩
  rw [lt_eq, if_neg (by omega)]
theorem as_n (h : as C R a b) : (b 81 1).toInt ≤ 8 ∧ (b 81 4).toInt ≤ 4 := by
  rw [← h.1.1.1, ← h.1.1.2.1]
  exact ⟨h.1.1.2.2.1.2, h.1.1.2.2.2.1.2⟩
theorem as_y (h : as C R a b) (s : Int32) : (lr_46_4 s 0 24 a).1 = (lr_150_5 3776 s 0 b).1 ∧ as C R (m_46 s 24 a) (m_150 3776 s b) := by
  obtain ⟨e, g⟩ := py_eq h.1 tr_bt s
  have n8 := as_n h
  exact ⟨e, g, fC_t h.2.1 (fun c hc => by funext j; exact fr_46 (by omega)), fR_t h.2.2 (fun c hc => by funext j; exact fw_150 hc) (fun j hj => pf_150 tr_bt n8.1 n8.2 (Or.inl (by omega)))⟩
theorem as_ys (h : as C R a b) (n : Int32) : as C R (lr_59_2 n 24 a) (lr_161_2 n b) := by
  unfold lr_59_2 lr_161_2 lq_59_2 lq_161_2
  refine it_r (f := ls_59_2 24) (g := ls_161_2) (fun m x y => as C R x y) h (fun m x y _ hR => ?_)
  unfold ls_59_2 ls_161_2
  exact (as_y hR 0).2
theorem yr_1 (b : fl_M) : lr_161_2 1 b = m_150 3776 0 b := by
  unfold lr_161_2 lq_161_2
  rw [show (1 : Int32).toNatClampNeg = 0 + 1 from rfl, fx_it_s]
  rfl
theorem as_l (h : as C R a b) {l : Int32} (l0 : 0 ≤ l.toInt) (l1 : l.toNatClampNeg < (C 15 0).toNatClampNeg) (hn : a 24 0 = C 15 0) : b 82 ((3780 + l).toNatClampNeg) = a 27 l.toNatClampNeg := (tr_l h.1 tr_bt l0 (by rw [hn]; exact l1)).2.1
/-- how many lines there are, aside -/
theorem as_k (ht : tt C R) (h : as C R a b) : a 24 0 = C 15 0 ∧ a 24 1 = C 15 1 := by
  rw [h.1.1.1, h.1.1.2.1, h.2.2.1 81 (by decide), ← ht.1.1.1, ← ht.1.1.2.1]
  exact ⟨rfl, rfl⟩
theorem le_p (h : t2 C R) (l n : Int32) : v_57 l n C = v_159 l n R ∧ t2 (m_57 l n C) (m_159 l n R) := by
  obtain ⟨a0, a1, s1, s4, sd, d0, d4⟩ := tt_n h.1
  have hA := ln_A (x := C 15 0) (l := l) a0.1 (by omega)
  unfold v_57 v_159 m_57 m_159
  rw [← s1]
  by_cases c1 : (l < 0) ∨ (¬ (l < (C 15 0)))
  · simp only [if_pos c1, if_neg (fun z => hA.mp z c1)]
    exact ⟨trivial, h⟩
  · simp only [if_neg c1, if_pos (hA.mpr c1)]
    obtain ⟨l0, l1, l2⟩ := ln_R c1
    by_cases c2 : n < 0
    · simp only [if_pos c2, if_neg (fun z : (¬ (n < 0)) ∧ (¬ (40 < n)) => z.1 c2)]
      exact ⟨trivial, h⟩
    · by_cases c3 : 40 < n
      · simp only [if_neg c2, if_pos c3, if_neg (fun z : (¬ (n < 0)) ∧ (¬ (40 < n)) => z.2 c3)]
        exact ⟨trivial, h⟩
      · simp only [if_neg c2, if_neg c3, if_pos (⟨c2, c3⟩ : (¬ (n < 0)) ∧ (¬ (40 < n)))]
        have g := as_ys (as_0 h.1 (a := C) (b := R) (fun _ _ => rfl) ⟨fun _ _ => rfl, fun _ _ => rfl⟩) n
        exact ⟨(as_l g l0 l2 (as_k h.1 g).1).symm, as_t2 h g.2.1 g.2.2⟩
theorem et_p (h : t2 C R) (n : Int32) : v_60 n C = v_162 n R ∧ t2 (m_60 n C) (m_162 n R) := by
  obtain ⟨a0, a1, s1, s4, sd, d0, d4⟩ := tt_n h.1
  unfold v_60 v_162 m_60 m_162
  rw [← s4]
  by_cases c2 : n < 0
  · simp only [if_pos c2, if_neg (fun z : (¬ (n < 0)) ∧ (¬ (40 < n)) => z.1 c2)]
    exact ⟨trivial, h⟩
  · by_cases c3 : 40 < n
    · simp only [if_neg c2, if_pos c3, if_neg (fun z : (¬ (n < 0)) ∧ (¬ (40 < n)) => z.2 c3)]
      exact ⟨trivial, h⟩
    · simp only [if_neg c2, if_neg c3, if_pos (⟨c2, c3⟩ : (¬ (n < 0)) ∧ (¬ (40 < n)))]
      by_cases c5 : C 15 1 = 0
      · simp only [if_pos c5]
        exact ⟨trivial, h⟩
      · simp only [if_neg c5]
        have g := as_ys (as_0 h.1 (a := C) (b := R) (fun _ _ => rfl) ⟨fun _ _ => rfl, fun _ _ => rfl⟩) n
        exact ⟨ea_eq g.1 tr_bt, as_t2 h g.2.1 g.2.2⟩
/-- two loops left early, side by side -/
theorem ix_2 {α β γ δ : Type} {f : Nat → α → γ ⊕ α} {g : Nat → β → δ ⊕ β} {n : Nat} {a : α} {b : β} (P : Nat → α → β → Prop) (Q : γ → δ → Prop) (h0 : P 0 a b) (h : ∀ m a b, m < n → P m a b → (∃ c d, f m a = .inl c ∧ g m b = .inl d ∧ Q c d) ∨ (∃ a' b', f m a = .inr a' ∧ g m b = .inr b' ∧ P (m + 1) a' b')) : (∃ c d, fx_ix f n a = .inl c ∧ fx_ix g n b = .inl d ∧ Q c d) ∨ (∃ a' b', fx_ix f n a = .inr a' ∧ fx_ix g n b = .inr b' ∧ P n a' b') := by
  induction n with
  | zero => exact Or.inr ⟨a, b, rfl, rfl, h0⟩
  | succ n ih =>
    rcases ih (fun m a b hm => h m a b (Nat.lt_succ_of_lt hm)) with ⟨c, d, e1, e2, q⟩ | ⟨a', b', e1, e2, p⟩
    · exact Or.inl ⟨c, d, ix_l e1 (Nat.le_succ n), ix_l e2 (Nat.le_succ n), q⟩
    · rcases h n a' b' (Nat.lt_succ_self n) p with ⟨c, d, e3, e4, q⟩ | ⟨a2, b2, e3, e4, p2⟩
      · exact Or.inl ⟨c, d, ix_s1 e1 e3, ix_s1 e2 e4, q⟩
      · exact Or.inr ⟨a2, b2, ix_s1 e1 e3, ix_s1 e2 e4, p2⟩
theorem wn_p (h : t2 C R) (l : Int32) : v_62 l C = v_164 l R ∧ t2 (m_62 l C) (m_164 l R) := by
  obtain ⟨a0, a1, s1, s4, sd, d0, d4⟩ := tt_n h.1
  have hA := ln_A (x := C 15 0) (l := l) a0.1 (by omega)
  unfold v_62 v_164 m_62 m_164
  rw [← s1]
  by_cases c1 : (l < 0) ∨ (¬ (l < (C 15 0)))
  · simp only [if_pos c1, if_neg (fun z => hA.mp z c1)]
    exact ⟨trivial, h⟩
  · simp only [if_neg c1, if_pos (hA.mpr c1)]
    obtain ⟨l0, l1, l2⟩ := ln_R c1
    have g := as_0 h.1 (a := C) (b := R) (fun _ _ => rfl) ⟨fun _ _ => rfl, fun _ _ => rfl⟩
    have key := ix_2 (f := ls_62_23 l) (g := ls_164_16 l) (n := 40) (a := m_23 24 15 C) (b := lr_160_2 R) (fun _ x y => as C R x y) (fun c d => c.1 = d.1 ∧ fC C c.2 ∧ fR R d.2) g (fun m x y hm hR => ?_)
    · rcases key with ⟨c, d, e1, e2, q1, q2, q3⟩ | ⟨x, y, e1, e2, q⟩
      · have e1' : lr_62_23 l (m_23 24 15 C) = .inl c := e1
        have e2' : lr_164_16 l (lr_160_2 R) = .inl d := ix_l (n := 41) e2 (by omega)
        rw [e1', e2']
        exact ⟨q1, as_t2 h q2 q3⟩
      · have e1' : lr_62_23 l (m_23 24 15 C) = .inr x := e1
        have el := as_l q l0 l2 (as_k h.1 q).1
        rw [e1']
        by_cases c2 : x 27 l.toNatClampNeg = 0
        · have e2' : lr_164_16 l (lr_160_2 R) = .inl (40, y) := ix_s1 e2 (by unfold ls_164_16; rw [el, if_pos c2]; rfl)
          rw [e2']
          simp only [if_pos c2]
          exact ⟨trivial, as_t2 h q.2.1 q.2.2⟩
        · have e2' : lr_164_16 l (lr_160_2 R) = .inr (lr_161_2 1 y) := ix_s1 e2 (by unfold ls_164_16; rw [el, if_neg c2])
          rw [e2']
          simp only [if_neg c2]
          rw [yr_1]
          have q2 := (as_y q 0).2
          exact ⟨trivial, as_t2 h q.2.1 q2.2.2⟩
    · have el := as_l hR l0 l2 (as_k h.1 hR).1
      unfold ls_62_23 ls_164_16
      rw [el]
      by_cases c2 : x 27 l.toNatClampNeg = 0
      · rw [if_pos c2, if_pos c2]
        exact Or.inl ⟨_, _, rfl, rfl, rfl, hR.2.1, hR.2.2⟩
      · rw [if_neg c2, if_neg c2, yr_1]
        exact Or.inr ⟨_, _, rfl, rfl, (as_y hR 0).2⟩
/-- the sum of what is left is no less than none -/
theorem al_b {T b' : Nat} {X Y : fl_M} (h : tr T b' X Y) : 0 ≤ (lr_66_4 0 T X).toInt ∧ (lr_66_4 0 T X).toInt ≤ 320 := by
  unfold lr_66_4 lq_66_4
  have n8 := tr_n h
  have key := it_p (f := ls_66_4 T X) (n := (X T 0).toNatClampNeg) (a := (0 : Int32)) (fun m q => 0 ≤ q.toInt ∧ q.toInt ≤ 40 * m) ⟨by decide, by decide⟩ (fun m q hm hq => ?_)
  · omega
  · have en := fi_at (m := m) (by omega)
    obtain ⟨⟨-, b1, b2⟩, -⟩ := h.2.2.2.2.1 m hm
    unfold ls_66_4
    rw [en, fi_add (by omega) (by omega)]
    omega
theorem gu_p (h : t2 C R) (n : Int32) : v_65 n C = v_167 n R ∧ t2 (m_65 n C) (m_167 n R) := by
  obtain ⟨a0, a1, s1, s4, sd, d0, d4⟩ := tt_n h.1
  unfold v_65 v_167 m_65 m_167
  rw [← s4]
  by_cases c2 : n < 1
  · simp only [if_pos c2, if_neg (fun z : (¬ (n < 1)) ∧ (¬ (20 < n)) => z.1 c2)]
    exact ⟨trivial, h⟩
  · by_cases c3 : 20 < n
    · simp only [if_neg c2, if_pos c3, if_neg (fun z : (¬ (n < 1)) ∧ (¬ (20 < n)) => z.2 c3)]
      exact ⟨trivial, h⟩
    · simp only [if_neg c2, if_neg c3, if_pos (⟨c2, c3⟩ : (¬ (n < 1)) ∧ (¬ (20 < n)))]
      by_cases c5 : C 15 1 = 0
      · simp only [if_pos c5]
        exact ⟨trivial, h⟩
      · simp only [if_neg c5]
        have m1 : 0 < (C 15 1).toNatClampNeg := by
          have z := fi_ne c5
          rw [fi_i0] at z
          rw [fi_cl]
          omega
        have lp : 0 < (C 15 0).toNatClampNeg := by
          have z := h.1.1.2.2.2.2.2.1 0 m1
          rw [fi_cl]
          omega
        have n8 := tr_n h.1.1
        have key : (0 < (C 15 0).toNatClampNeg → (lr_65_33 n 0 (-1) C).1 = (lr_167_32 n (-9) (-1) R).1) ∧ (lr_65_33 n 0 (-1) C).2.1 = (lr_167_32 n (-9) (-1) R).2.1 ∧ fC C (lr_65_33 n 0 (-1) C).2.2 ∧ fR R (lr_167_32 n (-9) (-1) R).2.2 := by
          unfold lr_65_33 lr_167_32 lq_65_33 lq_167_32
          rw [← s1]
          have k := it_r (f := ls_65_33 n) (g := ls_167_32 n) (n := (C 15 0).toNatClampNeg) (a := (0, -1, C)) (b := (-9, -1, R)) (fun m x y => (0 < m → x.1 = y.1) ∧ x.2.1 = y.2.1 ∧ (m = 0 → y.2.1 = -1) ∧ fC C x.2.2 ∧ fR R y.2.2) ⟨fun z => absurd z (by omega), rfl, fun _ => rfl, fun _ _ => rfl, ⟨fun _ _ => rfl, fun _ _ => rfl⟩⟩ ?_
          · exact ⟨k.1, k.2.1, k.2.2.2⟩
          · intro m x y hm hR
            obtain ⟨xb, xm, X⟩ := x
            obtain ⟨yb, ym, Y⟩ := y
            obtain ⟨r1, r2, r3, r4, r5⟩ := hR
            dsimp only at r1 r2 r3 r4 r5
            subst r2
            have g0 := as_0 h.1 r4 r5
            have gk := as_k h.1 g0
            have g1 : as C R (fl_u (m_23 24 15 X) 24 3 (Int32.ofNat m)) (fl_u (lr_160_2 Y) 82 3778 (Int32.ofNat m)) := ⟨tr_u0 (k := 1) g0.1 (by decide), fC_t g0.2.1 (fun c hc => fl_un (by omega)), fR_t g0.2.2 (fun c hc => fl_un hc) (fun j hj => fl_uo (Or.inr (by omega)))⟩
            have g2 := as_ys g1 n
            have eS := al_eq g2.1 tr_bt
            have bS := al_b g2.1
            unfold ls_65_33 ls_167_32
            dsimp only
            rw [← eS]
            generalize lr_66_4 0 24 (lr_59_2 n 24 (fl_u (m_23 24 15 X) 24 3 (Int32.ofNat m))) = S at bS
            by_cases c6 : xm < S
            · simp only [if_pos c6]
              exact ⟨fun _ => trivial, trivial, fun z => absurd z (by omega), g2.2.1, g2.2.2⟩
            · simp only [if_neg c6]
              have m0 : m ≠ 0 := fun z => by
                have e := r3 z
                rw [e, fi_l, fi_m1] at c6
                omega
              exact ⟨fun _ => r1 (by omega), trivial, fun z => absurd z (by omega), g2.2.1, g2.2.2⟩
        exact ⟨key.1 lp, t2_tell (as_t2 h key.2.2.1 key.2.2.2) key.2.1⟩
end AS
/-! The least cheese that saves a line. -/
theorem wp_p {T : Nat} {M : fl_M} {i : Int32} (h8 : (M T 0).toInt ≤ 8) : (lr_28_11 i (-9) 0 0 T M).1 = (-9) ∨ 0 < M (T + 3) (lr_28_11 i (-9) 0 0 T M).1.toNatClampNeg := by
  unfold lr_28_11 lq_28_11
  have e1 := fi_cl (M T 0)
  refine it_p (f := ls_28_11 i T M) (n := (M T 0).toNatClampNeg) (a := (-9, 0, 0)) (fun m q => q.1 = (-9) ∨ 0 < M (T + 3) q.1.toNatClampNeg) (Or.inl rfl) (fun m q hm hq => ?_)
  unfold ls_28_11
  by_cases c : (0 < (M (T + 3) (Int32.ofNat m).toNatClampNeg)) ∧ (((((M T 4) >>> ((Int32.ofNat m) &&& 31)) &&& 1) = 0) ∧ (¬ ((M T 3) = (Int32.ofNat m))))
  · rw [if_pos c]
    (repeat' split) <;> first | exact hq | exact Or.inr c.1
  · rw [if_neg c]
    exact hq
/-- a line eaten up stays so -/
theorem z_y {T l : Nat} {M : fl_M} {s : Int32} (h8 : (M T 0).toInt ≤ 8) (hz : ¬ 0 < M (T + 3) l) : m_46 s T M (T + 3) l = M (T + 3) l := by
  unfold m_46
  rw [fl_uo (Or.inl (by omega)), st_46_100 (by omega)]
  unfold lr_46_4 lq_46_4
  have key := it_k (f := ls_46_4 s T) (n := (M T 1).toNatClampNeg) (a := (0, M)) (fun q : Int32 × fl_M => q.2 (T + 3) l = M (T + 3) l ∧ q.2 T 0 = M T 0) ⟨rfl, rfl⟩ (fun m q hq => ?_)
  · exact key.1
  · obtain ⟨q1, q2⟩ := hq
    have w := wp_p (T := T) (M := q.2) (i := Int32.ofNat m) (by rw [q2]; exact h8)
    unfold ls_46_4
    generalize (lr_28_11 (Int32.ofNat m) (-9) 0 0 T q.2).1 = w' at w
    split
    · exact ⟨q1, q2⟩
    · split
      · exact ⟨q1, q2⟩
      · rename_i c1 c2
        have wl : w'.toNatClampNeg ≠ l := fun z => by
          rcases w with w | w
          · exact c2 w
          · rw [z, q1] at w
            exact hz w
        dsimp only
        rw [fl_uo (Or.inr (fun z => wl z.symm)), fl_uo (Or.inl (by omega)), fl_uo (Or.inl (by omega)), fl_uo (Or.inl (by omega))]
        exact ⟨q1, q2⟩
section SV
variable {C R a b : fl_M}
/-- the class leaves off once the line is eaten up -/
theorem sv_e {l y : Int32} {a : fl_M} (h8 : (a 24 0).toInt ≤ 8) : (0 < lr_64_28 l y a 27 l.toNatClampNeg) ↔ (0 < lr_59_2 y 24 a 27 l.toNatClampNeg) := by
  unfold lr_64_28 lr_59_2 lq_64_28 lq_59_2
  have key : ∀ n, (∀ x, fx_ix (ls_64_28 l) n a = .inr x → x = fx_it (ls_59_2 24) n a) ∧ (∀ x, fx_ix (ls_64_28 l) n a = .inl x → ¬ 0 < x 27 l.toNatClampNeg ∧ ¬ 0 < fx_it (ls_59_2 24) n a 27 l.toNatClampNeg) ∧ (fx_it (ls_59_2 24) n a 24 0 = a 24 0) := by
    intro n
    induction n with
    | zero => exact ⟨(fun x hx => by cases hx; rfl), (fun x hx => by cases hx), rfl⟩
    | succ n ih =>
      obtain ⟨i1, i2, i3⟩ := ih
      have st : fx_it (ls_59_2 24) (n + 1) a = m_46 0 24 (fx_it (ls_59_2 24) n a) := by rw [fx_it_s]; rfl
      have k0 : fx_it (ls_59_2 24) (n + 1) a 24 0 = a 24 0 := by rw [st, st_46 (by omega) (by omega) (by omega) (by omega), i3]
      have zz : ¬ 0 < fx_it (ls_59_2 24) n a 27 l.toNatClampNeg → ¬ 0 < fx_it (ls_59_2 24) (n + 1) a 27 l.toNatClampNeg := fun hz => by
        rw [st, show (27 : Nat) = 24 + 3 from rfl, z_y (by rw [i3]; exact h8) hz]
        exact hz
      refine ⟨fun x hx => ?_, fun x hx => ?_, k0⟩
      · obtain ⟨q, h1, h2⟩ := ix_s hx
        have e := i1 q h1
        unfold ls_64_28 at h2
        split at h2
        · cases h2
          rw [st, e]
        · cases h2
      · cases hc : fx_ix (ls_64_28 l) n a with
        | inl c =>
          have e := ix_l hc (Nat.le_succ n)
          rw [e] at hx
          cases hx
          obtain ⟨j1, j2⟩ := i2 _ hc
          exact ⟨j1, zz j2⟩
        | inr q =>
          have e := i1 q hc
          have h2 := ix_s1 hc (f := ls_64_28 l) rfl
          rw [h2] at hx
          unfold ls_64_28 at hx
          split at hx
          · cases hx
          · rename_i c1
            cases hx
            rw [e] at c1
            exact ⟨by rw [e]; exact c1, zz c1⟩
  obtain ⟨k1, k2, -⟩ := key y.toNatClampNeg
  cases hc : fx_ix (ls_64_28 l) y.toNatClampNeg a with
  | inl c =>
    obtain ⟨j1, j2⟩ := k2 c hc
    exact ⟨fun z => absurd z j1, fun z => absurd z j2⟩
  | inr c =>
    have e := k1 c hc
    unfold fx_ib
    dsimp only
    rw [e]
/-- whether a line is saved so, on both sides -/
theorem sv_1 (ht : tt C R) (h1 : fC C a) (h2 : fR R b) {l n ot mo : Int32} (l0 : 0 ≤ l.toInt) (l1 : l.toNatClampNeg < (C 15 0).toNatClampNeg) (o0 : 0 ≤ ot.toInt) (o1 : ot.toNatClampNeg < (C 15 0).toNatClampNeg) (hm : 0 ≤ mo.toInt ∧ (C 19 ot.toNatClampNeg).toInt + mo.toInt ≤ 20) : v_64 l n ot mo a = v_166 l n ot mo b ∧ fC C (m_64 l n ot mo a) ∧ fR R (m_166 n ot mo b) := by
  have g := as_0 ht h1 h2
  obtain ⟨gk, -⟩ := as_k ht g
  have n8 := as_n g
  obtain ⟨o7, -, dC, -⟩ := tr_l g.1 tr_bt (l := ot) o0 (by rw [gk]; exact o1)
  have ecl := fi_cl ot
  have iC : (3788 + ot).toNatClampNeg = 3788 + ot.toNatClampNeg := fj_nn (fj_pa (a := 3788) rfl (show ot.toInt = (ot.toNatClampNeg : Nat) by omega) (by omega))
  have iD : (3776 + 12 + ot : Int32).toNatClampNeg = 3788 + ot.toNatClampNeg := iC
  rw [iD] at dC
  have dC : lr_160_2 b 82 (3788 + ot.toNatClampNeg) = m_23 24 15 a 28 ot.toNatClampNeg := dC
  have e19 : m_23 24 15 a 28 ot.toNatClampNeg = C 19 ot.toNatClampNeg := by
    have t0 := ht.1.2.2.2.2.1 _ o1
    have f1 := lt_eq b 82 (3788 + ot.toNatClampNeg)
    rw [if_pos ⟨rfl, by omega, by omega⟩] at f1
    rw [← dC, f1, show 0 + (3788 + ot.toNatClampNeg - 3776) = 12 + ot.toNatClampNeg by omega, h2.2 _ (by omega)]
    have z := t0.2.1
    rw [Nat.zero_add] at z
    exact z.symm
  have bC := (ht.1.2.2.2.2.1 _ o1).2.2
  have bC : 0 ≤ (C 19 ot.toNatClampNeg).toInt ∧ (C 19 ot.toNatClampNeg).toInt ≤ 20 := bC
  have es : (m_23 24 15 a 28 ot.toNatClampNeg + mo).toInt = (C 19 ot.toNatClampNeg).toInt + mo.toInt := by rw [e19, fi_add (by omega) (by omega)]
  have g1 : as C R (fl_u (m_23 24 15 a) 28 ot.toNatClampNeg (m_23 24 15 a 28 ot.toNatClampNeg + mo)) (fl_u (lr_160_2 b) 82 (3788 + ot.toNatClampNeg) (m_23 24 15 a 28 ot.toNatClampNeg + mo)) := ⟨tr_uc g.1 (by rw [gk]; exact o1) (by rw [es]; omega), fC_t g.2.1 (fun c hc => fl_un (by omega)), fR_t g.2.2 (fun c hc => fl_un hc) (fun j hj => fl_uo (Or.inr (by omega)))⟩
  have g2 := as_ys g1 n
  have k2 := (as_k ht g2).1
  have el := as_l g2 l0 l1 k2
  have k1 := (as_k ht g1).1
  have n81 : (fl_u (m_23 24 15 a) 28 ot.toNatClampNeg (m_23 24 15 a 28 ot.toNatClampNeg + mo) 24 0).toInt ≤ 8 := by rw [k1]; exact ht.1.1.2.2.1.2
  have sv := sv_e (l := l) (y := n) n81
  have hm6 : m_166 n ot mo b = lr_161_2 n (fl_u (lr_160_2 b) 82 (3788 + ot.toNatClampNeg) (m_23 24 15 a 28 ot.toNatClampNeg + mo)) := by unfold m_166; rw [iC, dC]
  refine ⟨?_, ?_, ?_⟩
  · unfold v_64 v_166
    rw [iC, dC, el]
    by_cases c : 0 < lr_59_2 n 24 (fl_u (m_23 24 15 a) 28 ot.toNatClampNeg (m_23 24 15 a 28 ot.toNatClampNeg + mo)) 27 l.toNatClampNeg
    · rw [if_pos c, if_pos (sv.mpr c)]
    · rw [if_neg c, if_neg (fun z => c (sv.mp z))]
  · exact fC_t h1 (fun c hc => by funext j; exact fr_64 (by omega))
  · rw [hm6]
    exact g2.2.2
theorem sa_p (h : t2 C R) (l n : Int32) : v_63 l n C = v_165 l n R ∧ t2 (m_63 l n C) (m_165 l n R) := by
  obtain ⟨a0, a1, s1, s4, sd, d0, d4⟩ := tt_n h.1
  have hA := ln_A (x := C 15 0) (l := l) a0.1 (by omega)
  unfold v_63 v_165 m_63 m_165
  rw [← s1]
  by_cases c1 : (l < 0) ∨ (¬ (l < (C 15 0)))
  · simp only [if_pos c1, if_neg (fun z => hA.mp z c1)]
    exact ⟨trivial, h⟩
  · simp only [if_neg c1, if_pos (hA.mpr c1)]
    obtain ⟨l0, l1, l2⟩ := ln_R c1
    by_cases c2 : n < 1
    · simp only [if_pos c2, if_neg (fun z : (¬ (n < 1)) ∧ (¬ (20 < n)) => z.1 c2)]
      exact ⟨trivial, h⟩
    · by_cases c3 : 20 < n
      · simp only [if_neg c2, if_pos c3, if_neg (fun z : (¬ (n < 1)) ∧ (¬ (20 < n)) => z.2 c3)]
        exact ⟨trivial, h⟩
      · simp only [if_neg c2, if_neg c3, if_pos (⟨c2, c3⟩ : (¬ (n < 1)) ∧ (¬ (20 < n)))]
        have bl := (h.1.1.2.2.2.2.1 _ l2).2.2
        have bl : 0 ≤ (C 19 l.toNatClampNeg).toInt ∧ (C 19 l.toNatClampNeg).toInt ≤ 20 := bl
        obtain ⟨v0, f0, r0⟩ := sv_1 h.1 (a := C) (b := R) (fun _ _ => rfl) ⟨fun _ _ => rfl, fun _ _ => rfl⟩ (l := l) (n := n) (ot := l) (mo := 0) l0 l2 l0 l2 (by rw [fi_i0]; omega)
        rw [← v0]
        by_cases c4 : v_64 l n l 0 C = 0
        · simp only [if_pos c4]
          have inner : ∀ (i3 : Int32) (x y : fl_M), 1 ≤ i3.toInt → i3.toInt ≤ 20 → fC C x → fR R y → (∃ c d, lr_63_52 l n i3 x = .inl c ∧ lr_165_52 l n i3 y = .inl d ∧ (c.1 = d.1 ∧ t2 c.2 d.2)) ∨ (∃ x' y', lr_63_52 l n i3 x = .inr x' ∧ lr_165_52 l n i3 y = .inr y' ∧ (fC C x' ∧ fR R y')) := by
            intro i3 x y b1 b2 hx hy
            unfold lr_63_52 lr_165_52 lq_63_52 lq_165_52
            have ex : x 15 0 = C 15 0 := by rw [hx 15 (by omega)]
            have ey : y 81 1 = C 15 0 := by rw [hy.1 81 (by decide), s1]
            rw [ex, ey]
            refine ix_2 (fun _ u v => fC C u ∧ fR R v) (fun (c d : Int32 × fl_M) => c.1 = d.1 ∧ t2 c.2 d.2) ⟨hx, hy⟩ (fun m u v hm hR => ?_)
            obtain ⟨hu, hv⟩ := hR
            have n8 := tr_n h.1.1
            have em := fi_ti (m := m) (by omega)
            have en := fi_at (m := m) (by omega)
            have i12 : (12 + Int32.ofNat m : Int32).toNatClampNeg = 12 + m := fj_nn (fj_pa (a := 12) rfl em (by omega))
            have dm := h.1.1.2.2.2.2.1 m hm
            have ec : v 82 (12 + m) = C 19 m := by
              rw [hv.2 _ (by omega)]
              have z := dm.2.1
              rw [Nat.zero_add] at z
              exact z.symm
            have bm : 0 ≤ (C 19 m).toInt ∧ (C 19 m).toInt ≤ 20 := dm.2.2
            unfold ls_63_52 ls_165_52
            rw [i12, ec, en, hu 19 (by omega)]
            by_cases d1 : Int32.ofNat m = l
            · rw [if_pos d1, if_pos d1]
              exact Or.inr ⟨_, _, rfl, rfl, hu, hv⟩
            · rw [if_neg d1, if_neg d1]
              have es : (C 19 m + i3).toInt = (C 19 m).toInt + i3.toInt := fi_add (by omega) (by omega)
              have e21 : (C 19 m + i3 < 21) ↔ ¬ (20 < C 19 m + i3) := by
                rw [fi_l, fi_l, fj_20, show (21 : Int32).toInt = 21 from rfl]
                omega
              by_cases d2 : 20 < C 19 m + i3
              · rw [if_pos d2, if_neg (fun z => e21.mp z d2)]
                exact Or.inr ⟨_, _, rfl, rfl, hu, hv⟩
              · rw [if_neg d2, if_pos (e21.mpr d2)]
                have d2' := fi_ge.mp d2
                rw [fj_20, es] at d2'
                obtain ⟨w0, w1, w2⟩ := sv_1 h.1 hu hv (l := l) (n := n) (ot := Int32.ofNat m) (mo := i3) l0 l2 (by omega) (by rw [en]; exact hm) (by rw [en]; omega)
                rw [← w0]
                by_cases d3 : v_64 l n (Int32.ofNat m) i3 u = 0
                · rw [if_pos d3, if_pos d3]
                  exact Or.inr ⟨_, _, rfl, rfl, w1, w2⟩
                · rw [if_neg d3, if_neg d3]
                  exact Or.inl ⟨_, _, rfl, rfl, rfl, t2_tell (as_t2 h w1 w2) rfl⟩
          have outer : (∃ c d, lr_63_43 l n (m_64 l n l 0 C) = .inl c ∧ lr_165_43 l n (m_166 n l 0 R) = .inl d ∧ (c.1 = d.1 ∧ t2 c.2 d.2)) ∨ (∃ x' y', lr_63_43 l n (m_64 l n l 0 C) = .inr x' ∧ lr_165_43 l n (m_166 n l 0 R) = .inr y' ∧ (fC C x' ∧ fR R y')) := by
            unfold lr_63_43 lr_165_43 lq_63_43 lq_165_43
            refine ix_2 (fun _ u v => fC C u ∧ fR R v) (fun (c d : Int32 × fl_M) => c.1 = d.1 ∧ t2 c.2 d.2) ⟨f0, r0⟩ (fun m u v hm hR => ?_)
            have em := fi_ti (m := 1 + m) (by omega)
            unfold ls_63_43 ls_165_43
            rcases inner (Int32.ofNat (1 + m)) u v (by omega) (by omega) hR.1 hR.2 with ⟨c, d, e1, e2, q1, q2⟩ | ⟨x', y', e1, e2, q⟩
            · rw [e1, e2]
              exact Or.inl ⟨_, _, rfl, rfl, q1, q2⟩
            · rw [e1, e2]
              exact Or.inr ⟨_, _, rfl, rfl, q⟩
          rcases outer with ⟨c, d, e1, e2, q1, q2⟩ | ⟨x', y', e1, e2, q1, q2⟩
          · rw [e1, e2]
            exact ⟨q1, q2⟩
          · rw [e1, e2]
            exact ⟨rfl, as_t2 h q1 q2⟩
        · simp only [if_neg c4]
          exact ⟨trivial, t2_tell (as_t2 h f0 r0) rfl⟩
end SV
/-! By where a mouse was. -/
def f2 (C R : fl_M) : Prop := (∀ j, j < 6 → C 1 j = R 87 j ∧ -1 ≤ (C 1 j).toInt ∧ (C 1 j).toInt ≤ 40 ∧ ∀ i : Nat, (i : Int) < (C 1 j).toInt → C (3 + j) i = R 88 (40 * j + i)) ∧
  (∀ j, j < 4 → C 9 j = R 89 j ∧ -1 ≤ (C 9 j).toInt ∧ (C 9 j).toInt ≤ 60 ∧ ∀ i : Nat, (i : Int) < (C 9 j).toInt → C (11 + j) i = R 90 (60 * j + i) ∧ -128 ≤ (C (11 + j) i).toInt ∧ (C (11 + j) i).toInt ≤ 127)
def aw (F : fl_M → Prop) (C a b : fl_M) : Prop := tr 24 3776 a b ∧ fC C a ∧ F b
/-- a frame that what is tried keeps -/
def fo (R : fl_M) (F : fl_M → Prop) : Prop := (∀ b b', F b → (∀ c, c ≠ 82 → b' c = b c) → (∀ j, j < 3776 → b' 82 j = b 82 j) → F b') ∧ ∀ b, F b → b 87 = R 87 ∧ b 88 = R 88
theorem fo_R (R : fl_M) : fo R (fR R) := ⟨fun b b' h e e2 => fR_t h e e2, fun b h => ⟨h.1 87 (by decide), h.1 88 (by decide)⟩⟩
section AW
variable {F : fl_M → Prop} {C R a b : fl_M}
theorem aw_y (hF : fo R F) (h : aw F C a b) : aw F C (m_46 0 24 a) (m_150 3776 0 b) := by
  have n8 : (b 81 1).toInt ≤ 8 ∧ (b 81 4).toInt ≤ 4 := by
    rw [← h.1.1.1, ← h.1.1.2.1]
    exact ⟨h.1.1.2.2.1.2, h.1.1.2.2.2.1.2⟩
  exact ⟨(py_eq h.1 tr_bt 0).2, fC_t h.2.1 (fun c hc => by funext j; exact fr_46 (by omega)), hF.1 _ _ h.2.2 (fun c hc => by funext j; exact fw_150 hc) (fun j hj => pf_150 tr_bt n8.1 n8.2 (Or.inl (by omega)))⟩
/-- it goes as a row says, on both sides or on none -/
theorem gr_1 (hF : fo R F) (hf : f2 C R) (h : aw F C a b) {i r : Int32} (i0 : 0 ≤ i.toInt) (i1 : i.toNatClampNeg < (a 24 1).toNatClampNeg) (r0 : 0 ≤ r.toInt) (r5 : r.toInt ≤ 5) : v_69 i r a = (lr_171_5 i r 1 b).1 ∧ fC C (m_69 i r a) ∧ F (lr_171_5 i r 1 b).2 := by
  have er := fi_cl r
  have hr : r.toNatClampNeg < 6 := by omega
  obtain ⟨f1, f2', f3, f4⟩ := hf.1 _ hr
  have ea : a 1 r.toNatClampNeg = C 1 r.toNatClampNeg := by rw [h.2.1 1 (by omega)]
  have eb : b 87 r.toNatClampNeg = C 1 r.toNatClampNeg := by rw [(hF.2 b h.2.2).1, f1]
  have ecn := fi_cl (C 1 r.toNatClampNeg)
  have key : ∀ n, n ≤ (C 1 r.toNatClampNeg).toNatClampNeg → ∃ x, aw F C x (fx_it (ls_171_5 i r) n (1, b)).2 ∧ x 24 1 = a 24 1 ∧ ((fx_ix (ls_69_2 i r) n a = .inr x ∧ (fx_it (ls_171_5 i r) n (1, b)).1 = 1) ∨ ((fx_it (ls_171_5 i r) n (1, b)).1 = 0 ∧ ∃ c, fx_ix (ls_69_2 i r) n a = .inl c ∧ c.1 = 0 ∧ fC C c.2)) := by
    intro n
    induction n with
    | zero => intro _; exact ⟨a, h, rfl, Or.inl ⟨rfl, rfl⟩⟩
    | succ n ih =>
      intro hn
      obtain ⟨x, g, gk, gg⟩ := ih (by omega)
      obtain ⟨B, hB⟩ : ∃ B, B = fx_it (ls_171_5 i r) n (1, b) := ⟨_, rfl⟩
      rw [← hB] at g gg
      have g2 := aw_y hF g
      have gk2 : m_46 0 24 x 24 1 = a 24 1 := by rw [st_46 (by omega) (by omega) (by omega) (by omega), gk]
      have em := fi_ti (m := n) (by omega)
      have en := fi_at (m := n) (by omega)
      obtain ⟨i3, dP, -, -⟩ := tr_m g2.1 tr_bt (i := i) i0 (by rw [gk2]; exact i1)
      have iP : (3776 + 20 + i : Int32) = 3796 + i := rfl
      rw [iP] at dP
      have dP : m_150 3776 0 (B).2 82 (3796 + i).toNatClampNeg = m_46 0 24 x 32 i.toNatClampNeg := dP
      have iI : (40 * r + Int32.ofNat n).toNatClampNeg = 40 * r.toNatClampNeg + n := by rw [fi_40 r0 r5 (by omega) (by omega), en]
      have dI : m_150 3776 0 (B).2 88 (40 * r.toNatClampNeg + n) = C (3 + r.toNatClampNeg) n := by rw [(hF.2 _ g2.2.2).2, f4 n (by omega)]
      have dC : m_46 0 24 x (fl_ar 2 r.toNatClampNeg) n = C (3 + r.toNatClampNeg) n := by rw [fl_ar2, g2.2.1 _ (by omega)]
      rcases gg with ⟨e1, e2⟩ | ⟨e1, c, e2, e3, e4⟩
      · by_cases d : m_46 0 24 x 32 i.toNatClampNeg = C (3 + r.toNatClampNeg) n
        · have sR : fx_it (ls_171_5 i r) (n + 1) (1, b) = (1, m_150 3776 0 (B).2) := by
            rw [fx_it_s, ← hB]
            unfold ls_171_5
            rw [e2, if_neg (by decide), yr_1, dP, iI, dI, if_pos d]
          refine ⟨m_46 0 24 x, by rw [sR]; exact g2, gk2, Or.inl ⟨ix_s1 e1 ?_, by rw [sR]⟩⟩
          unfold ls_69_2
          rw [en, dC, if_pos d]
        · have sR : fx_it (ls_171_5 i r) (n + 1) (1, b) = (0, m_150 3776 0 (B).2) := by
            rw [fx_it_s, ← hB]
            unfold ls_171_5
            rw [e2, if_neg (by decide), yr_1, dP, iI, dI, if_neg d]
          refine ⟨m_46 0 24 x, by rw [sR]; exact g2, gk2, Or.inr ⟨by rw [sR], (0, m_46 0 24 x), ix_s1 e1 ?_, rfl, g2.2.1⟩⟩
          unfold ls_69_2
          rw [en, dC, if_neg d]
      · have sR : fx_it (ls_171_5 i r) (n + 1) (1, b) = (0, m_150 3776 0 (B).2) := by
          rw [fx_it_s, ← hB]
          unfold ls_171_5
          rw [e1, if_pos rfl, yr_1]
        exact ⟨m_46 0 24 x, by rw [sR]; exact g2, gk2, Or.inr ⟨by rw [sR], c, ix_l e2 (Nat.le_succ n), e3, e4⟩⟩
  obtain ⟨x, g, -, gg⟩ := key _ (Nat.le_refl _)
  have lR : lr_171_5 i r 1 b = fx_it (ls_171_5 i r) (C 1 r.toNatClampNeg).toNatClampNeg (1, b) := by unfold lr_171_5 lq_171_5; rw [eb]
  have lC : lr_69_2 i r a = fx_ix (ls_69_2 i r) (C 1 r.toNatClampNeg).toNatClampNeg a := by unfold lr_69_2 lq_69_2; rw [ea]
  unfold v_69 m_69
  rw [lR, lC]
  rcases gg with ⟨e1, e2⟩ | ⟨e1, c, e2, e3, e4⟩
  · rw [e1, e2]
    exact ⟨rfl, g.2.1, g.2.2⟩
  · rw [e1, e2]
    exact ⟨e3, e4, g.2.2⟩
/-- refused, or not -/
theorem rf_p (h : t2 C R) (hf : f2 C R) (i r : Int32) : v_68 i r C = (if (¬ (i < 0)) ∧ (¬ ((R 81 4) - 1 < i)) then (if (¬ (r < 0)) ∧ (¬ (5 < r)) then v_170 r R else (-1)) else (-1)) ∧ t2 (m_68 i r C) (if (¬ (i < 0)) ∧ (¬ ((R 81 4) - 1 < i)) then (if (¬ (r < 0)) ∧ (¬ (5 < r)) then m_170 r R else R) else R) ∧ (v_68 i r C = 0 → m_68 i r C = C ∧ m_170 r R = R ∧ (0 ≤ i.toInt ∧ i.toNatClampNeg < (C 15 1).toNatClampNeg) ∧ (0 ≤ r.toInt ∧ r.toInt ≤ 5) ∧ ((¬ (i < 0)) ∧ (¬ ((R 81 4) - 1 < i))) ∧ ((¬ (r < 0)) ∧ (¬ (5 < r)))) := by
  obtain ⟨a0, a1, s1, s4, sd, d0, d4⟩ := tt_n h.1
  have hA := ln_A (x := C 15 1) (l := i) a1.1 (by omega)
  rw [← s4]
  unfold v_68 m_68
  by_cases c1 : (i < 0) ∨ (¬ (i < (C 15 1)))
  · simp only [if_pos c1, if_neg (fun z => hA.mp z c1)]
    exact ⟨trivial, h, fun z => absurd z (by decide)⟩
  · simp only [if_neg c1, if_pos (hA.mpr c1)]
    obtain ⟨i0, i1, i2⟩ := ln_R c1
    by_cases c2 : (r < 0) ∨ (¬ (r < 6))
    · simp only [if_pos c2, if_neg (fun z => ft_A.mp z c2)]
      exact ⟨trivial, h, fun z => absurd z (by decide)⟩
    · simp only [if_neg c2, if_pos (ft_A.mpr c2)]
      obtain ⟨r0, r5, r6⟩ := ft_R c2
      obtain ⟨f1, f2', f3, f4⟩ := hf.1 _ r6
      have ecn := fi_cl (C 1 r.toNatClampNeg)
      unfold v_170 m_170
      rw [← f1]
      by_cases c3 : C 1 r.toNatClampNeg = (-1)
      · simp only [if_pos c3, if_pos ((ft_B f2').mpr c3)]
        exact ⟨trivial, t2_no h 1 (f := 1) (by decide), fun z => absurd z (by decide)⟩
      · simp only [if_neg c3, if_neg (fun z => c3 ((ft_B f2').mp z))]
        by_cases c4 : C 1 r.toNatClampNeg < 1
        · simp only [if_pos c4, if_neg (fun z : (¬ (C 1 r.toNatClampNeg < 1)) ∧ (¬ (10 < C 1 r.toNatClampNeg)) => z.1 c4)]
          exact ⟨trivial, t2_no h 5 (f := 5) (by decide), fun z => absurd z (by decide)⟩
        · by_cases c5 : 10 < C 1 r.toNatClampNeg
          · simp only [if_neg c4, if_pos c5, if_neg (fun z : (¬ (C 1 r.toNatClampNeg < 1)) ∧ (¬ (10 < C 1 r.toNatClampNeg)) => z.2 c5)]
            exact ⟨trivial, t2_no h 5 (f := 5) (by decide), fun z => absurd z (by decide)⟩
          · simp only [if_neg c4, if_neg c5, if_pos (⟨c4, c5⟩ : (¬ (C 1 r.toNatClampNeg < 1)) ∧ (¬ (10 < C 1 r.toNatClampNeg)))]
            have key : ∀ n, n ≤ (C 1 r.toNatClampNeg).toNatClampNeg → (fx_ix (ls_68_55 r C) n () = .inr () ∧ fx_it (ls_170_42 r R) n 1 = 1) ∨ (fx_ix (ls_68_55 r C) n () = .inl (-3, fl_u (fl_u C 0 11 3) 80 3 (C 80 3 + 1)) ∧ fx_it (ls_170_42 r R) n 1 = 0) := by
              intro n
              induction n with
              | zero => intro _; exact Or.inl ⟨rfl, rfl⟩
              | succ n ih =>
                intro hn
                have em := fi_ti (m := n) (by omega)
                have en := fi_at (m := n) (by omega)
                have iI : (40 * r + Int32.ofNat n).toNatClampNeg = 40 * r.toNatClampNeg + n := by rw [fi_40 r0 r5 (by omega) (by omega), en]
                have dI := f4 n (by omega)
                have hB := ln_A (x := C 15 0) (l := C (3 + r.toNatClampNeg) n) a0.1 (by omega)
                rcases ih (by omega) with ⟨e1, e2⟩ | ⟨e1, e2⟩
                · by_cases d : (C (3 + r.toNatClampNeg) n < 0) ∨ (¬ (C (3 + r.toNatClampNeg) n < C 15 0))
                  · refine Or.inr ⟨ix_s1 e1 (by unfold ls_68_55; rw [en, fl_ar2, if_pos d]), ?_⟩
                    rw [fx_it_s, e2]
                    unfold ls_170_42
                    rw [if_neg (by decide), iI, ← dI, ← s1, if_neg (fun z => hB.mp z d)]
                  · refine Or.inl ⟨ix_s1 e1 (by unfold ls_68_55; rw [en, fl_ar2, if_neg d]), ?_⟩
                    rw [fx_it_s, e2]
                    unfold ls_170_42
                    rw [if_neg (by decide), iI, ← dI, ← s1, if_pos (hB.mpr d)]
                · refine Or.inr ⟨ix_l e1 (Nat.le_succ n), ?_⟩
                  rw [fx_it_s, e2]
                  unfold ls_170_42
                  rw [if_pos rfl]
            have lC : lr_68_55 r (C 1 r.toNatClampNeg) C = fx_ix (ls_68_55 r C) (C 1 r.toNatClampNeg).toNatClampNeg () := rfl
            have lR : lr_170_42 r 1 R = fx_it (ls_170_42 r R) (C 1 r.toNatClampNeg).toNatClampNeg 1 := by unfold lr_170_42 lq_170_42; rw [← f1]
            rw [lC, lR]
            rcases key _ (Nat.le_refl _) with ⟨e1, e2⟩ | ⟨e1, e2⟩
            · rw [e1, e2, if_neg (by decide), if_neg (by decide)]
              exact ⟨rfl, h, fun _ => ⟨rfl, rfl, ⟨i0, i2⟩, ⟨r0, r5⟩, hA.mpr c1, ft_A.mpr c2⟩⟩
            · rw [e1, e2, if_pos rfl, if_pos rfl]
              exact ⟨rfl, t2_no h 3 (f := 3) (by decide), fun z => absurd (show (-3 : Int32) = 0 from z) (by decide)⟩
theorem pl_p (h : t2 C R) (hf : f2 C R) (i r : Int32) : v_67 i r C = v_169 i r R ∧ t2 (if (v_68 i r C) = 0 then ((lr_67_19 i r 0 (m_68 i r C)).2) else (m_68 i r C)) (m_169 i r R) := by
  obtain ⟨p1, p2, p3⟩ := rf_p h hf i r
  unfold v_67 v_169 m_169
  by_cases c0 : v_68 i r C = 0
  · obtain ⟨q1, q2, ⟨i0, i2⟩, ⟨r0, r5⟩, qa, qb⟩ := p3 c0
    rw [if_pos qa, if_pos qb] at p1
    rw [c0] at p1
    simp only [if_pos c0, if_pos qa, if_pos qb, if_pos p1.symm]
    rw [q1, q2]
    obtain ⟨a0, a1, s1, s4, sd, d0, d4⟩ := tt_n h.1
    have n8 := tr_n h.1.1
    have ei := fi_cl i
    have key : (lr_67_19 i r 0 C).1 = (lr_169_35 i r 0 R).1 ∧ fC C (lr_67_19 i r 0 C).2 ∧ fR R (lr_169_35 i r 0 R).2 := by
      unfold lr_67_19 lr_169_35 lq_67_19 lq_169_35
      rw [← s1]
      refine it_r (f := ls_67_19 i r) (g := ls_169_35 i r) (fun m x y => x.1 = y.1 ∧ fC C x.2 ∧ fR R y.2) ⟨rfl, fun _ _ => rfl, ⟨fun _ _ => rfl, fun _ _ => rfl⟩⟩ (fun m x y hm hR => ?_)
      obtain ⟨xs, X⟩ := x
      obtain ⟨ys, Y⟩ := y
      obtain ⟨t1, t2', t3⟩ := hR
      dsimp only at t1 t2' t3
      subst t1
      have em := fi_ti (m := m) (by omega)
      have g0 := as_0 h.1 t2' t3
      obtain ⟨gk, gk1⟩ := as_k h.1 g0
      have iP : (3796 + i : Int32).toNatClampNeg = 3776 + 20 + i.toNatClampNeg := fj_nn (fj_pa (a := 3796) rfl (show i.toInt = (i.toNatClampNeg : Nat) by omega) (by omega))
      have g1 : aw (fR R) C (fl_u (m_23 24 15 X) 32 i.toNatClampNeg (Int32.ofNat m)) (fl_u (lr_160_2 Y) 82 (3776 + 20 + i.toNatClampNeg) (Int32.ofNat m)) := ⟨tr_up g0.1 (by rw [gk1]; exact i2) ⟨by omega, by rw [gk, em]; have := fi_cl (C 15 0); omega⟩, fC_t g0.2.1 (fun c hc => fl_un (by omega)), fR_t g0.2.2 (fun c hc => fl_un hc) (fun j hj => fl_uo (Or.inr (by omega)))⟩
      obtain ⟨w1, w2, w3⟩ := gr_1 (fo_R R) hf g1 (i := i) (r := r) i0 (by rw [fl_un (by decide), gk1]; exact i2) r0 r5
      unfold ls_67_19 ls_169_35
      dsimp only
      rw [iP, ← w1]
      by_cases c6 : v_69 i r (fl_u (m_23 24 15 X) 32 i.toNatClampNeg (Int32.ofNat m)) = 0
      · simp only [if_pos c6]
        exact ⟨Int32.or_zero.symm, w2, w3⟩
      · simp only [if_neg c6]
        exact ⟨trivial, w2, w3⟩
    exact ⟨key.1, as_t2 h key.2.1 key.2.2⟩
  · simp only [if_neg c0]
    have nz := c0
    rw [p1] at nz
    by_cases qa : (¬ (i < 0)) ∧ (¬ ((R 81 4) - 1 < i))
    · simp only [if_pos qa] at p1 p2 nz ⊢
      by_cases qb : (¬ (r < 0)) ∧ (¬ (5 < r))
      · simp only [if_pos qb] at p1 p2 nz ⊢
        simp only [if_neg nz]
        exact ⟨p1, p2⟩
      · simp only [if_neg qb] at p1 p2 ⊢
        exact ⟨p1, p2⟩
    · simp only [if_neg qa] at p1 p2 ⊢
      exact ⟨p1, p2⟩
end AW
/-! Kinds; sets of lines. -/
theorem tr_uk {T b : Nat} {C R : fl_M} {v : Int32} (h : tr T b C R) {i : Nat} (hi : i < (C T 1).toNatClampNeg) : tr T b (fl_u C (T + 5) i v) (fl_u R 85 i v) := by
  have e0 : fl_u C (T + 5) i v T = C T := fl_un (by omega)
  obtain ⟨⟨s1, s2, s3, s4, s5, s6⟩, d1, d2, d3, d4, d5, d6⟩ := h
  refine ⟨?_, ?_⟩
  · unfold tr_s
    rw [e0, fl_un (c := 81) (by decide), fl_un (c := 83) (by decide), fl_un (c := 84) (by decide), fl_un (c := 86) (by decide), fl_un (c := T + 1) (by omega), fl_un (c := T + 2) (by omega), fl_un (c := T + 6) (by omega)]
    refine ⟨s1, s2, s3, s4, s5, fun k hk => ?_⟩
    obtain ⟨q1, q2⟩ := s6 k hk
    refine ⟨?_, q2⟩
    by_cases hkl : k = i
    · subst hkl
      rw [fl_us, fl_us]
    · rw [fl_uo (Or.inr hkl), fl_uo (Or.inr hkl)]
      exact q1
  · unfold tr_d
    rw [e0, fl_un (c := 82) (by decide), fl_un (c := T + 3) (by omega), fl_un (c := T + 4) (by omega), fl_un (c := T + 8) (by omega)]
    exact ⟨d1, d2, d3, d4, d5, d6⟩
/-- one mouse may be of another kind -/
def fK (i : Nat) (R b : fl_M) : Prop := (∀ c, c ≠ 82 → c ≠ 85 → b c = R c) ∧ (∀ j, j ≠ i → b 85 j = R 85 j) ∧ ∀ j, j < 3776 → b 82 j = R 82 j
theorem fo_K (i : Nat) (R : fl_M) : fo R (fK i R) := ⟨fun b b' h e e2 => ⟨fun c h1 h2 => by rw [e c h1, h.1 c h1 h2], fun j hj => by rw [e 85 (by decide), h.2.1 j hj], fun j hj => by rw [e2 j hj, h.2.2 j hj]⟩, fun b h => ⟨h.1 87 (by decide) (by decide), h.1 88 (by decide) (by decide)⟩⟩
theorem fK_R {i : Nat} {R b : fl_M} (h : fK i R b) : fR R (fl_u b 85 i (R 85 i)) := by
  refine ⟨fun c hc => ?_, fun j hj => by rw [fl_un (by decide)]; exact h.2.2 j hj⟩
  funext j
  by_cases h5 : c = 85
  · subst h5
    by_cases hj : j = i
    · subst hj
      rw [fl_us]
    · rw [fl_uo (Or.inr hj)]
      exact h.2.1 j hj
  · rw [fl_uo (Or.inl h5), h.1 c hc h5]
section KI
variable {C R a b : fl_M}
/-- tried with another kind -/
theorem ak_0 (ht : tt C R) (h1 : fC C a) {i : Nat} (hi : i < (C 15 1).toNatClampNeg) (h2 : fK i R b) (v : Int32) : aw (fK i R) C (fl_u (m_23 24 15 a) 29 i v) (lr_160_2 (fl_u b 85 i v)) ∧ m_23 24 15 a 24 1 = C 15 1 := by
  have g := as_tt ht h1 (fK_R h2)
  have t1 : tr 24 0 (m_23 24 15 a) (fl_u b 85 i (R 85 i)) := tk_rg (Or.inr (by omega)) g.1
  have k1 : m_23 24 15 a 24 1 = C 15 1 := by rw [t1.1.2.1, fl_un (by decide), h2.1 81 (by decide) (by decide), ← ht.1.1.2.1]
  have t2 := tr_uk (v := v) t1 (i := i) (by rw [k1]; exact hi)
  have e : fl_u (fl_u b 85 i (R 85 i)) 85 i v = fl_u b 85 i v := by
    funext c j
    unfold fl_u
    split <;> rfl
  rw [e] at t2
  refine ⟨⟨lt_rg t2, fC_t h1 (fun c hc => ?_), (fo_K i R).1 (fl_u b 85 i v) _ ⟨fun c h3 h4 => by rw [fl_un h4, h2.1 c h3 h4], fun j hj => by rw [fl_uo (Or.inr hj), h2.2.1 j hj], fun j hj => by rw [fl_un (by decide), h2.2.2 j hj]⟩ (fun c hc => by funext j; exact fw_160 hc) (fun j hj => by rw [lt_eq, if_neg (by omega)])⟩, k1⟩
  rw [fl_un (by omega)]
  funext j
  exact fr_23 (by omega)
theorem kb_e (ht : tt C R) (hf : f2 C R) {i r : Int32} (i0 : 0 ≤ i.toInt) (i2 : i.toNatClampNeg < (C 15 1).toNatClampNeg) (r0 : 0 ≤ r.toInt) (r5 : r.toInt ≤ 5) : (lr_71_5 i r 0 C).1 = (lr_173_13 i r 0 R).1 ∧ fC C (lr_71_5 i r 0 C).2 ∧ fK i.toNatClampNeg R (lr_173_13 i r 0 R).2 := by
  unfold lr_71_5 lr_173_13 lq_71_5 lq_173_13
  refine it_r (f := ls_71_5 i r) (g := ls_173_13 i r) (fun m x y => x.1 = y.1 ∧ fC C x.2 ∧ fK i.toNatClampNeg R y.2) ⟨rfl, fun _ _ => rfl, ⟨fun _ _ _ => rfl, fun _ _ => rfl, fun _ _ => rfl⟩⟩ (fun m x y hm hR => ?_)
  obtain ⟨xs, X⟩ := x
  obtain ⟨ys, Y⟩ := y
  obtain ⟨t1, t2', t3⟩ := hR
  dsimp only at t1 t2' t3
  subst t1
  obtain ⟨g1, k1⟩ := ak_0 ht t2' i2 t3 (Int32.ofNat m)
  obtain ⟨w1, w2, w3⟩ := gr_1 (fo_K _ R) hf g1 (i := i) (r := r) i0 (by rw [fl_un (by decide), k1]; exact i2) r0 r5
  unfold ls_71_5 ls_173_13
  dsimp only
  rw [← w1]
  by_cases c6 : v_69 i r (fl_u (m_23 24 15 X) 29 i.toNatClampNeg (Int32.ofNat m)) = 0
  · simp only [if_pos c6]
    exact ⟨Int32.or_zero.symm, w2, w3⟩
  · simp only [if_neg c6]
    exact ⟨trivial, w2, w3⟩
theorem kn_p (h : t2 C R) (hf : f2 C R) (i r : Int32) : v_70 i r C = v_172 i r R ∧ t2 (if (v_68 i r C) = 0 then ((lr_71_5 i r 0 (m_68 i r C)).2) else (m_68 i r C)) (m_172 i r R) := by
  obtain ⟨p1, p2, p3⟩ := rf_p h hf i r
  unfold v_70 v_172 m_172
  by_cases c0 : v_68 i r C = 0
  · obtain ⟨q1, q2, ⟨i0, i2⟩, ⟨r0, r5⟩, qa, qb⟩ := p3 c0
    rw [if_pos qa, if_pos qb] at p1
    rw [c0] at p1
    simp only [if_pos c0, if_pos qa, if_pos qb, if_pos p1.symm]
    rw [q1, q2]
    obtain ⟨k1, k2, k3⟩ := kb_e h.1 hf i0 i2 r0 r5
    exact ⟨k1, as_t2 h k2 (fK_R k3)⟩
  · simp only [if_neg c0]
    have nz := c0
    rw [p1] at nz
    by_cases qa : (¬ (i < 0)) ∧ (¬ ((R 81 4) - 1 < i))
    · simp only [if_pos qa] at p1 p2 nz ⊢
      by_cases qb : (¬ (r < 0)) ∧ (¬ (5 < r))
      · simp only [if_pos qb] at p1 p2 nz ⊢
        simp only [if_neg nz]
        exact ⟨p1, p2⟩
      · simp only [if_neg qb] at p1 p2 ⊢
        exact ⟨p1, p2⟩
    · simp only [if_neg qa] at p1 p2 ⊢
      exact ⟨p1, p2⟩
/-- how many are left in a set of lines -/
theorem lf_eq (h : tr 15 0 C R) (s : Int32) : lr_77_4 s 0 15 C = lr_178_4 s 0 R := by
  unfold lr_77_4 lr_178_4 lq_77_4 lq_178_4
  rw [← h.1.1]
  have n8 := tr_n h
  refine it_c rfl (fun m q hm => ?_)
  have em := fi_ti (m := m) (by omega)
  have en := fi_at (m := m) (by omega)
  obtain ⟨-, d1, -⟩ := tr_l h tr_b0 (l := Int32.ofNat m) (by omega) (by rw [en]; exact hm)
  have e4 : (0 + 4 + Int32.ofNat m : Int32) = 4 + Int32.ofNat m := by rw [Int32.zero_add]
  rw [e4] at d1
  unfold ls_77_4 ls_178_4
  rw [d1]
end KI
theorem bit_k {x : Int32} (h0 : 0 ≤ x.toInt) (h8 : x.toInt ≤ 8) : (((1 : Int32) <<< (x &&& 31)) - 1).toInt = 2 ^ x.toInt.toNat - 1 ∧ ((1 : Int32) <<< (x &&& 31)).toInt = 2 ^ x.toInt.toNat := by
  have : x = 0 ∨ x = 1 ∨ x = 2 ∨ x = 3 ∨ x = 4 ∨ x = 5 ∨ x = 6 ∨ x = 7 ∨ x = 8 := by
    simp only [fi_e, fi_i0, fi_i1, fj_2, fi_i3, fi_i4, fi_i5, fi_i6, show (7 : Int32).toInt = 7 from rfl, fj_8]
    omega
  rcases this with rfl | rfl | rfl | rfl | rfl | rfl | rfl | rfl | rfl <;> exact ⟨by decide, by decide⟩
theorem bit_b {x : Int32} (h0 : 0 ≤ x.toInt) (h8 : x.toInt ≤ 8) : 0 ≤ (((1 : Int32) <<< (x &&& 31)) - 1).toInt ∧ (((1 : Int32) <<< (x &&& 31)) - 1).toInt ≤ 255 ∧ ((1 : Int32) <<< (x &&& 31)).toInt = (((1 : Int32) <<< (x &&& 31)) - 1).toInt + 1 := by
  have : x = 0 ∨ x = 1 ∨ x = 2 ∨ x = 3 ∨ x = 4 ∨ x = 5 ∨ x = 6 ∨ x = 7 ∨ x = 8 := by
    simp only [fi_e, fi_i0, fi_i1, fj_2, fi_i3, fi_i4, fi_i5, fi_i6, show (7 : Int32).toInt = 7 from rfl, fj_8]
    omega
  rcases this with rfl | rfl | rfl | rfl | rfl | rfl | rfl | rfl | rfl <;> exact ⟨by decide, by decide, by decide⟩
/-! In which lines. -/
def jd (J J' : fl_J) : Prop := J 0 13 = J' 81 12 ∧ J 0 14 = J' 81 13
theorem fl_wo {J : fl_J} {a i c j : Nat} {v : Int64} (h : c ≠ a ∨ j ≠ i) : fl_w J a i v c j = J c j := by
  unfold fl_w
  rw [if_neg (fun z => by rcases h with h | h; exact h z.1; exact h z.2)]
theorem fl_ws {J : fl_J} {a i : Nat} {v : Int64} : fl_w J a i v a i = v := by
  unfold fl_w
  rw [if_pos ⟨rfl, rfl⟩]
section SE
variable {C R : fl_M}
theorem nv_A {v : Int32} : ((¬ (v < 0)) ∧ (¬ (320 < v))) ↔ (¬ v < 0 ∧ ¬ 320 < v) := Iff.rfl
theorem su_p (h : t2 C R) (v : Int32) : v_80 v C = v_179 v R ∧ t2 (m_80 v C) (m_179 v R) := by
  obtain ⟨a0, a1, s1, s4, sd, d0, d4⟩ := tt_n h.1
  have bb := bit_b a0.1 a0.2
  have n9 : ∀ x : Int32, x = -1 ∨ x = -4 → ¬ x = 0 := fun x hx => by rcases hx with rfl | rfl <;> decide
  unfold v_80 v_179 m_80 m_179 v_177
  rw [← s4, ← s1]
  by_cases c1 : v < 0
  · simp only [if_pos c1, if_neg (fun z : (¬ (v < 0)) ∧ (¬ (320 < v)) => z.1 c1), if_neg (n9 (-1) (Or.inl rfl))]
    exact ⟨trivial, h⟩
  · by_cases c2 : 320 < v
    · simp only [if_neg c1, if_pos c2, if_neg (fun z : (¬ (v < 0)) ∧ (¬ (320 < v)) => z.2 c2), if_neg (n9 (-1) (Or.inl rfl))]
      exact ⟨trivial, h⟩
    · simp only [if_neg c1, if_neg c2, if_pos (⟨c1, c2⟩ : (¬ (v < 0)) ∧ (¬ (320 < v)))]
      by_cases c3 : C 15 1 = 0
      · simp only [if_pos c3, if_neg (n9 (-4) (Or.inr rfl))]
        exact ⟨trivial, h⟩
      · simp only [if_neg c3, if_true]
        generalize hall : ((1 : Int32) <<< ((C 15 0) &&& 31)) - 1 = all at *
        have key : (lr_80_49 v all all 0 1 C).1 = (lr_179_33 v all all 0 0 R).1 ∧ (lr_80_49 v all all 0 1 C).2.1 = (lr_179_33 v all all 0 0 R).2.1 ∧ (((lr_80_49 v all all 0 1 C).2.2 = 1 ∧ (lr_179_33 v all all 0 0 R).2.2 = 0) ∨ ((lr_80_49 v all all 0 1 C).2.2 = 0 ∧ (lr_179_33 v all all 0 0 R).2.2 = 1)) := by
          unfold lr_80_49 lr_179_33 lq_80_49 lq_179_33
          refine it_r (f := ls_80_49 v C) (g := ls_179_33 v R) (fun m x y => x.1 = y.1 ∧ x.2.1 = y.2.1 ∧ ((x.2.2 = 1 ∧ y.2.2 = 0) ∨ (x.2.2 = 0 ∧ y.2.2 = 1))) ⟨rfl, rfl, Or.inl ⟨rfl, rfl⟩⟩ (fun m x y hm hR => ?_)
          obtain ⟨x1, x2, x3⟩ := x
          obtain ⟨y1, y2, y3⟩ := y
          obtain ⟨r1, r2, r3⟩ := hR
          dsimp only at r1 r2 r3
          subst r1
          subst r2
          unfold ls_80_49 ls_179_33
          rw [lf_eq h.1.1]
          by_cases c : lr_178_4 (Int32.ofNat m) 0 R = v
          · simp only [if_pos c]
            exact ⟨trivial, trivial, Or.inr ⟨trivial, trivial⟩⟩
          · simp only [if_neg c]
            exact ⟨trivial, trivial, r3⟩
        obtain ⟨k1, k2, k3⟩ := key
        rw [k1, k2]
        rcases k3 with ⟨e1, e2⟩ | ⟨e1, e2⟩
        · simp only [e1, e2, if_neg (show ¬ (1 : Int32) = 0 by decide), if_true]
          exact ⟨trivial, t2_no h 4 (f := 4) (by decide)⟩
        · simp only [e1, e2, if_neg (show ¬ (1 : Int32) = 0 by decide), if_true]
          exact ⟨trivial, t2_tell h rfl⟩
/-- a number by 1 -/
theorem cd_1 (a : Int64) : lr_79_9 a 1 = (1, 0) := by
  have e0 : a - a / 1 * 1 = 0 := by rw [Int64.div_one, Int64.mul_one, Int64.sub_self]
  have s1 : fx_ix ls_79_9 1 (a, 1) = .inr (1, 0) := ix_s1 (m := 0) (b := (a, 1)) rfl (by unfold ls_79_9; rw [if_pos (show (0 : Int64) < 1 by decide), e0])
  have s2 : fx_ix ls_79_9 2 (a, 1) = .inl (1, 0) := ix_s1 s1 (by unfold ls_79_9; rw [if_neg (show ¬ (0 : Int64) < 0 by decide)])
  unfold lr_79_9 lq_79_9
  rw [ix_l s2 (by decide)]
  rfl
theorem j78_1 (a : Int64) (J : fl_J) : j_78 a 1 J = fl_w (fl_w J 0 13 a) 0 14 1 := by
  unfold j_78
  rw [cd_1]
  dsimp only
  rw [if_pos (show (0 : Int64) < 1 by decide), Int64.div_one, Int64.div_one]
theorem se_e (h : t2 C R) (v : Int32) : (lr_76_34 v 0 (-9) C).1 = (lr_176_30 v 0 (((1 : Int32) <<< ((C 15 0) &&& 31)) - 1) (fl_u R 81 11 (-9))).1 ∧ t2 (fl_u C 0 12 (lr_76_34 v 0 (-9) C).2) (lr_176_30 v 0 (((1 : Int32) <<< ((C 15 0) &&& 31)) - 1) (fl_u R 81 11 (-9))).2 := by
  obtain ⟨a0, a1, s1, s4, sd, d0, d4⟩ := tt_n h.1
  have bb := bit_b a0.1 a0.2
  unfold lr_76_34 lr_176_30 lq_76_34 lq_176_30
  generalize hall : ((1 : Int32) <<< ((C 15 0) &&& 31)) - 1 = all at *
  have eN : ((1 : Int32) <<< ((C 15 0) &&& 31)).toNatClampNeg = (all.toInt + 1).toNat := by rw [fi_cl, bb.2.2]
  rw [eN]
  obtain ⟨K, hK⟩ : ∃ K : Nat, K = (all.toInt + 1).toNat := ⟨_, rfl⟩
  rw [← hK]
  obtain ⟨TT, hT⟩ : ∃ TT, TT = fx_it (ls_76_34 v C) K (0, -9) := ⟨_, rfl⟩
  rw [← hT]
  have key : ∀ m, m ≤ K → ∃ (D A : Int32), fx_it (ls_176_30 v all) m (0, fl_u R 81 11 (-9)) = (D, fl_u R 81 11 A) ∧ (fx_it (ls_76_34 v C) (K - m) (0, -9)).1 + D = (TT).1 ∧ (if (fx_it (ls_76_34 v C) (K - m) (0, -9)).2 = (-9) then A else (fx_it (ls_76_34 v C) (K - m) (0, -9)).2) = (TT).2 := by
    intro m
    induction m with
    | zero =>
      intro _
      refine ⟨0, -9, rfl, by rw [Nat.sub_zero, Int32.add_zero, hT], ?_⟩
      rw [Nat.sub_zero, ← hT]
      split
      · rename_i e; exact e.symm
      · rfl
    | succ m ih =>
      intro hm
      obtain ⟨D, A, e1, e2, e3⟩ := ih (by omega)
      have em := fi_ti (m := m) (by omega)
      have ek := fi_ti (m := K - (m + 1)) (by omega)
      have eset : all - Int32.ofNat m = Int32.ofNat (K - (m + 1)) := by
        rw [fi_e, fi_sub (by omega) (by omega), em, ek]
        omega
      have lR : lr_178_4 (Int32.ofNat (K - (m + 1))) 0 (fl_u R 81 11 A) = lr_77_4 (Int32.ofNat (K - (m + 1))) 0 15 C := by
        have g : tr 15 0 C (fl_u R 81 11 A) := tr_rc h.1.1 (fl_uo (Or.inr (by decide))) (fl_uo (Or.inr (by decide))) (fun k hk => fl_un (by omega)) (fun k _ _ => by rw [fl_un (by decide)])
        exact (lf_eq g _).symm
      have up : K - m = K - (m + 1) + 1 := by omega
      rw [up, fx_it_s] at e2 e3
      have st : fx_it (ls_176_30 v all) (m + 1) (0, fl_u R 81 11 (-9)) = (if lr_77_4 (Int32.ofNat (K - (m + 1))) 0 15 C = v then (D + 1, fl_u (fl_u R 81 11 A) 81 11 (Int32.ofNat (K - (m + 1)))) else (D + 0, fl_u (fl_u R 81 11 A) 81 11 A)) := by
        rw [fx_it_s, e1]
        unfold ls_176_30
        dsimp only
        rw [eset, lR, fl_us]
      have uu : ∀ B, fl_u (fl_u R 81 11 A) 81 11 B = fl_u R 81 11 B := fun B => by
        funext c j
        unfold fl_u
        split <;> rfl
      rw [uu, uu] at st
      generalize fx_it (ls_76_34 v C) (K - (m + 1)) (0, -9) = U at e2 e3 ⊢
      unfold ls_76_34 at e2 e3
      by_cases c : lr_77_4 (Int32.ofNat (K - (m + 1))) 0 15 C = v
      · rw [if_pos c] at st e2 e3
        refine ⟨D + 1, Int32.ofNat (K - (m + 1)), st, ?_, ?_⟩
        · rw [← e2]
          split
          · rw [Int32.add_assoc, Int32.add_comm 1 D]
          · rw [Int32.add_assoc, Int32.add_comm 1 D]
        · rw [← e3]
          by_cases c9 : U.2 = (-9)
          · rw [if_pos c9, if_pos c9, if_neg (fun z => by rw [fi_e, ek, fj_9] at z; omega)]
          · rw [if_neg c9, if_neg c9, if_neg c9]
      · rw [if_neg c] at st e2 e3
        exact ⟨D + 0, A, st, by rw [Int32.add_zero]; exact e2, e3⟩
  obtain ⟨D, A, e1, e2, e3⟩ := key K (Nat.le_refl _)
  rw [Nat.sub_self] at e2 e3
  rw [e1]
  have e2' : (0 : Int32) + D = (TT).1 := e2
  have e3' : A = (TT).2 := e3
  rw [Int32.zero_add] at e2'
  exact ⟨e2'.symm, t2_tell h e3'.symm⟩
theorem se_p (h : t2 C R) {J J' : fl_J} (hj : jd J J') (v : Int32) : v_76 v C = (if (v_177 v R) = 0 then 1 else v_177 v R) ∧ t2 (m_76 v C) (m_176 v R) ∧ jd (j_76 v C J) (j_176 v R J') := by
  obtain ⟨a0, a1, s1, s4, sd, d0, d4⟩ := tt_n h.1
  have n9 : ∀ x : Int32, x = -1 ∨ x = -4 → ¬ x = 0 := fun x hx => by rcases hx with rfl | rfl <;> decide
  unfold v_76 m_76 m_176 j_76 j_176 v_177
  rw [← s4, ← s1]
  by_cases c1 : v < 0
  · simp only [if_pos c1, if_neg (fun z : (¬ (v < 0)) ∧ (¬ (320 < v)) => z.1 c1), if_neg (n9 (-1) (Or.inl rfl))]
    exact ⟨trivial, h, hj⟩
  · by_cases c2 : 320 < v
    · simp only [if_neg c1, if_pos c2, if_neg (fun z : (¬ (v < 0)) ∧ (¬ (320 < v)) => z.2 c2), if_neg (n9 (-1) (Or.inl rfl))]
      exact ⟨trivial, h, hj⟩
    · simp only [if_neg c1, if_neg c2, if_pos (⟨c1, c2⟩ : (¬ (v < 0)) ∧ (¬ (320 < v)))]
      by_cases c3 : C 15 1 = 0
      · simp only [if_pos c3, if_neg (n9 (-4) (Or.inr rfl))]
        exact ⟨trivial, h, hj⟩
      · simp only [if_neg c3, if_true]
        obtain ⟨k1, k2⟩ := se_e h v
        refine ⟨trivial, k2, ?_⟩
        rw [j78_1, k1]
        unfold jd
        rw [fl_wo (Or.inr (by decide)), fl_ws, fl_ws, fl_wo (Or.inr (by decide)), fl_ws, fl_ws]
        exact ⟨rfl, rfl⟩
end SE
/-! Chances. -/
theorem ix_c {α γ : Type} {f : Nat → α → γ ⊕ α} (hf : ∀ m q, f m q = f 0 q) (n : Nat) (a : α) : fx_ix f (n + 1) a = match f 0 a with
    | .inl c => .inl c
    | .inr b => fx_ix f n b := by
  induction n with
  | zero =>
    have e : fx_ix f 1 a = f 0 a := ix_s1 (m := 0) (b := a) rfl rfl
    rw [e]
    cases f 0 a <;> rfl
  | succ n ih =>
    cases h0 : f 0 a with
    | inl c =>
      rw [h0] at ih
      exact ix_l ih (Nat.le_succ _)
    | inr b =>
      rw [h0] at ih
      have ih : fx_ix f (n + 1) a = fx_ix f n b := ih
      show fx_ix f (n + 1 + 1) a = fx_ix f (n + 1) b
      cases h1 : fx_ix f n b with
      | inl c =>
        rw [h1] at ih
        rw [ix_l ih (Nat.le_succ _), ix_l h1 (Nat.le_succ _)]
      | inr d =>
        rw [h1] at ih
        rw [ix_s1 ih rfl, ix_s1 h1 rfl, hf (n + 1), hf n]
theorem i64_z {x : Int64} : x = 0 ↔ x.toInt = 0 := by
  rw [← Int64.toInt_inj]
  rfl
theorem eu_f : ∀ (n m : Nat) (x y : Int64), 0 ≤ x.toInt → 0 ≤ y.toInt → y.toInt < n → y.toInt < m → eu n x y = eu m x y := by
  intro n
  induction n with
  | zero => intro m x y _ h1 h2; omega
  | succ n ih =>
    intro m x y hx hy h1 h2
    cases m with
    | zero => omega
    | succ m =>
      unfold eu
      by_cases c : y = 0
      · rw [if_pos c, if_pos c]
      · rw [if_neg c, if_neg c]
        have y0 : y.toInt ≠ 0 := fun z => c (i64_z.mpr z)
        have e := eu_rem hx (show 0 < y.toInt by omega)
        have e1 := Int.emod_nonneg x.toInt y0
        have e2 := Int.emod_lt_of_pos x.toInt (show 0 < y.toInt by omega)
        exact ih m _ _ hy (by omega) (by omega) (by omega)
theorem eg_0 {x y : Int64} (h : y = 0) : eg x y = x := by
  unfold eg eu
  rw [if_pos h]
theorem eg_s {x y : Int64} (hx : 0 ≤ x.toInt) (hy : 0 < y.toInt) : eg x y = eg y (x - x / y * y) := by
  have e := eu_rem hx hy
  have e1 := Int.emod_nonneg x.toInt (show y.toInt ≠ 0 by omega)
  have e2 := Int.emod_lt_of_pos x.toInt hy
  unfold eg
  rw [show eu (y.toInt.toNat + 1) x y = eu y.toInt.toNat y (x - x / y * y) by
    conv => lhs; unfold eu
    rw [if_neg (fun z => by rw [i64_z] at z; omega)]]
  exact eu_f _ _ _ _ (by omega) (by omega) (by omega) (by omega)
theorem eg_p : ∀ (n : Nat) (x y : Int64), 0 ≤ x.toInt → 0 ≤ y.toInt → 0 < x.toInt + y.toInt → y.toInt < n → 0 < (eg x y).toInt := by
  intro n
  induction n with
  | zero => intro x y _ h1 _ h2; omega
  | succ n ih =>
    intro x y hx hy hs hn
    by_cases c : y = 0
    · have y0 := i64_z.mp c
      rw [eg_0 c]
      omega
    · have y0 : y.toInt ≠ 0 := fun z => c (i64_z.mpr z)
      have e := eu_rem hx (show 0 < y.toInt by omega)
      have e1 := Int.emod_nonneg x.toInt y0
      have e2 := Int.emod_lt_of_pos x.toInt (show 0 < y.toInt by omega)
      rw [eg_s hx (by omega)]
      exact ih _ _ hy (by omega) (by omega) (by omega)
theorem l79_0 (q : Int64 × Int64) (m : Nat) : ls_79_9 m q = ls_79_9 0 q := rfl
/-- the class' divisions are enough: each two of them halve the rest -/
theorem l79_e : ∀ (k : Nat) (x y : Int64) (n : Nat), 0 ≤ x.toInt → 0 ≤ y.toInt → y.toInt < 2 ^ k → 2 * k + 1 ≤ n → ∃ z, fx_ix ls_79_9 n (x, y) = .inl z ∧ z.1 = eg x y := by
  intro k
  induction k with
  | zero =>
    intro x y n hx hy hk hn
    have y0 : y = 0 := i64_z.mpr (by omega)
    obtain ⟨n', rfl⟩ : ∃ n', n = n' + 1 := ⟨n - 1, by omega⟩
    have f0 : ls_79_9 0 (x, y) = .inl (x, y) := by
      unfold ls_79_9
      rw [if_neg (fun z => by rw [Int64.lt_iff_toInt_lt] at z; have : (0 : Int64).toInt = 0 := rfl; have : (x, y).2.toInt = y.toInt := rfl; omega)]
    refine ⟨(x, y), ?_, (eg_0 y0).symm⟩
    rw [ix_c (fun m q => l79_0 q m), f0]
  | succ k ih =>
    intro x y n hx hy hk hn
    obtain ⟨n', rfl⟩ : ∃ n', n = n' + 1 := ⟨n - 1, by omega⟩
    by_cases c : y = 0
    · have f0 : ls_79_9 0 (x, y) = .inl (x, y) := by
        unfold ls_79_9
        rw [if_neg (fun z => by rw [c] at z; exact absurd (show (0 : Int64) < 0 from z) (by decide))]
      exact ⟨(x, y), by rw [ix_c (fun m q => l79_0 q m), f0], (eg_0 c).symm⟩
    · have y0 : y.toInt ≠ 0 := fun z => c (i64_z.mpr z)
      have yp : 0 < y := by rw [Int64.lt_iff_toInt_lt]; have : (0 : Int64).toInt = 0 := rfl; omega
      have f0 : ls_79_9 0 (x, y) = .inr (y, x - x / y * y) := by
        unfold ls_79_9
        rw [if_pos yp]
      have e := eu_rem hx (show 0 < y.toInt by omega)
      have e1 := Int.emod_nonneg x.toInt y0
      have e2 := Int.emod_lt_of_pos x.toInt (show 0 < y.toInt by omega)
      rw [ix_c (fun m q => l79_0 q m), f0, eg_s hx (by omega)]
      dsimp only
      generalize x - x / y * y = r at *
      obtain ⟨n2, rfl⟩ : ∃ n2, n' = n2 + 1 := ⟨n' - 1, by omega⟩
      by_cases c2 : r = 0
      · have f1 : ls_79_9 0 (y, r) = .inl (y, r) := by
          unfold ls_79_9
          rw [if_neg (fun z => by rw [c2] at z; exact absurd (show (0 : Int64) < 0 from z) (by decide))]
        exact ⟨(y, r), by rw [ix_c (fun m q => l79_0 q m), f1], (eg_0 c2).symm⟩
      · have r0 : r.toInt ≠ 0 := fun z => c2 (i64_z.mpr z)
        have rp : 0 < r := by rw [Int64.lt_iff_toInt_lt]; have : (0 : Int64).toInt = 0 := rfl; omega
        have f1 : ls_79_9 0 (y, r) = .inr (r, y - y / r * r) := by
          unfold ls_79_9
          rw [if_pos rp]
        have g := eu_rem hy (show 0 < r.toInt by omega)
        have g1 := Int.emod_nonneg y.toInt r0
        have g2 := Int.emod_lt_of_pos y.toInt (show 0 < r.toInt by omega)
        have g3 : 2 * (y.toInt % r.toInt) ≤ y.toInt := by
          have d := Int.emod_def y.toInt r.toInt
          have dq : 1 ≤ y.toInt / r.toInt := by
            rw [Int.le_ediv_iff_mul_le (by omega)]
            omega
          have dm : r.toInt * 1 ≤ r.toInt * (y.toInt / r.toInt) := Int.mul_le_mul_of_nonneg_left dq (by omega)
          omega
        have k2 : (2 : Int) ^ (k + 1) = 2 * 2 ^ k := by rw [Int.pow_succ, Int.mul_comm]
        rw [ix_c (fun m q => l79_0 q m), f1, eg_s hy (by omega)]
        exact ih r _ n2 (by omega) (by omega) (by omega) (by omega)
theorem l79_eg {x y : Int64} (hx : 0 ≤ x.toInt) (hy : 0 ≤ y.toInt) (h9 : y.toInt ≤ 20736) : (lr_79_9 x y).1 = eg x y := by
  obtain ⟨z, e, e2⟩ := l79_e 15 x y 100 hx hy (by omega) (by decide)
  unfold lr_79_9 lq_79_9
  rw [e]
  exact e2
/-- parts told alike -/
theorem tp_e {x y : Int64} (hx : 0 ≤ x.toInt) (hy : 0 < y.toInt) (h9 : y.toInt ≤ 20736) {J J' : fl_J} : jd (j_78 x y J) (fl_w (fl_w J' 81 12 (x / eg x y)) 81 13 (y / eg x y)) := by
  have e := l79_eg hx (by omega) h9
  have p := eg_p (y.toInt.toNat + 1) x y hx (by omega) (by omega) (by omega)
  unfold j_78
  rw [e, if_pos (by rw [Int64.lt_iff_toInt_lt]; exact p)]
  unfold jd
  rw [fl_wo (Or.inr (by decide)), fl_ws, fl_ws, fl_wo (Or.inr (by decide)), fl_ws, fl_ws]
  exact ⟨rfl, rfl⟩
/-- a set's weight, and that of all -/
def wt (k : Nat) (p s : Int32) : Int64 := fx_it (ls_85_5 s p) k 1
def wa (k : Nat) : Int64 := fx_it ls_86_4 k 1
theorem wt_b : ∀ k, k < 5 → ∀ p, p < 13 → ∀ s, s < 16 → 0 ≤ (wt k (Int32.ofNat p) (Int32.ofNat s)).toInt ∧ (wt k (Int32.ofNat p) (Int32.ofNat s)).toInt ≤ 20736 := by decide +kernel
theorem wt_s : ∀ k, k < 5 → ∀ p, p < 13 → fx_it (fun m q => q + wt k (Int32.ofNat p) (Int32.ofNat m)) (2 ^ k) 0 = wa k ∧ 0 < (wa k).toInt ∧ (wa k).toInt ≤ 20736 := by decide +kernel
/-! Chances that a line is left alone; the mean. -/
theorem l_ad {x y : Int64} {a b : Int} (hx : x.toInt = a) (hy : y.toInt = b) (h0 : 0 ≤ a) (h1 : 0 ≤ b) (h2 : a + b < 9000000000000000000) : (x + y).toInt = a + b := by
  rw [Int64.toInt_add, hx, hy]
  unfold Int.bmod
  dsimp only
  split <;> omega
section OD
variable {C R : fl_M}
/-- so many mice -/
theorem od_k (h : tt C R) : ∃ k : Nat, k < 5 ∧ (C 15 1).toNatClampNeg = k ∧ ((1 : Int32) <<< ((C 15 1) &&& 31)).toNatClampNeg = 2 ^ k ∧ 2 ^ k ≤ 16 := by
  obtain ⟨a0, a1, s1, s4, sd, d0, d4⟩ := tt_n h
  have e := fi_cl (C 15 1)
  have b := (bit_k a1.1 (by omega)).2
  refine ⟨(C 15 1).toNatClampNeg, by omega, rfl, ?_, ?_⟩
  · rw [fi_cl, b, fi_cl]
    have : ((2 : Int) ^ (C 15 1).toInt.toNat) = ((2 ^ (C 15 1).toInt.toNat : Nat) : Int) := by rw [Int.natCast_pow]; rfl
    rw [this]
    rfl
  · exact Nat.pow_le_pow_right (by decide) (show (C 15 1).toNatClampNeg ≤ 4 by omega)
theorem p_of {p : Int32} (h0 : ¬ p < 0) (h1 : ¬ 12 < p) : ∃ n : Nat, n < 13 ∧ p = Int32.ofNat n := by
  rw [fi_l, fi_i0] at h0
  rw [fi_l, fj_12] at h1
  refine ⟨p.toNatClampNeg, by rw [fi_cl]; omega, ?_⟩
  rw [fi_e, fi_ti (by rw [fi_cl]; omega), fi_cl]
  omega
theorem we_C {X : fl_M} {k : Nat} (h : (X 15 1).toNatClampNeg = k) (s p : Int32) : lr_85_5 s p 1 X = wt k p s := by
  unfold lr_85_5 lq_85_5 wt
  rw [h]
theorem we_R {Y : fl_M} {k : Nat} (h : (Y 81 4).toNatClampNeg = k) (s p : Int32) : lr_185_5 s p 1 Y = wt k p s := by
  unfold lr_185_5 lq_185_5 wt
  rw [h]
  rfl
theorem we_A {X : fl_M} {k : Nat} (h : (X 15 1).toNatClampNeg = k) : lr_86_4 1 X = wa k := by
  unfold lr_86_4 lq_86_4 wa
  rw [h]
/-- both walk through the sets of mice that sleep -/
theorem od_e (h : tt C R) {l p : Int32} (l0 : 0 ≤ l.toInt) (l2 : l.toNatClampNeg < (C 15 0).toNatClampNeg) (p0 : ¬ p < 0) (p1 : ¬ 12 < p) : (lr_83_25 l p 0 C).1 = (lr_184_30 l p 0 0 R).1 ∧ (lr_184_30 l p 0 0 R).2.1 = lr_86_4 1 (lr_83_25 l p 0 C).2 ∧ 0 ≤ (lr_83_25 l p 0 C).1.toInt ∧ (0 < (lr_184_30 l p 0 0 R).2.1.toInt ∧ (lr_184_30 l p 0 0 R).2.1.toInt ≤ 20736) ∧ fC C (lr_83_25 l p 0 C).2 ∧ fR R (lr_184_30 l p 0 0 R).2.2 := by
  obtain ⟨k, k5, hk, hN, h16⟩ := od_k h
  obtain ⟨n, n13, rfl⟩ := p_of p0 p1
  obtain ⟨a0, a1, s1, s4, sd, d0, d4⟩ := tt_n h
  have ecl := fi_cl l
  have ecn := fi_cl (C 15 0)
  have key := it_r (f := ls_83_25 l (Int32.ofNat n)) (g := ls_184_30 l (Int32.ofNat n)) (n := 2 ^ k) (a := (0, C)) (b := (0, 0, R)) (fun m x y => x.1 = y.1 ∧ y.2.1 = fx_it (fun m q => q + wt k (Int32.ofNat n) (Int32.ofNat m)) m 0 ∧ (0 ≤ x.1.toInt ∧ x.1.toInt ≤ 20736 * m) ∧ fC C x.2 ∧ fR R y.2.2) ⟨rfl, rfl, ⟨(show (0 : Int) ≤ (0 : Int64).toInt by decide), (show (0 : Int64).toInt ≤ 20736 * ((0 : Nat) : Int) by decide)⟩, fun _ _ => rfl, ⟨fun _ _ => rfl, fun _ _ => rfl⟩⟩ ?_
  · obtain ⟨e1, e2, e3, e4, e5⟩ := key
    have lC : lr_83_25 l (Int32.ofNat n) 0 C = fx_it (ls_83_25 l (Int32.ofNat n)) (2 ^ k) (0, C) := by unfold lr_83_25 lq_83_25; rw [hN]
    have lR : lr_184_30 l (Int32.ofNat n) 0 0 R = fx_it (ls_184_30 l (Int32.ofNat n)) (2 ^ k) (0, 0, R) := by unfold lr_184_30 lq_184_30; rw [← s4, hN]
    obtain ⟨w1, w2, w3⟩ := wt_s k k5 n n13
    rw [lC, lR, e2, w1, we_A (k := k) (by rw [e4 15 (by omega)]; exact hk)]
    exact ⟨e1, rfl, e3.1, ⟨w2, w3⟩, e4, e5⟩
  · intro m x y hm hR
    obtain ⟨xa, X⟩ := x
    obtain ⟨ya, yb, Y⟩ := y
    obtain ⟨r1, r2, r3, r4, r5⟩ := hR
    dsimp only at r1 r2 r3 r4 r5
    subst r1
    have g := as_0 h r4 r5
    obtain ⟨-, g2⟩ := as_y g (Int32.ofNat m)
    have gk := (as_k h g2).1
    have el := as_l g2 l0 l2 gk
    have i4 : (4 + l : Int32).toNatClampNeg = 4 + l.toNatClampNeg := fj_nn (fj_pa (a := 4) rfl (show l.toInt = (l.toNatClampNeg : Nat) by omega) (by omega))
    have e18 : m_150 3776 (Int32.ofNat m) (lr_160_2 Y) 82 (4 + l.toNatClampNeg) = C 18 l.toNatClampNeg := by
      rw [g2.2.2.2 _ (by omega)]
      have z := (h.1.2.2.2.2.1 _ l2).1.1
      rw [Nat.zero_add] at z
      exact z.symm
    have c18 : m_46 (Int32.ofNat m) 24 (m_23 24 15 X) 18 = C 18 := g2.2.1 18 (by omega)
    have c15 : m_46 (Int32.ofNat m) 24 (m_23 24 15 X) 15 = C 15 := g2.2.1 15 (by omega)
    have wC := we_C (X := m_46 (Int32.ofNat m) 24 (m_23 24 15 X)) (k := k) (by rw [c15]; exact hk) (Int32.ofNat m) (Int32.ofNat n)
    have wR := we_R (Y := Y) (k := k) (by rw [r5.1 81 (by decide), ← s4]; exact hk) (Int32.ofNat m) (Int32.ofNat n)
    have wb := wt_b k k5 n n13 m (by omega)
    have st : yb + wt k (Int32.ofNat n) (Int32.ofNat m) = fx_it (fun m q => q + wt k (Int32.ofNat n) (Int32.ofNat m)) (m + 1) 0 := by rw [fx_it_s, ← r2]
    have ad := l_ad (x := xa) (y := wt k (Int32.ofNat n) (Int32.ofNat m)) rfl rfl r3.1 wb.1 (by omega)
    unfold ls_83_25 ls_184_30
    dsimp only
    rw [wC, wR, el, i4, e18, c18]
    by_cases c : m_46 (Int32.ofNat m) 24 (m_23 24 15 X) 27 l.toNatClampNeg = C 18 l.toNatClampNeg
    · simp only [if_pos c]
      exact ⟨trivial, st, ⟨by rw [ad]; omega, by rw [ad]; omega⟩, g2.2.1, g2.2.2⟩
    · simp only [if_neg c]
      exact ⟨by rw [Int64.add_zero], st, ⟨by omega, by omega⟩, g2.2.1, g2.2.2⟩
theorem od_p (h : t2 C R) {J J' : fl_J} (hj : jd J J') (l p : Int32) : v_83 l p C = v_184 l p R ∧ t2 (m_83 l p C) (m_184 l p R) ∧ jd (j_83 l p C J) (j_184 l p R J') := by
  obtain ⟨a0, a1, s1, s4, sd, d0, d4⟩ := tt_n h.1
  have hA := ln_A (x := C 15 0) (l := l) a0.1 (by omega)
  unfold v_83 v_184 m_83 m_184 j_83 j_184
  rw [← s1]
  by_cases c1 : (l < 0) ∨ (¬ (l < (C 15 0)))
  · simp only [if_pos c1, if_neg (fun z => hA.mp z c1)]
    exact ⟨trivial, h, hj⟩
  · simp only [if_neg c1, if_pos (hA.mpr c1)]
    obtain ⟨l0, l1, l2⟩ := ln_R c1
    by_cases c2 : p < 0
    · simp only [if_pos c2, if_neg (fun z : (¬ (p < 0)) ∧ (¬ (12 < p)) => z.1 c2)]
      exact ⟨trivial, h, hj⟩
    · by_cases c3 : 12 < p
      · simp only [if_neg c2, if_pos c3, if_neg (fun z : (¬ (p < 0)) ∧ (¬ (12 < p)) => z.2 c3)]
        exact ⟨trivial, h, hj⟩
      · simp only [if_neg c2, if_neg c3, if_pos (⟨c2, c3⟩ : (¬ (p < 0)) ∧ (¬ (12 < p)))]
        obtain ⟨e1, e2, e3, e4, e5, e6⟩ := od_e h.1 l0 l2 c2 c3
        refine ⟨trivial, as_t2 h e5 e6, ?_⟩
        rw [← e2, e1]
        exact tp_e (by rw [← e1]; exact e3) e4.1 e4.2
theorem mi_e (h : tt C R) {p : Int32} (p0 : ¬ p < 0) (p1 : ¬ 12 < p) : (lr_87_30 p 0 C).1 = (lr_187_32 p 0 0 R).1 ∧ (lr_187_32 p 0 0 R).2.1 = lr_86_4 1 (lr_87_30 p 0 C).2 ∧ 0 ≤ (lr_87_30 p 0 C).1.toInt ∧ (0 < (lr_187_32 p 0 0 R).2.1.toInt ∧ (lr_187_32 p 0 0 R).2.1.toInt ≤ 20736) ∧ fC C (lr_87_30 p 0 C).2 ∧ fR R (lr_187_32 p 0 0 R).2.2 := by
  obtain ⟨k, k5, hk, hN, h16⟩ := od_k h
  obtain ⟨n, n13, rfl⟩ := p_of p0 p1
  obtain ⟨a0, a1, s1, s4, sd, d0, d4⟩ := tt_n h
  have key := it_r (f := ls_87_30 (Int32.ofNat n)) (g := ls_187_32 (Int32.ofNat n)) (n := 2 ^ k) (a := (0, C)) (b := (0, 0, R)) (fun m x y => x.1 = y.1 ∧ y.2.1 = fx_it (fun m q => q + wt k (Int32.ofNat n) (Int32.ofNat m)) m 0 ∧ (0 ≤ x.1.toInt ∧ x.1.toInt ≤ 6635520 * m) ∧ fC C x.2 ∧ fR R y.2.2) ⟨rfl, rfl, ⟨(show (0 : Int) ≤ (0 : Int64).toInt by decide), (show (0 : Int64).toInt ≤ 6635520 * ((0 : Nat) : Int) by decide)⟩, fun _ _ => rfl, ⟨fun _ _ => rfl, fun _ _ => rfl⟩⟩ ?_
  · obtain ⟨e1, e2, e3, e4, e5⟩ := key
    have lC : lr_87_30 (Int32.ofNat n) 0 C = fx_it (ls_87_30 (Int32.ofNat n)) (2 ^ k) (0, C) := by unfold lr_87_30 lq_87_30; rw [hN]
    have lR : lr_187_32 (Int32.ofNat n) 0 0 R = fx_it (ls_187_32 (Int32.ofNat n)) (2 ^ k) (0, 0, R) := by unfold lr_187_32 lq_187_32; rw [← s4, hN]
    obtain ⟨w1, w2, w3⟩ := wt_s k k5 n n13
    rw [lC, lR, e2, w1, we_A (k := k) (by rw [e4 15 (by omega)]; exact hk)]
    exact ⟨e1, rfl, e3.1, ⟨w2, w3⟩, e4, e5⟩
  · intro m x y hm hR
    obtain ⟨xa, X⟩ := x
    obtain ⟨ya, yb, Y⟩ := y
    obtain ⟨r1, r2, r3, r4, r5⟩ := hR
    dsimp only at r1 r2 r3 r4 r5
    subst r1
    have g := as_0 h r4 r5
    obtain ⟨-, g2⟩ := as_y g (Int32.ofNat m)
    have c15 : m_46 (Int32.ofNat m) 24 (m_23 24 15 X) 15 = C 15 := g2.2.1 15 (by omega)
    have wC := we_C (X := m_46 (Int32.ofNat m) 24 (m_23 24 15 X)) (k := k) (by rw [c15]; exact hk) (Int32.ofNat m) (Int32.ofNat n)
    have wR := we_R (Y := Y) (k := k) (by rw [r5.1 81 (by decide), ← s4]; exact hk) (Int32.ofNat m) (Int32.ofNat n)
    have wb := wt_b k k5 n n13 m (by omega)
    have st : yb + wt k (Int32.ofNat n) (Int32.ofNat m) = fx_it (fun m q => q + wt k (Int32.ofNat n) (Int32.ofNat m)) (m + 1) 0 := by rw [fx_it_s, ← r2]
    have eS := al_eq g2.1 tr_bt
    have bS := al_b g2.1
    unfold ls_87_30 ls_187_32
    dsimp only
    rw [wC, wR, ← eS]
    generalize lr_66_4 0 24 (m_46 (Int32.ofNat m) 24 (m_23 24 15 X)) = S at bS
    generalize wt k (Int32.ofNat n) (Int32.ofNat m) = W at *
    have m0 : 0 ≤ W.toInt * S.toInt := Int.mul_nonneg wb.1 bS.1
    have m1 : W.toInt * S.toInt ≤ 20736 * 320 := Int.mul_le_mul wb.2 bS.2 bS.1 (by decide)
    have em : (W * S.toInt64).toInt = W.toInt * S.toInt := by
      rw [Int64.toInt_mul, Int32.toInt_toInt64]
      unfold Int.bmod
      dsimp only
      split <;> omega
    have ad := l_ad (x := xa) (y := W * S.toInt64) rfl em r3.1 m0 (by omega)
    exact ⟨rfl, st, ⟨by rw [ad]; omega, by rw [ad]; omega⟩, g2.2.1, g2.2.2⟩
theorem mi_p (h : t2 C R) {J J' : fl_J} (hj : jd J J') (p : Int32) : v_87 p C = v_187 p R ∧ t2 (m_87 p C) (m_187 p R) ∧ jd (j_87 p C J) (j_187 p R J') := by
  obtain ⟨a0, a1, s1, s4, sd, d0, d4⟩ := tt_n h.1
  unfold v_87 v_187 m_87 m_187 j_87 j_187
  rw [← s4]
  by_cases c2 : p < 0
  · simp only [if_pos c2, if_neg (fun z : (¬ (p < 0)) ∧ (¬ (12 < p)) => z.1 c2)]
    exact ⟨trivial, h, hj⟩
  · by_cases c3 : 12 < p
    · simp only [if_neg c2, if_pos c3, if_neg (fun z : (¬ (p < 0)) ∧ (¬ (12 < p)) => z.2 c3)]
      exact ⟨trivial, h, hj⟩
    · simp only [if_neg c2, if_neg c3, if_pos (⟨c2, c3⟩ : (¬ (p < 0)) ∧ (¬ (12 < p)))]
      by_cases c5 : C 15 1 = 0
      · simp only [if_pos c5]
        exact ⟨trivial, h, hj⟩
      · simp only [if_neg c5]
        obtain ⟨e1, e2, e3, e4, e5, e6⟩ := mi_e h.1 c2 c3
        refine ⟨trivial, as_t2 h e5 e6, ?_⟩
        rw [← e2, e1]
        exact tp_e (by rw [← e1]; exact e3) e4.1 e4.2
end OD
/-! Counted; the digest. -/
section CO
variable {C R : fl_M}
theorem rt_11 (hf : f2 C R) : lr_96_10 0 (Int32.ofNat (fl_len 1)) 1 C = lr_196_4 11 0 R := by
  unfold lr_96_10 lr_196_4 lq_96_10 lq_196_4
  rw [show (Int32.ofNat (fl_len 1)).toNatClampNeg = 6 from rfl]
  refine it_c rfl (fun m q hm => ?_)
  have en := fi_at (m := m) (by omega)
  obtain ⟨f1, f3, -⟩ := hf.1 m hm
  unfold ls_96_10 ls_196_4
  rw [if_pos rfl, en, ← f1]
  by_cases c : C 1 m = -1
  · rw [if_pos c, if_pos ((ft_B f3).mpr c)]
  · rw [if_neg c, if_neg (fun z => c ((ft_B f3).mp z))]
theorem rt_12 (hf : f2 C R) : lr_96_10 0 (Int32.ofNat (fl_len 9)) 9 C = lr_196_4 12 0 R := by
  unfold lr_96_10 lr_196_4 lq_96_10 lq_196_4
  rw [show (Int32.ofNat (fl_len 9)).toNatClampNeg = 4 from rfl, show (6 : Nat) = 4 + 2 from rfl, it_ap (ls_196_4 12 R) 4 2 0 (fun k q h1 h2 => ?_)]
  · refine it_c rfl (fun m q hm => ?_)
    have en := fi_at (m := m) (by omega)
    have em := fi_ti (m := m) (by omega)
    obtain ⟨f1, f3, -⟩ := hf.2 m hm
    unfold ls_96_10 ls_196_4
    rw [if_neg (show ¬ (12 : Int32) = 11 by decide), if_pos (show (12 : Int32) = 12 from rfl), if_pos (show Int32.ofNat m < 4 by rw [fi_l, em, fi_i4]; omega), en, ← f1]
    by_cases c : C 9 m = -1
    · rw [if_pos c, if_pos ((ft_B f3).mpr c)]
    · rw [if_neg c, if_neg (fun z => c ((ft_B f3).mp z))]
  · have em := fi_ti (m := k) (by omega)
    unfold ls_196_4
    rw [if_neg (show ¬ (12 : Int32) = 11 by decide), if_pos (show (12 : Int32) = 12 from rfl), if_neg (show ¬ Int32.ofNat k < 4 by rw [fi_l, em, fi_i4]; omega), Int32.add_zero]
theorem kb_m {m : Nat} (hm : m < 3) : (944 * (1 + Int32.ofNat m) + 0 : Int32).toNatClampNeg = 944 + 944 * m := by
  have em := fi_ti (m := m) (by omega)
  have en := fi_at (m := m) (by omega)
  rw [Int32.add_zero, fj_nn (kb_i (k := Int32.ofNat m) (by omega) (by omega)), en]
theorem rt_13 (h : tt C R) {w : Int32} (n1 : ¬ w = 11) (n2 : ¬ w = 12) : lr_97_4 0 C = lr_196_4 w 0 R := by
  unfold lr_97_4 lr_196_4 lq_97_4 lq_196_4
  rw [show (6 : Nat) = 3 + 3 from rfl, it_ap (ls_196_4 w R) 3 3 0 (fun k q h1 h2 => ?_)]
  · refine it_c rfl (fun m q hm => ?_)
    have en := fi_at (m := m) (by omega)
    have em := fi_ti (m := m) (by omega)
    obtain ⟨k1, k2, -⟩ := h.2.2.2 m hm
    unfold ls_97_4 ls_196_4
    rw [if_neg n1, if_neg n2, if_pos (show Int32.ofNat m < 3 by rw [fi_l, em, fi_i3]; omega), en, ka_46, kb_m hm, ← k1]
    by_cases c : C (47 + 4 * m) 0 = -1
    · rw [if_pos c, if_pos ((ft_B k2).mpr c)]
    · rw [if_neg c, if_neg (fun z => c ((ft_B k2).mp z))]
  · have em := fi_ti (m := k) (by omega)
    unfold ls_196_4
    rw [if_neg n1, if_neg n2, if_neg (show ¬ Int32.ofNat k < 3 by rw [fi_l, em, fi_i3]; omega), Int32.add_zero]
theorem v94_eq (h : tt C R) (hf : f2 C R) (w : Int32) : v_94 w C = v_194 w R := by
  obtain ⟨a0, a1, s1, s4, sd, d0, d4⟩ := tt_n h
  have y2 : C 15 2 = R 82 1 := h.1.2.1
  have y3 : C 15 3 = R 82 2 := h.1.2.2.1
  have y4 : C 15 4 = R 82 3 := h.1.2.2.2.1
  unfold v_94 v_194
  rw [s1, s4, y2, sd, al_eq h.1 tr_b0, ea_eq h.1 tr_b0, y4, y3, cs_eq h.1, th_eq h.1 (kind := 2) (by decide), th_eq h.1 (kind := 3) (by decide), rt_11 hf, rt_12 hf]
  by_cases n1 : w = 11
  · subst n1
    simp only [if_neg (show ¬ (11 : Int32) = 0 by decide), if_neg (show ¬ (11 : Int32) = 1 by decide), if_neg (show ¬ (11 : Int32) = 2 by decide), if_neg (show ¬ (11 : Int32) = 3 by decide), if_neg (show ¬ (11 : Int32) = 4 by decide), if_neg (show ¬ (11 : Int32) = 5 by decide), if_neg (show ¬ (11 : Int32) = 6 by decide), if_neg (show ¬ (11 : Int32) = 7 by decide), if_neg (show ¬ (11 : Int32) = 8 by decide), if_neg (show ¬ (11 : Int32) = 9 by decide), if_neg (show ¬ (11 : Int32) = 10 by decide), if_true]
  · by_cases n2 : w = 12
    · subst n2
      simp only [if_neg (show ¬ (12 : Int32) = 0 by decide), if_neg (show ¬ (12 : Int32) = 1 by decide), if_neg (show ¬ (12 : Int32) = 2 by decide), if_neg (show ¬ (12 : Int32) = 3 by decide), if_neg (show ¬ (12 : Int32) = 4 by decide), if_neg (show ¬ (12 : Int32) = 5 by decide), if_neg (show ¬ (12 : Int32) = 6 by decide), if_neg (show ¬ (12 : Int32) = 7 by decide), if_neg (show ¬ (12 : Int32) = 8 by decide), if_neg (show ¬ (12 : Int32) = 9 by decide), if_neg (show ¬ (12 : Int32) = 10 by decide), if_neg (show ¬ (12 : Int32) = 11 by decide), if_true]
    · simp only [if_neg n1, if_neg n2]
      rw [rt_13 h n1 n2]
theorem cn_p (h : tt C R) (hf : f2 C R) (w : Int32) : v_93 w C = (if (¬ (w < 0)) ∧ (¬ (13 < w)) then v_194 w R else (-1)) := by
  have e : (w < 14) ↔ ¬ (13 < w) := by
    rw [fi_l, fi_l, show (14 : Int32).toInt = 14 from rfl, show (13 : Int32).toInt = 13 from rfl]
    omega
  unfold v_93
  by_cases c1 : w < 0
  · rw [if_pos c1, if_neg (fun z => z.1 c1)]
  · rw [if_neg c1]
    by_cases c2 : w < 14
    · rw [if_pos c2, if_pos ⟨c1, e.mp c2⟩, v94_eq h hf]
    · rw [if_neg c2, if_neg (fun z => c2 (e.mpr z.2))]
theorem fi_p (h : t2 C R) (f : Int32) : v_99 f C = v_198 f R := by
  unfold v_99 v_198
  by_cases c1 : f < 1
  · rw [if_pos c1, if_neg (fun z => z.1 c1)]
  · rw [if_neg c1]
    by_cases c2 : 5 < f
    · rw [if_pos c2, if_neg (fun z => z.2 c2)]
    · rw [if_neg c2, if_pos ⟨c1, c2⟩]
      have z := fi_ge.mp c2
      rw [fi_i5] at z
      exact h.2.2.2 _ (by rw [fi_cl]; omega)
/-- a loop of c n turns as n loops of c -/
theorem it_m {α : Type} (g : Nat → α → α) (c n : Nat) (a : α) : fx_it g (c * n) a = fx_it (fun m q => fx_it (fun j q => g (c * m + j) q) c q) n a := by
  have add : ∀ (k m : Nat), fx_it g (k + m) a = fx_it (fun j q => g (k + j) q) m (fx_it g k a) := by
    intro k m
    induction m with
    | zero => rfl
    | succ m ih => rw [← Nat.add_assoc, fx_it_s, fx_it_s, ih]
  induction n with
  | zero => rfl
  | succ n ih => rw [Nat.mul_succ, add, ih, fx_it_s]
theorem dm_e {c m j : Nat} {d : Int32} (hd : d.toInt = c) (h1 : j < c) (h2 : c * m + j < 1000) (h0 : 0 < c) : Int32.ofNat (c * m + j) / d = Int32.ofNat m ∧ Int32.ofNat (c * m + j) - Int32.ofNat (c * m + j) / d * d = Int32.ofNat j := by
  have hm : m ≤ c * m := by
    have := Nat.mul_le_mul_right m h0
    omega
  have e1 := fi_ti (m := c * m + j) (by omega)
  have e2 := fi_ti (m := m) (by omega)
  have e3 := fi_ti (m := j) (by omega)
  refine ⟨?_, ?_⟩
  · rw [fi_e, fj_div (by omega) (by omega), e1, e2, hd]
    have := Nat.mul_add_div h0 m j
    rw [Nat.div_eq_of_lt h1] at this
    omega
  · rw [fi_e, rm_32 (by omega) (by omega), e1, e3, hd]
    have := Nat.mul_add_mod c m j
    rw [Nat.mod_eq_of_lt h1] at this
    omega
theorem dg_p (h : t2 C R) (hf : f2 C R) : v_100 C = v_199 R := by
  obtain ⟨a0, a1, s1, s4, sd, d0, d4⟩ := tt_n h.1
  have n8 := tr_n h.1.1
  have g1 : ∀ x, lr_100_6 x C = lr_199_6 x R := fun x => by
    unfold lr_100_6 lr_199_6 lq_100_6 lq_199_6
    refine it_c rfl (fun m q _ => ?_)
    unfold ls_100_6 ls_199_6
    rw [v94_eq h.1 hf]
  have g2 : ∀ x, lr_100_33 x C = lr_199_33 x R := fun x => by
    unfold lr_100_33 lr_199_33 lq_100_33 lq_199_33
    have e6 : (6 * R 81 1 : Int32).toNatClampNeg = 6 * (C 15 0).toNatClampNeg := by
      rw [← s1, fi_cl, fi_mul (by rw [fi_i6]; omega) (by rw [fi_i6]; omega), fi_i6, fi_cl]
      omega
    rw [e6, it_m]
    refine it_c rfl (fun m q hm => ?_)
    have em := fi_ti (m := m) (by omega)
    have en := fi_at (m := m) (by omega)
    unfold ls_100_33 lr_100_47 lq_100_47
    refine it_c rfl (fun j q hj => ?_)
    obtain ⟨k1, k2⟩ := dm_e (c := 6) (m := m) (j := j) (d := 6) rfl hj (by omega) (by decide)
    unfold ls_100_47 ls_199_33
    rw [k1] at k2 ⊢
    rw [k2, v26_eq h.1 (l := Int32.ofNat m) (by omega) (by rw [en]; exact hm)]
  have g3 : ∀ x, lr_100_83 x C = lr_199_72 x R := fun x => by
    unfold lr_100_83 lr_199_72 lq_100_83 lq_199_72
    have e6 : (5 * R 81 4 : Int32).toNatClampNeg = 5 * (C 15 1).toNatClampNeg := by
      rw [← s4, fi_cl, fi_mul (by rw [fi_i5]; omega) (by rw [fi_i5]; omega), fi_i5, fi_cl]
      omega
    rw [e6, it_m]
    refine it_c rfl (fun m q hm => ?_)
    have em := fi_ti (m := m) (by omega)
    have en := fi_at (m := m) (by omega)
    unfold ls_100_83 lr_100_97 lq_100_97
    refine it_c rfl (fun j q hj => ?_)
    obtain ⟨k1, k2⟩ := dm_e (c := 5) (m := m) (j := j) (d := 5) rfl hj (by omega) (by decide)
    unfold ls_100_97 ls_199_72
    rw [k1] at k2 ⊢
    rw [k2, v34_eq h.1 (i := Int32.ofNat m) (by omega) (by rw [en]; exact hm)]
  have g4 : ∀ x, lr_100_132 x C = lr_199_108 x R := fun x => by
    unfold lr_100_132 lr_199_108 lq_100_132 lq_199_108
    refine it_c rfl (fun m q hm => ?_)
    have em := fi_ti (m := m) (by omega)
    have em1 := fi_ti (m := 1 + m) (by omega)
    have en := fi_at (m := m) (by omega)
    obtain ⟨k1, -⟩ := h.1.2.2.2 m hm
    have i1 : (Int32.ofNat (1 + m) : Int32) = 1 + Int32.ofNat m := by
      rw [fi_e, em1, fi_add (by rw [fi_i1]; omega) (by rw [fi_i1]; omega), fi_i1, em]
      omega
    unfold ls_100_132 ls_199_108
    rw [i1, kb_m hm, en, ka_46, k1]
  have g5 : ∀ x, lr_101_5 x C = lr_199_141 x R := fun x => by
    unfold lr_101_5 lr_199_141 lq_101_5 lq_199_141
    refine it_c rfl (fun m q hm => ?_)
    have em := fi_ti (m := m) (by omega)
    have en := fi_at (m := m) (by omega)
    obtain ⟨f1, f3, f4, f5⟩ := hf.1 m hm
    unfold ls_101_5 ls_199_141 lr_101_30 lr_199_164 lq_101_30 lq_199_164
    rw [en, ← f1]
    have ecn := fi_cl (C 1 m)
    refine it_c rfl (fun j q hj => ?_)
    have ej := fi_ti (m := j) (by omega)
    have enj := fi_at (m := j) (by omega)
    unfold ls_101_30 ls_199_164
    rw [fi_40 (r := Int32.ofNat m) (k := Int32.ofNat j) (by omega) (by omega) (by omega) (by omega), en, enj, fl_ar2, f5 j (by omega)]
  have g6 : ∀ x, lr_102_5 x C = lr_199_209 x R := fun x => by
    unfold lr_102_5 lr_199_209 lq_102_5 lq_199_209
    refine it_c rfl (fun m q hm => ?_)
    have em := fi_ti (m := m) (by omega)
    have en := fi_at (m := m) (by omega)
    obtain ⟨f1, f3, f4, f5⟩ := hf.2 m hm
    unfold ls_102_5 ls_199_209 lr_102_29 lr_199_231 lq_102_29 lq_199_231
    rw [en, ← f1]
    have ecn := fi_cl (C 9 m)
    refine it_c rfl (fun j q hj => ?_)
    have ej := fi_ti (m := j) (by omega)
    have enj := fi_at (m := j) (by omega)
    unfold ls_102_29 ls_199_231
    rw [fi_60 (r := Int32.ofNat m) (k := Int32.ofNat j) (by omega) (by omega) (by omega) (by omega), en, enj, fl_ar10, (f5 j (by omega)).1]
  unfold v_100 v_199
  rw [g1, g2, g3, g4, g5, g6]
end CO
/-! Rows and texts leave the registers alone, and tell the same. -/
theorem fl_yn {M : fl_M} {a0 sp a dp n c : Nat} (h : c ≠ a) : fl_y M a0 sp a dp n c = M c := by
  funext j
  unfold fl_y
  rw [if_neg (fun z => h z.1)]
theorem fl_kn {M : fl_M} {a sp dp lo hi c : Nat} (h : c ≠ a) : fl_k M a sp dp lo hi c = M c := by
  funext j
  unfold fl_k
  rw [if_neg (fun z => h z.1)]
section RO
variable {C R : fl_M}
theorem no_1 (h : t2 C R) : t2 (fl_u (fl_u C 0 11 1) 80 1 ((C 80 1) + 1)) (fl_u (fl_u R 81 14 1) 91 1 ((R 91 1) + 1)) := t2_no h 1 (f := 1) (by decide)
theorem no_2 (h : t2 C R) : t2 (fl_u (fl_u C 0 11 2) 80 2 ((C 80 2) + 1)) (fl_u (fl_u R 81 14 2) 91 2 ((R 91 2) + 1)) := t2_no h 2 (f := 2) (by decide)
theorem no_4 (h : t2 C R) : t2 (fl_u (fl_u C 0 11 4) 80 4 ((C 80 4) + 1)) (fl_u (fl_u R 81 14 4) 91 4 ((R 91 4) + 1)) := t2_no h 4 (f := 4) (by decide)
theorem no_5 (h : t2 C R) : t2 (fl_u (fl_u C 0 11 5) 80 5 ((C 80 5) + 1)) (fl_u (fl_u R 81 14 5) 91 5 ((R 91 5) + 1)) := t2_no h 5 (f := 5) (by decide)
theorem ro_0 (h : t2 C R) (hf : f2 C R) (r n : Int32) : t2 (if (r < 0) ∨ (¬ (r < 6)) then C else (if 40 < n then C else (if n < 0 then (fl_u (fl_u C 0 11 5) 80 5 ((C 80 5) + 1)) else (fl_u (fl_f C (fl_ar 2 r.toNatClampNeg) n.toNatClampNeg 0) 1 r.toNatClampNeg n)))) (if (¬ (r < 0)) ∧ (¬ (5 < r)) then (if 40 < n then R else (if n < 0 then (fl_u (fl_u R 81 14 5) 91 5 ((R 91 5) + 1)) else (fl_g (fl_u R 87 r.toNatClampNeg n) 88 (40 * r.toNatClampNeg) 40 0))) else R) := by
  by_cases c1 : (r < 0) ∨ (¬ (r < 6))
  · simp only [if_pos c1, if_neg (fun z => ft_A.mp z c1)]
    exact h
  · simp only [if_neg c1, if_pos (ft_A.mpr c1)]
    obtain ⟨r0, r5, r6⟩ := ft_R c1
    by_cases c2 : 40 < n
    · simp only [if_pos c2]
      exact h
    · simp only [if_neg c2]
      by_cases c3 : n < 0
      · simp only [if_pos c3]
        exact no_5 h
      · simp only [if_neg c3]
        rw [fl_ar2]
        exact t2_c h (fun c hc => by rw [fl_un (by omega), fl_fn (by omega)]) (fun c hc => by rw [fl_gn (by omega), fl_un (by omega)]) (fun j _ => by rw [fl_gn (by decide), fl_un (by decide)])
theorem ro_3 (h : t2 C R) (hf : f2 C R) (r i v : Int32) : t2 (if (r < 0) ∨ (¬ (r < 6)) then C else (if (C 1 r.toNatClampNeg) = (-1) then (fl_u (fl_u C 0 11 1) 80 1 ((C 80 1) + 1)) else (if i < 0 then (fl_u (fl_u C 0 11 2) 80 2 ((C 80 2) + 1)) else (if i < (C 1 r.toNatClampNeg) then (fl_u (fl_u C (fl_ar 2 r.toNatClampNeg) i.toNatClampNeg v) 0 12 (C (fl_ar 2 r.toNatClampNeg) i.toNatClampNeg)) else (fl_u (fl_u C 0 11 2) 80 2 ((C 80 2) + 1)))))) (if (¬ (r < 0)) ∧ (¬ (5 < r)) then (if (R 87 r.toNatClampNeg) < 0 then (fl_u (fl_u R 81 14 1) 91 1 ((R 91 1) + 1)) else (if (¬ (i < 0)) ∧ (¬ ((R 87 r.toNatClampNeg) - 1 < i)) then (fl_u (fl_u R 88 (((40 * r) + i).toNatClampNeg) v) 81 11 (R 88 (((40 * r) + i).toNatClampNeg))) else (fl_u (fl_u R 81 14 2) 91 2 ((R 91 2) + 1)))) else R) := by
  by_cases c1 : (r < 0) ∨ (¬ (r < 6))
  · simp only [if_pos c1, if_neg (fun z => ft_A.mp z c1)]
    exact h
  · simp only [if_neg c1, if_pos (ft_A.mpr c1)]
    obtain ⟨r0, r5, r6⟩ := ft_R c1
    obtain ⟨f1, f3, f4, f5⟩ := hf.1 _ r6
    rw [← f1]
    by_cases c2 : C 1 r.toNatClampNeg = -1
    · simp only [if_pos c2, if_pos ((ft_B f3).mpr c2)]
      exact no_1 h
    · simp only [if_neg c2, if_neg (fun z => c2 ((ft_B f3).mp z))]
      have hD := ft_D (i := i) f3 (by omega)
      by_cases c3 : i < 0
      · simp only [if_pos c3, if_neg (fun z => (hD.mp z).1 c3)]
        exact no_2 h
      · by_cases c4 : i < C 1 r.toNatClampNeg
        · simp only [if_neg c3, if_pos c4, if_pos (hD.mpr ⟨c3, c4⟩)]
          have i0 := fi_ge.mp c3
          have i1 := fi_l.mp c4
          rw [fi_i0] at i0
          rw [fl_ar2, fi_40 r0 r5 i0 (by omega), f5 i.toNatClampNeg (by rw [fi_cl]; omega)]
          refine t2_tell (t2_c h (fun c hc => by rw [fl_un (by omega)]) (fun c hc => by rw [fl_un (by omega)]) (fun j _ => by rw [fl_un (by decide)])) rfl
        · simp only [if_neg c3, if_neg c4, if_neg (fun z => c4 (hD.mp z).2)]
          exact no_2 h
theorem ro_6 (h : t2 C R) (hf : f2 C R) (r i : Int32) : t2 (if (r < 0) ∨ (¬ (r < 6)) then C else (if (C 1 r.toNatClampNeg) = (-1) then (fl_u (fl_u C 0 11 1) 80 1 ((C 80 1) + 1)) else (if i < 0 then (fl_u (fl_u C 0 11 2) 80 2 ((C 80 2) + 1)) else (if i < (C 1 r.toNatClampNeg) then (fl_u C 0 12 (C (fl_ar 2 r.toNatClampNeg) i.toNatClampNeg)) else (fl_u (fl_u C 0 11 2) 80 2 ((C 80 2) + 1)))))) (if (¬ (r < 0)) ∧ (¬ (5 < r)) then (if (R 87 r.toNatClampNeg) < 0 then (fl_u (fl_u R 81 14 1) 91 1 ((R 91 1) + 1)) else (if (¬ (i < 0)) ∧ (¬ ((R 87 r.toNatClampNeg) - 1 < i)) then (fl_u R 81 11 (R 88 (((40 * r) + i).toNatClampNeg))) else (fl_u (fl_u R 81 14 2) 91 2 ((R 91 2) + 1)))) else R) := by
  by_cases c1 : (r < 0) ∨ (¬ (r < 6))
  · simp only [if_pos c1, if_neg (fun z => ft_A.mp z c1)]
    exact h
  · simp only [if_neg c1, if_pos (ft_A.mpr c1)]
    obtain ⟨r0, r5, r6⟩ := ft_R c1
    obtain ⟨f1, f3, f4, f5⟩ := hf.1 _ r6
    rw [← f1]
    by_cases c2 : C 1 r.toNatClampNeg = -1
    · simp only [if_pos c2, if_pos ((ft_B f3).mpr c2)]
      exact no_1 h
    · simp only [if_neg c2, if_neg (fun z => c2 ((ft_B f3).mp z))]
      have hD := ft_D (i := i) f3 (by omega)
      by_cases c3 : i < 0
      · simp only [if_pos c3, if_neg (fun z => (hD.mp z).1 c3)]
        exact no_2 h
      · by_cases c4 : i < C 1 r.toNatClampNeg
        · simp only [if_neg c3, if_pos c4, if_pos (hD.mpr ⟨c3, c4⟩)]
          have i0 := fi_ge.mp c3
          have i1 := fi_l.mp c4
          rw [fi_i0] at i0
          rw [fl_ar2, fi_40 r0 r5 i0 (by omega), f5 i.toNatClampNeg (by rw [fi_cl]; omega)]
          exact t2_tell h rfl
        · simp only [if_neg c3, if_neg c4, if_neg (fun z => c4 (hD.mp z).2)]
          exact no_2 h
theorem ro_7 (h : t2 C R) (hf : f2 C R) (r : Int32) : t2 (if (r < 0) ∨ (¬ (r < 6)) then C else (if (C 1 r.toNatClampNeg) = (-1) then (fl_u (fl_u C 0 11 1) 80 1 ((C 80 1) + 1)) else (fl_u C 1 r.toNatClampNeg (-1)))) (if (¬ (r < 0)) ∧ (¬ (5 < r)) then (if (R 87 r.toNatClampNeg) < 0 then (fl_u (fl_u R 81 14 1) 91 1 ((R 91 1) + 1)) else (fl_u R 87 r.toNatClampNeg (-1))) else R) := by
  by_cases c1 : (r < 0) ∨ (¬ (r < 6))
  · simp only [if_pos c1, if_neg (fun z => ft_A.mp z c1)]
    exact h
  · simp only [if_neg c1, if_pos (ft_A.mpr c1)]
    obtain ⟨r0, r5, r6⟩ := ft_R c1
    obtain ⟨f1, f3, f4, f5⟩ := hf.1 _ r6
    rw [← f1]
    by_cases c2 : C 1 r.toNatClampNeg = -1
    · simp only [if_pos c2, if_pos ((ft_B f3).mpr c2)]
      exact no_1 h
    · simp only [if_neg c2, if_neg (fun z => c2 ((ft_B f3).mp z))]
      exact t2_c h (fun c hc => by rw [fl_un (by omega)]) (fun c hc => by rw [fl_un (by omega)]) (fun j _ => by rw [fl_un (by decide)])
theorem ro_8 (h : t2 C R) (hf : f2 C R) (r i to j n : Int32) : t2 (if (r < 0) ∨ (¬ (r < 6)) then C else (if (to < 0) ∨ (¬ (to < 6)) then C else (if n < 0 then (fl_u (fl_u C 0 11 5) 80 5 ((C 80 5) + 1)) else (if (C 1 r.toNatClampNeg) = (-1) then (fl_u (fl_u C 0 11 1) 80 1 ((C 80 1) + 1)) else (if (C 1 to.toNatClampNeg) = (-1) then (fl_u (fl_u C 0 11 1) 80 1 ((C 80 1) + 1)) else (if (i < 0) ∨ (((C 1 r.toNatClampNeg) - n) < i) then (fl_u (fl_u C 0 11 2) 80 2 ((C 80 2) + 1)) else (if (j < 0) ∨ (((C 1 to.toNatClampNeg) - n) < j) then (fl_u (fl_u C 0 11 2) 80 2 ((C 80 2) + 1)) else (fl_y C (fl_ar 2 r.toNatClampNeg) i.toNatClampNeg (fl_ar 2 to.toNatClampNeg) j.toNatClampNeg n.toNatClampNeg)))))))) (if (¬ (r < 0)) ∧ (¬ (5 < r)) then (if (¬ (to < 0)) ∧ (¬ (5 < to)) then (if n < 0 then (fl_u (fl_u R 81 14 5) 91 5 ((R 91 5) + 1)) else (if (R 87 r.toNatClampNeg) < 0 then (fl_u (fl_u R 81 14 1) 91 1 ((R 91 1) + 1)) else (if (R 87 to.toNatClampNeg) < 0 then (fl_u (fl_u R 81 14 1) 91 1 ((R 91 1) + 1)) else (if (¬ (i < 0)) ∧ (¬ (((R 87 r.toNatClampNeg).toInt64) < (i.toInt64 + n.toInt64))) then (if (¬ (j < 0)) ∧ (¬ (((R 87 to.toNatClampNeg).toInt64) < (j.toInt64 + n.toInt64))) then (fl_k R 88 (40 * r.toNatClampNeg + i.toNatClampNeg) (40 * to.toNatClampNeg + j.toNatClampNeg) 0 n.toNatClampNeg) else (fl_u (fl_u R 81 14 2) 91 2 ((R 91 2) + 1))) else (fl_u (fl_u R 81 14 2) 91 2 ((R 91 2) + 1)))))) else R) else R) := by
  by_cases c1 : (r < 0) ∨ (¬ (r < 6))
  · simp only [if_pos c1, if_neg (fun z => ft_A.mp z c1)]
    exact h
  · simp only [if_neg c1, if_pos (ft_A.mpr c1)]
    obtain ⟨r0, r5, r6⟩ := ft_R c1
    obtain ⟨f1, f3, f4, -⟩ := hf.1 _ r6
    by_cases c2 : (to < 0) ∨ (¬ (to < 6))
    · simp only [if_pos c2, if_neg (fun z => ft_A.mp z c2)]
      exact h
    · simp only [if_neg c2, if_pos (ft_A.mpr c2)]
      obtain ⟨t0, t5, t6⟩ := ft_R c2
      obtain ⟨g1, g3, g4, -⟩ := hf.1 _ t6
      rw [← f1, ← g1]
      by_cases c3 : n < 0
      · simp only [if_pos c3]
        exact no_5 h
      · simp only [if_neg c3]
        have n0 := fi_ge.mp c3
        rw [fi_i0] at n0
        by_cases c4 : C 1 r.toNatClampNeg = -1
        · simp only [if_pos c4, if_pos ((ft_B f3).mpr c4)]
          exact no_1 h
        · simp only [if_neg c4, if_neg (fun z => c4 ((ft_B f3).mp z))]
          by_cases c5 : C 1 to.toNatClampNeg = -1
          · simp only [if_pos c5, if_pos ((ft_B g3).mpr c5)]
            exact no_1 h
          · simp only [if_neg c5, if_neg (fun z => c5 ((ft_B g3).mp z))]
            have sp : ∀ (s x : Int32), -1 ≤ s.toInt → s.toInt ≤ 40 → (((¬ (x < 0)) ∧ (¬ (s.toInt64 < (x.toInt64 + n.toInt64)))) ↔ ¬ ((x < 0) ∨ ((s - n) < x))) := fun s x h1 h2 => by
              have b := n.toInt_lt
              rw [fi_span, fi_l, fi_l, fi_sub (by omega) (by omega), fi_i0]
              omega
            have s1 := sp (C 1 r.toNatClampNeg) i f3 f4
            have s2 := sp (C 1 to.toNatClampNeg) j g3 g4
            by_cases c6 : (i < 0) ∨ (((C 1 r.toNatClampNeg) - n) < i)
            · simp only [if_pos c6, if_neg (fun z => s1.mp z c6)]
              exact no_2 h
            · simp only [if_neg c6, if_pos (s1.mpr c6)]
              by_cases c7 : (j < 0) ∨ (((C 1 to.toNatClampNeg) - n) < j)
              · simp only [if_pos c7, if_neg (fun z => s2.mp z c7)]
                exact no_2 h
              · simp only [if_neg c7, if_pos (s2.mpr c7)]
                rw [fl_ar2, fl_ar2]
                exact t2_c h (fun c hc => by rw [fl_yn (by omega)]) (fun c hc => by rw [fl_kn (by omega)]) (fun q _ => by rw [fl_kn (by decide)])
theorem ro_10 (h : t2 C R) (hf : f2 C R) (r : Int32) : t2 (if (r < 0) ∨ (¬ (r < 6)) then C else (if (C 1 r.toNatClampNeg) = (-1) then (fl_u (fl_u C 0 11 1) 80 1 ((C 80 1) + 1)) else (if 0 < (C 1 r.toNatClampNeg) then (fl_u C 0 12 (fl_sm (C (fl_ar 2 r.toNatClampNeg)) (C 1 r.toNatClampNeg).toNatClampNeg / (C 1 r.toNatClampNeg).toInt64).toInt32) else (fl_u (fl_u C 0 11 4) 80 4 ((C 80 4) + 1))))) (if (¬ (r < 0)) ∧ (¬ (5 < r)) then (if (R 87 r.toNatClampNeg) < 0 then (fl_u (fl_u R 81 14 1) 91 1 ((R 91 1) + 1)) else (if (R 87 r.toNatClampNeg) = 0 then (fl_u (fl_u R 81 14 4) 91 4 ((R 91 4) + 1)) else (fl_u R 81 11 (fl_sm (fun k => R 88 (40 * r.toNatClampNeg + k)) (R 87 r.toNatClampNeg).toNatClampNeg / (R 87 r.toNatClampNeg).toInt64).toInt32))) else R) := by
  by_cases c1 : (r < 0) ∨ (¬ (r < 6))
  · simp only [if_pos c1, if_neg (fun z => ft_A.mp z c1)]
    exact h
  · simp only [if_neg c1, if_pos (ft_A.mpr c1)]
    obtain ⟨r0, r5, r6⟩ := ft_R c1
    obtain ⟨f1, f3, f4, f5⟩ := hf.1 _ r6
    rw [← f1]
    by_cases c2 : C 1 r.toNatClampNeg = -1
    · simp only [if_pos c2, if_pos ((ft_B f3).mpr c2)]
      exact no_1 h
    · simp only [if_neg c2, if_neg (fun z => c2 ((ft_B f3).mp z))]
      have z2 := fi_ne c2
      rw [fi_m1] at z2
      by_cases c3 : 0 < C 1 r.toNatClampNeg
      · have c4 : ¬ C 1 r.toNatClampNeg = 0 := fun z => by rw [z] at c3; exact absurd c3 (by decide)
        simp only [if_pos c3, if_neg c4]
        have e : fl_sm (C (fl_ar 2 r.toNatClampNeg)) (C 1 r.toNatClampNeg).toNatClampNeg = fl_sm (fun k => R 88 (40 * r.toNatClampNeg + k)) (C 1 r.toNatClampNeg).toNatClampNeg := by
          rw [fl_ar2]
          exact fl_sm_c (fun q hq => f5 q (by rw [fi_cl] at hq; omega))
        rw [e]
        exact t2_tell h rfl
      · have c4 : C 1 r.toNatClampNeg = 0 := by rw [fi_l, fi_i0] at c3; rw [fi_e, fi_i0]; omega
        simp only [if_neg c3, if_pos c4]
        exact no_4 h
theorem ro_11 (h : t2 C R) (hf : f2 C R) (t n : Int32) : t2 (if (t < 0) ∨ (¬ (t < 4)) then C else (if 60 < n then C else (if n < 0 then (fl_u (fl_u C 0 11 5) 80 5 ((C 80 5) + 1)) else (fl_u (fl_f C (fl_ar 10 t.toNatClampNeg) n.toNatClampNeg 32) 9 t.toNatClampNeg n)))) (if (¬ (t < 0)) ∧ (¬ (3 < t)) then (if 60 < n then R else (if n < 0 then (fl_u (fl_u R 81 14 5) 91 5 ((R 91 5) + 1)) else (fl_g (fl_u R 89 t.toNatClampNeg n) 90 (60 * t.toNatClampNeg) 60 32))) else R) := by
  by_cases c1 : (t < 0) ∨ (¬ (t < 4))
  · simp only [if_pos c1, if_neg (fun z => ft_A3.mp z c1)]
    exact h
  · simp only [if_neg c1, if_pos (ft_A3.mpr c1)]
    obtain ⟨r0, r5, r6⟩ := ft_R4 c1
    by_cases c2 : 60 < n
    · simp only [if_pos c2]
      exact h
    · simp only [if_neg c2]
      by_cases c3 : n < 0
      · simp only [if_pos c3]
        exact no_5 h
      · simp only [if_neg c3]
        rw [fl_ar10]
        exact t2_c h (fun c hc => by rw [fl_un (by omega), fl_fn (by omega)]) (fun c hc => by rw [fl_gn (by omega), fl_un (by omega)]) (fun j _ => by rw [fl_gn (by decide), fl_un (by decide)])
theorem ro_13 (h : t2 C R) (hf : f2 C R) (t i v : Int32) : t2 (if (t < 0) ∨ (¬ (t < 4)) then C else (if (C 9 t.toNatClampNeg) = (-1) then (fl_u (fl_u C 0 11 1) 80 1 ((C 80 1) + 1)) else (if i < 0 then (fl_u (fl_u C 0 11 2) 80 2 ((C 80 2) + 1)) else (if i < (C 9 t.toNatClampNeg) then (fl_u C (fl_ar 10 t.toNatClampNeg) i.toNatClampNeg (vp_nar .byte v.toInt8.toInt32)) else (fl_u (fl_u C 0 11 2) 80 2 ((C 80 2) + 1)))))) (if (¬ (t < 0)) ∧ (¬ (3 < t)) then (if (R 89 t.toNatClampNeg) < 0 then (fl_u (fl_u R 81 14 1) 91 1 ((R 91 1) + 1)) else (if (¬ (i < 0)) ∧ (¬ ((R 89 t.toNatClampNeg) - 1 < i)) then (fl_u R 90 (((60 * t) + i).toNatClampNeg) v.toInt8.toInt32) else (fl_u (fl_u R 81 14 2) 91 2 ((R 91 2) + 1)))) else R) := by
  by_cases c1 : (t < 0) ∨ (¬ (t < 4))
  · simp only [if_pos c1, if_neg (fun z => ft_A3.mp z c1)]
    exact h
  · simp only [if_neg c1, if_pos (ft_A3.mpr c1)]
    obtain ⟨r0, r5, r6⟩ := ft_R4 c1
    obtain ⟨f1, f3, f4, f5⟩ := hf.2 _ r6
    rw [← f1]
    by_cases c2 : C 9 t.toNatClampNeg = -1
    · simp only [if_pos c2, if_pos ((ft_B f3).mpr c2)]
      exact no_1 h
    · simp only [if_neg c2, if_neg (fun z => c2 ((ft_B f3).mp z))]
      have hD := ft_D (i := i) f3 (by omega)
      by_cases c3 : i < 0
      · simp only [if_pos c3, if_neg (fun z => (hD.mp z).1 c3)]
        exact no_2 h
      · by_cases c4 : i < C 9 t.toNatClampNeg
        · simp only [if_neg c3, if_pos c4, if_pos (hD.mpr ⟨c3, c4⟩)]
          rw [fl_ar10]
          exact t2_c h (fun c hc => by rw [fl_un (by omega)]) (fun c hc => by rw [fl_un (by omega)]) (fun j _ => by rw [fl_un (by decide)])
        · simp only [if_neg c3, if_neg c4, if_neg (fun z => c4 (hD.mp z).2)]
          exact no_2 h
end RO
/-! What state changes leave alone: what is told and asked. -/
theorem ite_c {p : Prop} [Decidable p] {A B M : fl_M} {c : Nat} (h1 : A c = M c) (h2 : B c = M c) : (if p then A else B) c = M c := by
  split
  · exact h1
  · exact h2
section OC
variable {M : fl_M} {c : Nat}
theorem oc_a (hc : c < 15 ∨ 58 < c) {wh li am : Int32} : m_45 wh li am 15 (m_44 wh li am 42 M) c = M c := by
  funext j
  exact (fr_45 (by omega)).trans (fr_44 (by omega))
theorem oc_42 (hc : c < 15 ∨ 58 < c) : m_42 M c = M c := by
  unfold m_42
  repeat' (first | with_reducible rfl | with_reducible exact oc_a hc | with_reducible apply ite_c)
theorem oc_47 (hc : c < 15 ∨ 58 < c) {l n : Int32} : m_47 l n M c = M c := by
  unfold m_47
  repeat' (first | with_reducible rfl | with_reducible exact oc_a hc | with_reducible apply ite_c)
theorem oc_48 (hc : c < 15 ∨ 58 < c) {l : Int32} : m_48 l M c = M c := by
  unfold m_48
  repeat' (first | with_reducible rfl | with_reducible exact oc_a hc | with_reducible apply ite_c)
theorem oc_49 (hc : c < 15 ∨ 58 < c) {l : Int32} : m_49 l M c = M c := by
  unfold m_49
  repeat' (first | with_reducible rfl | with_reducible exact oc_a hc | with_reducible apply ite_c)
theorem oc_ag (hc : c < 15 ∨ 58 < c) : lr_51_9 (lr_22_53 15 (lr_22_18 15 (fl_u (fl_u (fl_u M 15 2 0) 15 3 (-9)) 15 4 0))) c = M c := by
  have e : lr_51_9 (lr_22_53 15 (lr_22_18 15 (fl_u (fl_u (fl_u M 15 2 0) 15 3 (-9)) 15 4 0))) c = fl_u (fl_u (fl_u M 15 2 0) 15 3 (-9)) 15 4 0 c := by
    funext j
    exact ((fr_51_9 (by omega)).trans (fr_22_53 (by omega))).trans (fr_22_18 (by omega))
  rw [e, fl_un (by omega), fl_un (by omega), fl_un (by omega)]
theorem oc_50 (hc : c < 15 ∨ 58 < c) {n : Int32} : m_50 n M c = M c := by
  unfold m_50
  repeat' (first | with_reducible rfl | with_reducible exact (oc_ag hc).trans (fl_un (by omega)) | with_reducible apply ite_c)
theorem oc_cp (hc : c < 15 ∨ 58 < c) {D E : Nat} (hD : 42 ≤ D ∧ D ≤ 55) {v : Int32} : lr_54_10 D E (fl_u M D 0 v) c = M c := by
  have e : lr_54_10 D E (fl_u M D 0 v) c = fl_u M D 0 v c := by
    funext j
    exact fr_54_10 (by omega)
  rw [e, fl_un (by omega)]
theorem oc_52 (hc : c < 15 ∨ 58 < c) {k : Int32} : m_52 k M c = M c := by
  unfold m_52
  by_cases c1 : (k < 0) ∨ (¬ (k < 3))
  · rw [if_pos c1]
  · rw [if_neg c1]
    obtain ⟨k0, k2, k3⟩ := k3_R c1
    refine ite_c rfl ?_
    exact oc_cp hc (by rw [ka_46]; omega)
theorem oc_89 (hc : c < 15 ∨ 58 < c) {t : Int32} : m_89 t M c = M c := by
  unfold m_89
  repeat' (first | with_reducible exact oc_a hc | with_reducible apply ite_c)
theorem oc_88 (hc : c < 15 ∨ 58 < c) {n seed : Int32} : m_88 n seed M c = M c := by
  have hl : (lr_88_60 n seed.toInt64 M).2 c = M c := by
    unfold lr_88_60 lq_88_60
    refine it_k (fun q : Int64 × fl_M => q.2 c = M c) rfl (fun m q hq => ?_)
    unfold ls_88_60
    exact (oc_89 hc).trans hq
  unfold m_88
  repeat' (first | with_reducible rfl | with_reducible exact hl | with_reducible apply ite_c)
theorem or_k (hc : ¬ c = 82) {v : Int32} : fl_u (lr_149_2 M) 82 0 v c = M c := by
  rw [fl_un hc]
  funext j
  exact fw_149 hc
theorem or_148 (hc : ¬ c = 82) : m_148 M c = M c := by
  unfold m_148
  refine ite_c rfl (ite_c rfl ?_)
  have e : ∀ X : fl_M, m_150 0 0 X c = X c := fun X => by funext j; exact fw_150 hc
  rw [e]
  exact or_k hc
theorem or_151 (hc : ¬ c = 82) {l n : Int32} : m_151 l n M c = M c := by
  unfold m_151
  repeat' (first | with_reducible rfl | with_reducible exact (fl_un hc).trans (or_k hc) | with_reducible apply ite_c)
theorem or_152 (hc : ¬ c = 82) {l : Int32} : m_152 l M c = M c := by
  unfold m_152
  repeat' (first | with_reducible rfl | with_reducible exact (fl_un hc).trans (or_k hc) | with_reducible apply ite_c)
theorem or_153 (hc : ¬ c = 82) {l : Int32} : m_153 l M c = M c := by
  unfold m_153
  repeat' (first | with_reducible rfl | with_reducible exact (fl_un hc).trans (or_k hc) | with_reducible apply ite_c)
theorem fw_154 (g0 : ¬ c = 82) {i1 i2 : Int32} : lr_154_29 i1 i2 M c = M c := by
  unfold lr_154_29 lq_154_29
  have h := ix_k (f := ls_154_29 i1 i2) (n := 23) (a := M) (fun q : fl_M => q c = M c) (fun q : fl_M => q c = M c) rfl (fun m q hq => by
    unfold ls_154_29
    split
    · exact (fl_un g0).trans hq
    · exact hq)
  revert h
  cases fx_ix (ls_154_29 i1 i2) 23 M with
  | inl b => exact id
  | inr b => exact id
theorem or_154 (hc : ¬ c = 82) {n : Int32} : m_154 n M c = M c := by
  unfold m_154
  repeat' (first | with_reducible rfl | with_reducible exact (fl_un hc).trans (fw_154 hc) | with_reducible apply ite_c)
theorem or_156 (hc : ¬ c = 82) {a b : Int32} : lr_156_2 a b M c = M c := by
  funext j
  exact fw_156 hc
theorem or_155 (hc : ¬ c = 82) {k : Int32} : m_155 k M c = M c := by
  unfold m_155
  repeat' (first | with_reducible rfl | with_reducible exact or_156 hc | with_reducible apply ite_c)
theorem or_189 (hc : ¬ c = 82) {t : Int64} : m_189 t M c = M c := by
  have e : m_150 0 0 M c = M c := by funext j; exact fw_150 hc
  unfold m_189
  repeat' (first | with_reducible rfl | with_reducible exact fl_un hc | with_reducible exact e | with_reducible apply ite_c)
theorem or_188 (hc : ¬ c = 82) {n seed : Int32} : m_188 n seed M c = M c := by
  have hl : (lr_188_58 n seed.toInt64 M).2 c = M c := by
    unfold lr_188_58 lq_188_58
    refine it_k (fun q : Int64 × fl_M => q.2 c = M c) rfl (fun m q hq => ?_)
    unfold ls_188_58
    exact ((or_189 hc).trans (or_k hc)).trans hq
  unfold m_188
  repeat' (first | with_reducible rfl | with_reducible exact hl | with_reducible apply ite_c)
end OC
section TS
variable {C R : fl_M}
theorem td_f {C' R' : fl_M} (h : td C R) (eC : ∀ c, (c < 15 ∨ 58 < c) → C' c = C c) (eR : ∀ c, ¬ c = 82 → R' c = R c) : td C' R' := by
  obtain ⟨d1, d2, d3⟩ := h
  refine ⟨?_, ?_, fun f hf => ?_⟩
  · rw [eC 0 (by omega), eR 81 (by decide)]; exact d1
  · rw [eC 0 (by omega), eR 81 (by decide)]; exact d2
  · rw [eC 80 (by omega), eR 91 (by decide)]; exact d3 f hf
theorem yr_2 (h : t2 C R) : v_42 C = v_148 R ∧ t2 (m_42 C) (m_148 R) := ⟨(yr_p h.1).1, (yr_p h.1).2, td_f h.2 (fun _ => oc_42) (fun _ => or_148)⟩
theorem ch_2 (h : t2 C R) (l n : Int32) : v_47 l n C = v_151 l n R ∧ t2 (m_47 l n C) (m_151 l n R) := ⟨(ch_p h.1 l n).1, (ch_p h.1 l n).2, td_f h.2 (fun _ z => oc_47 z) (fun _ z => or_151 z)⟩
theorem ct_2 (h : t2 C R) (l : Int32) : v_48 l C = v_152 l R ∧ t2 (m_48 l C) (m_152 l R) := ⟨(ct_p h.1 l).1, (ct_p h.1 l).2, td_f h.2 (fun _ z => oc_48 z) (fun _ z => or_152 z)⟩
theorem wx_2 (h : t2 C R) (l : Int32) : v_49 l C = v_153 l R ∧ t2 (m_49 l C) (m_153 l R) := ⟨(wx_p h.1 l).1, (wx_p h.1 l).2, td_f h.2 (fun _ z => oc_49 z) (fun _ z => or_153 z)⟩
theorem un_2 (h : t2 C R) (n : Int32) : (¬ n = C 42 0 → v_50 n C = v_154 n R) ∧ t2 (m_50 n C) (m_154 n R) := ⟨(un_p h.1 n).1, (un_p h.1 n).2, td_f h.2 (fun _ z => oc_50 z) (fun _ z => or_154 z)⟩
theorem kp_2 (h : t2 C R) (k : Int32) : v_52 k C = v_155 k R ∧ t2 (m_52 k C) (m_155 k R) := ⟨(kp_p h.1 k).1, (kp_p h.1 k).2, td_f h.2 (fun _ z => oc_52 z) (fun _ z => or_155 z)⟩
theorem lo_2 (h : t2 C R) (n seed : Int32) : v_88 n seed C = v_188 n seed R ∧ t2 (m_88 n seed C) (m_188 n seed R) := ⟨(lo_p h.1 n seed).1, (lo_p h.1 n seed).2, td_f h.2 (fun _ z => oc_88 z) (fun _ z => or_188 z)⟩
theorem on_2 (h : t2 C R) (k : Int32) : v_55 k C = v_157 k R ∧ t2 (m_55 k C) (m_157 k R) := by
  obtain ⟨hv, ht⟩ := on_p h.1 k
  refine ⟨hv, ?_⟩
  revert ht
  unfold m_55 m_157
  by_cases c1 : (k < 0) ∨ (¬ (k < 3))
  · simp only [if_pos c1, if_neg (fun z => k3_A.mp z c1)]
    exact fun _ => h
  · simp only [if_neg c1, if_pos (k3_A.mpr c1)]
    obtain ⟨k0, k2, k3⟩ := k3_R c1
    have eb := kb_i k0 k2
    have ib : (944 * (1 + k) + 0 : Int32).toNatClampNeg = 944 + 944 * k.toNatClampNeg := by rw [Int32.add_zero]; exact fj_nn eb
    rw [ka_46, ib]
    obtain ⟨K1, K2, K3, K4⟩ := h.1.2.2.2 k.toNatClampNeg k3
    rw [← K1]
    by_cases c2 : C (47 + 4 * k.toNatClampNeg) 0 = (-1)
    · simp only [if_pos c2, if_pos ((ft_B K2).mpr c2)]
      exact fun _ => t2_no h 1 (f := 1) (by decide)
    · simp only [if_neg c2, if_neg (fun z => c2 ((ft_B K2).mp z))]
      exact fun ht => ⟨ht, td_f h.2 (fun c z => (oc_ag z).trans (oc_cp z (by omega))) (fun c z => or_156 z)⟩
end TS
