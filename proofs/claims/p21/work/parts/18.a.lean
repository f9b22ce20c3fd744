/-! Both sides' registers tied: a register of the class (its cells from T on, in the memory C) and one of the reference (its place b in the row 82, in the memory R). -/
def tr_s (T : Nat) (C R : fl_M) : Prop := C T 0 = R 81 1 ∧ C T 1 = R 81 4 ∧ (0 ≤ (C T 0).toInt ∧ (C T 0).toInt ≤ 8) ∧ (0 ≤ (C T 1).toInt ∧ (C T 1).toInt ≤ 4) ∧
  (∀ l, l < (C T 0).toNatClampNeg → C (T + 1) l = R 83 l ∧ C (T + 2) l = R 84 l) ∧
  (∀ i, i < (C T 1).toNatClampNeg → C (T + 5) i = R 85 i ∧ C (T + 6) i = R 86 i ∧ 1 ≤ (C (T + 6) i).toInt ∧ (C (T + 6) i).toInt ≤ 9)
def tr_d (T b : Nat) (C R : fl_M) : Prop := C T 2 = R 82 (b + 1) ∧ C T 3 = R 82 (b + 2) ∧ C T 4 = R 82 (b + 3) ∧
  (∀ l, l < (C T 0).toNatClampNeg → (C (T + 3) l = R 82 (b + 4 + l) ∧ 0 ≤ (C (T + 3) l).toInt ∧ (C (T + 3) l).toInt ≤ 40) ∧ C (T + 4) l = R 82 (b + 12 + l) ∧ 0 ≤ (C (T + 4) l).toInt ∧ (C (T + 4) l).toInt ≤ 20) ∧
  (∀ i, i < (C T 1).toNatClampNeg → C (T + 8) i = R 82 (b + 20 + i) ∧ 0 ≤ (C (T + 8) i).toInt ∧ (C (T + 8) i).toInt < (C T 0).toInt) ∧
  (∀ l, (C T 0).toNatClampNeg ≤ l → l < 8 → R 82 (b + 12 + l) = 0)
def tr (T b : Nat) (C R : fl_M) : Prop := tr_s T C R ∧ tr_d T b C R
/-- a place in the reference's row as an int -/
def tr_b (bI : Int32) (b : Nat) : Prop := bI.toInt = b ∧ b ≤ 3776
theorem fj_2 : (2 : Int32).toInt = 2 := rfl
theorem fj_8 : (8 : Int32).toInt = 8 := rfl
theorem fj_12 : (12 : Int32).toInt = 12 := rfl
theorem fj_20 : (20 : Int32).toInt = 20 := rfl
theorem fj_9 : (-9 : Int32).toInt = -9 := rfl
theorem fj_pa {x y : Int32} {a c : Nat} (hx : x.toInt = a) (hy : y.toInt = c) (h : a + c < 2147483648) : (x + y).toInt = ((a + c : Nat) : Int) := by
  rw [fi_add (by omega) (by omega)]
  omega
theorem fj_nn {x : Int32} {a : Nat} (hx : x.toInt = a) : x.toNatClampNeg = a := by
  rw [fi_cl, hx]
  rfl
theorem tr_i1 {bI : Int32} {b : Nat} (h : tr_b bI b) {k : Int32} {c : Nat} (hk : k.toInt = c) (hc : c ≤ 40) : (bI + k).toNatClampNeg = b + c := by
  obtain ⟨h1, h2⟩ := h
  exact fj_nn (fj_pa h1 hk (by omega))
theorem tr_i2 {bI : Int32} {b : Nat} (h : tr_b bI b) {k x : Int32} {c : Nat} (hk : k.toInt = c) (hc : c ≤ 40) (h0 : 0 ≤ x.toInt) (h9 : x.toInt ≤ 40) : (bI + k + x).toNatClampNeg = b + c + x.toNatClampNeg := by
  obtain ⟨h1, h2⟩ := h
  have e := fi_cl x
  exact fj_nn (fj_pa (fj_pa h1 hk (by omega)) (show x.toInt = (x.toNatClampNeg : Nat) by omega) (by omega))
theorem tr_b0 : tr_b 0 0 := ⟨rfl, by decide⟩
theorem tr_bt : tr_b 3776 3776 := ⟨rfl, by decide⟩
/-- small ones that are the same on both sides -/
theorem v31_eq (k w c f : Int32) : v_31 k w c f = v_138 k w c f := by
  unfold v_31 v_138
  have e : (3 < w) ↔ ¬ (w < 4) := by
    rw [fi_l, fi_l, fi_i3, fi_i4]
    omega
  by_cases h : w < 4
  · simp only [if_pos h, if_neg (fun z => (e.mp z) h)]
  · simp only [if_neg h, if_pos (e.mpr h)]
theorem bit_01 (x : Int32) : x &&& 1 = 0 ∨ x &&& 1 = 1 := by
  have h : (x &&& 1).toBitVec = 0#32 ∨ (x &&& 1).toBitVec = 1#32 := by
    rw [Int32.toBitVec_and, show (1 : Int32).toBitVec = 1#32 from rfl, BitVec.and_one_eq_setWidth_ofBool_getLsbD]
    cases x.toBitVec.getLsbD 0
    · exact Or.inl rfl
    · exact Or.inr rfl
  rcases h with h | h
  · exact Or.inl (Int32.toBitVec_inj.mp h)
  · exact Or.inr (Int32.toBitVec_inj.mp h)
theorem bit_no (x : Int32) : (x &&& 1 = 0) ↔ ¬ (x &&& 1 = 1) := by
  rcases bit_01 x with h | h
  · rw [h]; decide
  · rw [h]; decide
section RG
variable {T b : Nat} {C R : fl_M} {bI : Int32}
theorem tr_l (h : tr T b C R) (hb : tr_b bI b) {l : Int32} (h0 : 0 ≤ l.toInt) (hl : l.toNatClampNeg < (C T 0).toNatClampNeg) : l.toInt ≤ 7 ∧ R 82 (bI + 4 + l).toNatClampNeg = C (T + 3) l.toNatClampNeg ∧ R 82 (bI + 12 + l).toNatClampNeg = C (T + 4) l.toNatClampNeg ∧ C (T + 1) l.toNatClampNeg = R 83 l.toNatClampNeg := by
  have c1 := h.1.2.2.1
  have e1 := fi_cl l
  have e2 := fi_cl (C T 0)
  obtain ⟨⟨d1, -⟩, d2, -⟩ := h.2.2.2.2.1 _ hl
  rw [tr_i2 hb (c := 4) fi_i4 (by decide) h0 (by omega), tr_i2 hb (c := 12) fj_12 (by decide) h0 (by omega), d1, d2]
  exact ⟨by omega, rfl, rfl, (h.1.2.2.2.2.1 _ hl).1⟩
theorem tr_m (h : tr T b C R) (hb : tr_b bI b) {i : Int32} (h0 : 0 ≤ i.toInt) (hi : i.toNatClampNeg < (C T 1).toNatClampNeg) : i.toInt ≤ 3 ∧ R 82 (bI + 20 + i).toNatClampNeg = C (T + 8) i.toNatClampNeg ∧ R 85 i.toNatClampNeg = C (T + 5) i.toNatClampNeg ∧ R 86 i.toNatClampNeg = C (T + 6) i.toNatClampNeg := by
  have c1 := h.1.2.2.2.1
  have e1 := fi_cl i
  have e2 := fi_cl (C T 1)
  obtain ⟨d1, -⟩ := h.2.2.2.2.2.1 _ hi
  rw [tr_i2 hb (c := 20) fj_20 (by decide) h0 (by omega), d1]
  obtain ⟨d2, d3, -⟩ := h.1.2.2.2.2.2 _ hi
  exact ⟨by omega, rfl, d2.symm, d3.symm⟩
/-- how far -/
theorem v30_eq (h : tr T b C R) (hb : tr_b bI b) {i l : Int32} (h0 : 0 ≤ i.toInt) (hi : i.toNatClampNeg < (C T 1).toNatClampNeg) : v_30 i l T C = v_137 bI i l R := by
  unfold v_30 v_137
  rw [(tr_m h hb h0 hi).2.1]
  generalize C (T + 8) i.toNatClampNeg - l = x
  by_cases hx : x < 0
  · rw [if_pos hx, if_neg (fun z => by rw [fi_l, fi_i0] at hx; rw [Int32.le_iff_toInt_le, fi_i0] at z; omega)]
  · rw [if_neg hx, if_pos (by rw [fi_l, fi_i0] at hx; rw [Int32.le_iff_toInt_le, fi_i0]; omega)]
theorem v35_eq (h : tr T b C R) {i : Int32} (hi : i.toNatClampNeg < (C T 1).toNatClampNeg) : v_35 (C (T + 5) i.toNatClampNeg) (C (T + 6) i.toNatClampNeg) = v_142 i R := by
  obtain ⟨d2, d3, -⟩ := h.1.2.2.2.2.2 _ hi
  unfold v_35 v_142
  rw [d2, d3]
  generalize R 85 i.toNatClampNeg = k
  by_cases h3 : k = 3
  · rw [if_pos h3, if_pos h3]
  · rw [if_neg h3, if_neg h3]
    by_cases h5 : k = 5
    · subst h5
      rfl
    · rw [if_neg h5, if_neg h5]
/-- by how much a line is liked -/
theorem v136_eq (h : tr T b C R) (hb : tr_b bI b) {i l : Int32} (h0 : 0 ≤ i.toInt) (hi : i.toNatClampNeg < (C T 1).toNatClampNeg) (l0 : 0 ≤ l.toInt) (hl : l.toNatClampNeg < (C T 0).toNatClampNeg) : v_31 (C (T + 5) i.toNatClampNeg) (C (T + 1) l.toNatClampNeg) (C (T + 4) l.toNatClampNeg) (v_30 i l T C) = v_136 bI i l R := by
  obtain ⟨-, -, d1, d2⟩ := tr_l h hb l0 hl
  obtain ⟨-, -, d3, -⟩ := tr_m h hb h0 hi
  unfold v_136
  rw [v31_eq, v30_eq h hb h0 hi, d1, d2, d3]
/-- which line is wanted -/
theorem wa_eq (h : tr T b C R) (hb : tr_b bI b) {i : Int32} (h0 : 0 ≤ i.toInt) (hi : i.toNatClampNeg < (C T 1).toNatClampNeg) : (lr_28_11 i (-9) 0 0 T C).1 = (lr_134_9 bI i (-9) 0 R).1 ∧ ((lr_134_9 bI i (-9) 0 R).1 = (-9) ∨ (0 ≤ (lr_134_9 bI i (-9) 0 R).1.toInt ∧ (lr_134_9 bI i (-9) 0 R).1.toNatClampNeg < (C T 0).toNatClampNeg)) := by
  have c1 := h.1.2.2.1
  have e2 := fi_cl (C T 0)
  unfold lr_28_11 lr_134_9 lq_28_11 lq_134_9
  rw [← h.1.1]
  have key := it_r (f := ls_28_11 i T C) (g := ls_134_9 bI i R) (n := (C T 0).toNatClampNeg) (a := (-9, 0, 0)) (b := (-9, 0)) (fun m x y => x.1 = y.1 ∧ x.2.1 = y.2 ∧ (y.1 = (-9) → y.2 = 0) ∧ 0 ≤ y.2.toInt ∧ (¬ y.1 = (-9) → 0 < y.2.toInt ∧ x.2.2 = v_137 bI i y.1 R ∧ 0 ≤ y.1.toInt ∧ y.1.toInt < m)) ⟨rfl, rfl, fun _ => rfl, by decide, fun z => absurd rfl z⟩ ?_
  · obtain ⟨k1, k2, k3, k5, k4⟩ := key
    refine ⟨k1, ?_⟩
    by_cases hz : (fx_it (ls_134_9 bI i R) (C T 0).toNatClampNeg (-9, 0)).1 = (-9)
    · exact Or.inl hz
    · obtain ⟨-, -, k6, k7⟩ := k4 hz
      refine Or.inr ⟨k6, ?_⟩
      rw [fi_cl]
      omega
  · intro m x y hm hR
    obtain ⟨xb, xm, xn⟩ := x
    obtain ⟨yb, ym⟩ := y
    obtain ⟨r1, r2, r3, r4, r5⟩ := hR
    dsimp only at r1 r2 r3 r4 r5
    subst r1
    subst r2
    have em := fi_ti (m := m) (by omega)
    have en := fi_at (m := m) (by omega)
    have hl : (Int32.ofNat m).toNatClampNeg < (C T 0).toNatClampNeg := by rw [en]; exact hm
    have l0 : 0 ≤ (Int32.ofNat m).toInt := by rw [em]; omega
    obtain ⟨-, d1, -, -⟩ := tr_l h hb l0 hl
    have dV := v136_eq h hb h0 hi l0 hl
    have dF := v30_eq h hb (l := Int32.ofNat m) h0 hi
    have dW : R 82 (bI + 3).toNatClampNeg = C T 4 := by rw [tr_i1 hb (c := 3) fi_i3 (by decide)]; exact h.2.2.2.1.symm
    have dK : R 82 (bI + 2).toNatClampNeg = C T 3 := by rw [tr_i1 hb (c := 2) fj_2 (by decide)]; exact h.2.2.1.symm
    have n9 : ¬ Int32.ofNat m = (-9) := fun z => by rw [z, fj_9] at l0; omega
    unfold ls_28_11 ls_134_9
    dsimp only
    rw [d1, dV, dF, dW, dK]
    generalize v_136 bI i (Int32.ofNat m) R = V
    have D0 : (if xm < 0 then (Int32.ofNat m, (0 : Int32)) else if xb = (-9) then (xb, xm) else if 0 = xm then (if v_137 bI i (Int32.ofNat m) R < v_137 bI i xb R then (Int32.ofNat m, 0) else (xb, xm)) else (xb, xm)) = (xb, xm) := by
      rw [if_neg (fun z => by rw [fi_l, fi_i0] at z; omega)]
      by_cases hz : xb = (-9)
      · rw [if_pos hz]
      · rw [if_neg hz, if_neg (fun z => by have := (r5 hz).1; rw [← z, fi_i0] at this; omega)]
    have keep : ((xb, xm, xn) : Int32 × Int32 × Int32).1 = ((xb, xm) : Int32 × Int32).1 ∧ ((xb, xm, xn) : Int32 × Int32 × Int32).2.1 = ((xb, xm) : Int32 × Int32).2 ∧ (xb = (-9) → xm = 0) ∧ 0 ≤ xm.toInt ∧ (¬ xb = (-9) → 0 < xm.toInt ∧ xn = v_137 bI i xb R ∧ 0 ≤ xb.toInt ∧ xb.toInt < ((m + 1 : Nat) : Int)) := ⟨rfl, rfl, r3, r4, fun z => by obtain ⟨q1, q2, q3, q4⟩ := r5 z; exact ⟨q1, q2, q3, by omega⟩⟩
    by_cases c1 : 0 < C (T + 3) (Int32.ofNat m).toNatClampNeg
    · by_cases c2 : C T 4 >>> (Int32.ofNat m &&& 31) &&& 1 = 1
      · rw [if_neg (fun z => (bit_no _).mp z.2.1 c2), if_pos c1, if_pos c2, D0]
        exact keep
      · by_cases c3 : C T 3 = Int32.ofNat m
        · rw [if_neg (fun z => z.2.2 c3), if_pos c1, if_neg c2, if_pos c3, D0]
          exact keep
        · rw [if_pos ⟨c1, (bit_no _).mpr c2, c3⟩, if_pos c1, if_neg c2, if_neg c3]
          have new : 0 < V.toInt → ((Int32.ofNat m, V, v_137 bI i (Int32.ofNat m) R) : Int32 × Int32 × Int32).1 = ((Int32.ofNat m, V) : Int32 × Int32).1 ∧ ((Int32.ofNat m, V, v_137 bI i (Int32.ofNat m) R) : Int32 × Int32 × Int32).2.1 = ((Int32.ofNat m, V) : Int32 × Int32).2 ∧ (Int32.ofNat m = (-9) → V = 0) ∧ 0 ≤ V.toInt ∧ (¬ Int32.ofNat m = (-9) → 0 < V.toInt ∧ v_137 bI i (Int32.ofNat m) R = v_137 bI i (Int32.ofNat m) R ∧ 0 ≤ (Int32.ofNat m).toInt ∧ (Int32.ofNat m).toInt < ((m + 1 : Nat) : Int)) := fun hV => ⟨rfl, rfl, fun z => absurd z n9, by omega, fun _ => ⟨hV, rfl, l0, by omega⟩⟩
          by_cases c4 : xm < V
          · rw [if_pos c4, if_pos c4]
            exact new (by rw [fi_l] at c4; omega)
          · rw [if_neg c4, if_neg c4]
            by_cases c5 : xb = (-9)
            · simp only [if_pos c5]
              by_cases c6 : V = xm
              · simp only [if_pos c6]
                exact ⟨trivial, trivial, keep.2.2⟩
              · simp only [if_neg c6]
                exact ⟨trivial, trivial, keep.2.2⟩
            · simp only [if_neg c5]
              have r6 := r5 c5
              by_cases c6 : V = xm
              · simp only [if_pos c6, r6.2.1]
                by_cases c7 : v_137 bI i (Int32.ofNat m) R < v_137 bI i xb R
                · simp only [if_pos c7]
                  have n := new (by rw [c6]; exact r6.1)
                  exact ⟨trivial, trivial, n.2.2.1, n.2.2.2.1, fun z => by obtain ⟨a, -, c⟩ := n.2.2.2.2 z; exact ⟨a, trivial, c⟩⟩
                · simp only [if_neg c7]
                  have k2 := keep
                  simp only [r6.2.1] at k2
                  exact k2
              · simp only [if_neg c6]
                exact ⟨trivial, trivial, keep.2.2⟩
    · rw [if_neg (fun z => c1 z.1), if_neg c1, D0]
      exact keep
end RG
