/-! Ranges of numbers: unions of intervals, and what arithmetic makes of them. -/
abbrev ar_R : Type := List (Int × Int)
def ar_in (x : Int) (r : ar_R) : Prop := ∃ q ∈ r, q.1 ≤ x ∧ x ≤ q.2
def ar_t32 : ar_R := [(-2147483648, 2147483647)]
def ar_t64 : ar_R := [(-9223372036854775808, 9223372036854775807)]
theorem ar_in32 (x : Int32) : ar_in x.toInt ar_t32 := ⟨_, List.mem_cons_self, by have := x.le_toInt; have := x.toInt_lt; exact ⟨by omega, by omega⟩⟩
theorem ar_in64 (x : Int64) : ar_in x.toInt ar_t64 := ⟨_, List.mem_cons_self, by have := x.le_toInt; have := x.toInt_lt; exact ⟨by omega, by omega⟩⟩
def ar_min (a b : Int) : Int := if a ≤ b then a else b
def ar_max (a b : Int) : Int := if a ≤ b then b else a
theorem ar_min_l (a b : Int) : ar_min a b ≤ a := by unfold ar_min; split <;> omega
theorem ar_min_r (a b : Int) : ar_min a b ≤ b := by unfold ar_min; split <;> omega
theorem ar_max_l (a b : Int) : a ≤ ar_max a b := by unfold ar_max; split <;> omega
theorem ar_max_r (a b : Int) : b ≤ ar_max a b := by unfold ar_max; split <;> omega
/-- the hull -/
def ar_h : ar_R → Int × Int
  | [] => (0, 0)
  | [q] => q
  | q :: r => (ar_min q.1 (ar_h r).1, ar_max q.2 (ar_h r).2)
theorem ar_h_s {x : Int} : ∀ {r : ar_R}, ar_in x r → (ar_h r).1 ≤ x ∧ x ≤ (ar_h r).2
  | [], h => by obtain ⟨q, hq, -⟩ := h; exact absurd hq List.not_mem_nil
  | [q], h => by
    obtain ⟨q', hq, h1⟩ := h
    rw [List.mem_singleton] at hq
    subst hq
    exact h1
  | q :: q2 :: r, h => by
    obtain ⟨q', hq, h1⟩ := h
    show ar_min q.1 (ar_h (q2 :: r)).1 ≤ x ∧ x ≤ ar_max q.2 (ar_h (q2 :: r)).2
    rcases List.mem_cons.mp hq with rfl | hq
    · exact ⟨Int.le_trans (ar_min_l _ _) h1.1, Int.le_trans h1.2 (ar_max_l _ _)⟩
    · have ih := ar_h_s (r := q2 :: r) ⟨q', hq, h1⟩
      exact ⟨Int.le_trans (ar_min_r _ _) ih.1, Int.le_trans ih.2 (ar_max_r _ _)⟩
def ar_sub (r s : ar_R) : Bool := r.all fun q => s.any fun p => decide (p.1 ≤ q.1) && decide (q.2 ≤ p.2)
theorem ar_sub_s {r s : ar_R} (h : ar_sub r s = true) {x : Int} (hx : ar_in x r) : ar_in x s := by
  obtain ⟨q, hq, h1, h2⟩ := hx
  have a := List.all_eq_true.mp h q hq
  obtain ⟨p, hp, a⟩ := List.any_eq_true.mp a
  simp only [Bool.and_eq_true, decide_eq_true_eq] at a
  exact ⟨p, hp, Int.le_trans a.1 h1, Int.le_trans h2 a.2⟩
def ar_le (r : ar_R) (m : Int) : ar_R := r.filterMap fun q => if q.1 ≤ m then some (q.1, ar_min q.2 m) else none
def ar_ge (r : ar_R) (m : Int) : ar_R := r.filterMap fun q => if m ≤ q.2 then some (ar_max q.1 m, q.2) else none
theorem ar_le_s {r : ar_R} {m x : Int} (h : ar_in x r) (hm : x ≤ m) : ar_in x (ar_le r m) := by
  obtain ⟨q, hq, h1, h2⟩ := h
  refine ⟨(q.1, ar_min q.2 m), List.mem_filterMap.mpr ⟨q, hq, if_pos (Int.le_trans h1 hm)⟩, h1, ?_⟩
  show x ≤ ar_min q.2 m
  unfold ar_min
  split <;> omega
theorem ar_ge_s {r : ar_R} {m x : Int} (h : ar_in x r) (hm : m ≤ x) : ar_in x (ar_ge r m) := by
  obtain ⟨q, hq, h1, h2⟩ := h
  refine ⟨(ar_max q.1 m, q.2), List.mem_filterMap.mpr ⟨q, hq, if_pos (Int.le_trans hm h2)⟩, ?_, h2⟩
  show ar_max q.1 m ≤ x
  unfold ar_max
  split <;> omega
def ar_ne (r : ar_R) (m : Int) : ar_R := r.flatMap fun q => if q.1 = m then (if q.2 = m then [] else [(m + 1, q.2)]) else if q.2 = m then [(q.1, m - 1)] else [q]
theorem ar_ne_s {r : ar_R} {m x : Int} (h : ar_in x r) (hm : ¬ x = m) : ar_in x (ar_ne r m) := by
  obtain ⟨q, hq, h1, h2⟩ := h
  by_cases e1 : q.1 = m
  · by_cases e2 : q.2 = m
    · exact absurd (Int.le_antisymm (e2 ▸ h2) (e1 ▸ h1)) hm
    · exact ⟨(m + 1, q.2), List.mem_flatMap.mpr ⟨q, hq, by rw [if_pos e1, if_neg e2]; exact List.mem_cons_self⟩, by show m + 1 ≤ x; omega, h2⟩
  · by_cases e2 : q.2 = m
    · exact ⟨(q.1, m - 1), List.mem_flatMap.mpr ⟨q, hq, by rw [if_neg e1, if_pos e2]; exact List.mem_cons_self⟩, h1, by show x ≤ m - 1; omega⟩
    · exact ⟨q, List.mem_flatMap.mpr ⟨q, hq, by rw [if_neg e1, if_neg e2]; exact List.mem_cons_self⟩, h1, h2⟩
/-- what a comparison that holds leaves of both sides -/
def ar_cmp (q : Jvm.ClassFile.Cond) (x y : ar_R) : ar_R × ar_R := match q with
  | .eq => (ar_ge (ar_le x (ar_h y).2) (ar_h y).1, ar_ge (ar_le y (ar_h x).2) (ar_h x).1)
  | .ne => (if (ar_h y).1 = (ar_h y).2 then ar_ne x (ar_h y).1 else x, if (ar_h x).1 = (ar_h x).2 then ar_ne y (ar_h x).1 else y)
  | .lt => (ar_le x ((ar_h y).2 - 1), ar_ge y ((ar_h x).1 + 1))
  | .ge => (ar_ge x (ar_h y).1, ar_le y (ar_h x).2)
  | .gt => (ar_ge x ((ar_h y).1 + 1), ar_le y ((ar_h x).2 - 1))
  | .le => (ar_le x (ar_h y).2, ar_ge y (ar_h x).1)
def ar_neg (q : Jvm.ClassFile.Cond) : Jvm.ClassFile.Cond := match q with
  | .eq => .ne
  | .ne => .eq
  | .lt => .ge
  | .ge => .lt
  | .gt => .le
  | .le => .gt
def ar_holds (q : Jvm.ClassFile.Cond) (x y : Int) : Prop := match q with
  | .eq => x = y
  | .ne => ¬ x = y
  | .lt => x < y
  | .ge => y ≤ x
  | .gt => y < x
  | .le => x ≤ y
theorem ar_holds_neg {q : Jvm.ClassFile.Cond} {x y : Int} (h : ¬ ar_holds q x y) : ar_holds (ar_neg q) x y := by
  cases q <;> simp only [ar_holds, ar_neg] at h ⊢ <;> omega
theorem ar_cmp_s {q : Jvm.ClassFile.Cond} {rx ry : ar_R} {x y : Int} (hx : ar_in x rx) (hy : ar_in y ry) (h : ar_holds q x y) : ar_in x (ar_cmp q rx ry).1 ∧ ar_in y (ar_cmp q rx ry).2 := by
  have a := ar_h_s hx
  have b := ar_h_s hy
  cases q with
  | eq =>
    have h : x = y := h
    exact ⟨ar_ge_s (ar_le_s hx (by omega)) (by omega), ar_ge_s (ar_le_s hy (by omega)) (by omega)⟩
  | ne =>
    have h : ¬ x = y := h
    refine ⟨?_, ?_⟩
    · show ar_in x (if (ar_h ry).1 = (ar_h ry).2 then ar_ne rx (ar_h ry).1 else rx)
      split
      · exact ar_ne_s hx (by omega)
      · exact hx
    · show ar_in y (if (ar_h rx).1 = (ar_h rx).2 then ar_ne ry (ar_h rx).1 else ry)
      split
      · exact ar_ne_s hy (by omega)
      · exact hy
  | lt =>
    have h : x < y := h
    exact ⟨ar_le_s hx (by omega), ar_ge_s hy (by omega)⟩
  | ge =>
    have h : y ≤ x := h
    exact ⟨ar_ge_s hx (by omega), ar_le_s hy (by omega)⟩
  | gt =>
    have h : y < x := h
    exact ⟨ar_ge_s hx (by omega), ar_le_s hy (by omega)⟩
  | le =>
    have h : x ≤ y := h
    exact ⟨ar_le_s hx (by omega), ar_ge_s hy (by omega)⟩
theorem ar_smcmp (q : Jvm.ClassFile.Cond) (x y : Int32) : sm_cmp q x y = true ↔ ar_holds q x.toInt y.toInt := by
  cases q <;> simp only [sm_cmp, ar_holds, decide_eq_true_eq, Int32.lt_iff_toInt_lt, Int32.le_iff_toInt_le, ← Int32.toInt_inj]
/-- in 32 bits, in 64 bits, if it fits -/
def ar_f32 (q : Int × Int) : ar_R := if -2147483648 ≤ q.1 ∧ q.2 ≤ 2147483647 then [q] else ar_t32
def ar_f64 (q : Int × Int) : ar_R := if -9223372036854775808 ≤ q.1 ∧ q.2 ≤ 9223372036854775807 then [q] else ar_t64
theorem ar_f32_s {w : Int32} {z : Int} {q : Int × Int} (hw : w.toInt = z.bmod (2 ^ 32)) (h : q.1 ≤ z ∧ z ≤ q.2) : ar_in w.toInt (ar_f32 q) := by
  unfold ar_f32
  split
  · rename_i hq
    refine ⟨q, List.mem_cons_self, ?_⟩
    rw [hw, Int.bmod_eq_of_le (by omega) (by omega)]
    exact h
  · exact ar_in32 w
theorem ar_f64_s {w : Int64} {z : Int} {q : Int × Int} (hw : w.toInt = z.bmod (2 ^ 64)) (h : q.1 ≤ z ∧ z ≤ q.2) : ar_in w.toInt (ar_f64 q) := by
  unfold ar_f64
  split
  · rename_i hq
    refine ⟨q, List.mem_cons_self, ?_⟩
    rw [hw, Int.bmod_eq_of_le (by omega) (by omega)]
    exact h
  · exact ar_in64 w
/-- products -/
def ar_mul (p q : Int × Int) : Int × Int := (ar_min (ar_min (p.1 * q.1) (p.1 * q.2)) (ar_min (p.2 * q.1) (p.2 * q.2)), ar_max (ar_max (p.1 * q.1) (p.1 * q.2)) (ar_max (p.2 * q.1) (p.2 * q.2)))
theorem ar_mul_1 {a b x y : Int} (h : a ≤ x ∧ x ≤ b) : (a * y ≤ x * y ∧ x * y ≤ b * y) ∨ (b * y ≤ x * y ∧ x * y ≤ a * y) := by
  rcases Int.le_total 0 y with hy | hy
  · exact Or.inl ⟨Int.mul_le_mul_of_nonneg_right h.1 hy, Int.mul_le_mul_of_nonneg_right h.2 hy⟩
  · exact Or.inr ⟨Int.mul_le_mul_of_nonpos_right h.2 hy, Int.mul_le_mul_of_nonpos_right h.1 hy⟩
theorem ar_mul_s {p q : Int × Int} {x y : Int} (hx : p.1 ≤ x ∧ x ≤ p.2) (hy : q.1 ≤ y ∧ y ≤ q.2) : (ar_mul p q).1 ≤ x * y ∧ x * y ≤ (ar_mul p q).2 := by
  have h1 := ar_mul_1 (y := y) hx
  have h2 := ar_mul_1 (y := p.1) hy
  have h3 := ar_mul_1 (y := p.2) hy
  rw [Int.mul_comm q.1 p.1, Int.mul_comm q.2 p.1, Int.mul_comm y p.1] at h2
  rw [Int.mul_comm q.1 p.2, Int.mul_comm q.2 p.2, Int.mul_comm y p.2] at h3
  have m1 := ar_min_l (p.1 * q.1) (p.1 * q.2)
  have m2 := ar_min_r (p.1 * q.1) (p.1 * q.2)
  have m3 := ar_min_l (p.2 * q.1) (p.2 * q.2)
  have m4 := ar_min_r (p.2 * q.1) (p.2 * q.2)
  have m5 := ar_min_l (ar_min (p.1 * q.1) (p.1 * q.2)) (ar_min (p.2 * q.1) (p.2 * q.2))
  have m6 := ar_min_r (ar_min (p.1 * q.1) (p.1 * q.2)) (ar_min (p.2 * q.1) (p.2 * q.2))
  have n1 := ar_max_l (p.1 * q.1) (p.1 * q.2)
  have n2 := ar_max_r (p.1 * q.1) (p.1 * q.2)
  have n3 := ar_max_l (p.2 * q.1) (p.2 * q.2)
  have n4 := ar_max_r (p.2 * q.1) (p.2 * q.2)
  have n5 := ar_max_l (ar_max (p.1 * q.1) (p.1 * q.2)) (ar_max (p.2 * q.1) (p.2 * q.2))
  have n6 := ar_max_r (ar_max (p.1 * q.1) (p.1 * q.2)) (ar_max (p.2 * q.1) (p.2 * q.2))
  show ar_min (ar_min (p.1 * q.1) (p.1 * q.2)) (ar_min (p.2 * q.1) (p.2 * q.2)) ≤ x * y ∧ x * y ≤ ar_max (ar_max (p.1 * q.1) (p.1 * q.2)) (ar_max (p.2 * q.1) (p.2 * q.2))
  omega
/-- two ints: exactly where both are known, else by the hulls -/
def ar_2 (g : Int32 → Int32 → Int32) (F : Int × Int → Int × Int → ar_R) (x y : ar_R) : ar_R :=
  if (ar_h x).1 = (ar_h x).2 ∧ (ar_h y).1 = (ar_h y).2 then [((g (Int32.ofInt (ar_h x).1) (Int32.ofInt (ar_h y).1)).toInt, (g (Int32.ofInt (ar_h x).1) (Int32.ofInt (ar_h y).1)).toInt)] else F (ar_h x) (ar_h y)
theorem ar_2_s {g : Int32 → Int32 → Int32} {F : Int × Int → Int × Int → ar_R} {rx ry : ar_R} {x y : Int32} (hx : ar_in x.toInt rx) (hy : ar_in y.toInt ry) (hF : ∀ p q : Int × Int, (p.1 ≤ x.toInt ∧ x.toInt ≤ p.2) → (q.1 ≤ y.toInt ∧ y.toInt ≤ q.2) → ar_in (g x y).toInt (F p q)) : ar_in (g x y).toInt (ar_2 g F rx ry) := by
  have a := ar_h_s hx
  have b := ar_h_s hy
  unfold ar_2
  split
  · rename_i h
    have ex : x = Int32.ofInt (ar_h rx).1 := by rw [show (ar_h rx).1 = x.toInt by omega, Int32.ofInt_toInt]
    have ey : y = Int32.ofInt (ar_h ry).1 := by rw [show (ar_h ry).1 = y.toInt by omega, Int32.ofInt_toInt]
    refine ⟨_, List.mem_cons_self, ?_, ?_⟩
    · rw [← ex, ← ey]; exact Int.le_refl _
    · rw [← ex, ← ey]; exact Int.le_refl _
  · exact hF _ _ a b
def ar_2l (g : Int64 → Int64 → Int64) (F : Int × Int → Int × Int → ar_R) (x y : ar_R) : ar_R :=
  if (ar_h x).1 = (ar_h x).2 ∧ (ar_h y).1 = (ar_h y).2 then [((g (Int64.ofInt (ar_h x).1) (Int64.ofInt (ar_h y).1)).toInt, (g (Int64.ofInt (ar_h x).1) (Int64.ofInt (ar_h y).1)).toInt)] else F (ar_h x) (ar_h y)
theorem ar_2l_s {g : Int64 → Int64 → Int64} {F : Int × Int → Int × Int → ar_R} {rx ry : ar_R} {x y : Int64} (hx : ar_in x.toInt rx) (hy : ar_in y.toInt ry) (hF : ∀ p q : Int × Int, (p.1 ≤ x.toInt ∧ x.toInt ≤ p.2) → (q.1 ≤ y.toInt ∧ y.toInt ≤ q.2) → ar_in (g x y).toInt (F p q)) : ar_in (g x y).toInt (ar_2l g F rx ry) := by
  have a := ar_h_s hx
  have b := ar_h_s hy
  unfold ar_2l
  split
  · rename_i h
    have ex : x = Int64.ofInt (ar_h rx).1 := by rw [show (ar_h rx).1 = x.toInt by omega, Int64.ofInt_toInt]
    have ey : y = Int64.ofInt (ar_h ry).1 := by rw [show (ar_h ry).1 = y.toInt by omega, Int64.ofInt_toInt]
    refine ⟨_, List.mem_cons_self, ?_, ?_⟩
    · rw [← ex, ← ey]; exact Int.le_refl _
    · rw [← ex, ← ey]; exact Int.le_refl _
  · exact hF _ _ a b
def ar_add (p q : Int × Int) : Int × Int := (p.1 + q.1, p.2 + q.2)
def ar_subt (p q : Int × Int) : Int × Int := (p.1 - q.2, p.2 - q.1)
def ar_div (p q : Int × Int) : Option (Int × Int) := if 0 ≤ p.1 ∧ 1 ≤ q.1 then some (0, p.2) else none
def ar_rem (p q : Int × Int) : Option (Int × Int) := if 1 ≤ q.1 then (if 0 ≤ p.1 then some (0, ar_min p.2 (q.2 - 1)) else some (1 - q.2, q.2 - 1)) else none
def ar_and (p q : Int × Int) : ar_R := if 0 ≤ q.1 then [(0, q.2)] else if 0 ≤ p.1 then [(0, p.2)] else ar_t32
theorem ar_and_s (x y : Int32) {p q : Int × Int} (hx : p.1 ≤ x.toInt ∧ x.toInt ≤ p.2) (hy : q.1 ≤ y.toInt ∧ y.toInt ≤ q.2) : ar_in (x &&& y).toInt (ar_and p q) := by
  have key : ∀ a b : Int32, 0 ≤ b.toInt → 0 ≤ (a &&& b).toInt ∧ (a &&& b).toInt ≤ b.toInt := by
    intro a b hb
    have hbn : b.toInt = (b.toBitVec.toNat : Int) := by
      show b.toBitVec.toInt = _
      have : 0 ≤ b.toBitVec.toInt := hb
      rw [BitVec.toInt_eq_toNat_cond] at this ⊢
      split at this <;> rename_i h
      · rw [if_pos h]
      · have := b.toBitVec.isLt
        omega
    have hlt : 2 * b.toBitVec.toNat < 2 ^ 32 := by
      have := b.toInt_lt
      omega
    have e : (a &&& b).toBitVec.toNat = a.toBitVec.toNat &&& b.toBitVec.toNat := by rw [Int32.toBitVec_and, BitVec.toNat_and]
    have hle : (a &&& b).toBitVec.toNat ≤ b.toBitVec.toNat := by rw [e]; exact Nat.and_le_right
    have h2 : (a &&& b).toInt = ((a &&& b).toBitVec.toNat : Int) := by
      show (a &&& b).toBitVec.toInt = _
      rw [BitVec.toInt_eq_toNat_cond, if_pos (by omega)]
    omega
  unfold ar_and
  split
  · have := key x y (by omega)
    exact ⟨_, List.mem_cons_self, by show 0 ≤ _; omega, by show _ ≤ q.2; omega⟩
  · split
    · have := key y x (by omega)
      rw [Int32.and_comm] at this
      exact ⟨_, List.mem_cons_self, by show 0 ≤ _; omega, by show _ ≤ p.2; omega⟩
    · exact ar_in32 _
theorem ar_div_s {x y : Int32} {p q r : Int × Int} (hx : p.1 ≤ x.toInt ∧ x.toInt ≤ p.2) (hy : q.1 ≤ y.toInt ∧ y.toInt ≤ q.2) (h : ar_div p q = some r) : r.1 ≤ (x / y).toInt ∧ (x / y).toInt ≤ r.2 := by
  unfold ar_div at h
  split at h
  · cases h
    rw [lg_idiv_nonneg (by omega) (by omega)]
    exact ⟨Int.ediv_nonneg (by omega) (by omega), Int.le_trans (Int.ediv_le_self _ (by omega)) hx.2⟩
  · cases h
theorem ar_ldiv_s {x y : Int64} {p q r : Int × Int} (hx : p.1 ≤ x.toInt ∧ x.toInt ≤ p.2) (hy : q.1 ≤ y.toInt ∧ y.toInt ≤ q.2) (h : ar_div p q = some r) : r.1 ≤ (x / y).toInt ∧ (x / y).toInt ≤ r.2 := by
  unfold ar_div at h
  split at h
  · cases h
    rw [lg_ldiv_nonneg (by omega) (by omega)]
    exact ⟨Int.ediv_nonneg (by omega) (by omega), Int.le_trans (Int.ediv_le_self _ (by omega)) hx.2⟩
  · cases h
/-- a remainder's bounds, over the numbers themselves -/
theorem ar_tmod_s {x y : Int} (hy : 1 ≤ y) : (1 - y ≤ x.tmod y ∧ x.tmod y ≤ y - 1) ∧ (0 ≤ x → 0 ≤ x.tmod y ∧ x.tmod y ≤ x) ∧ (x ≤ 0 → x ≤ x.tmod y ∧ x.tmod y ≤ 0) := by
  have hb := tmod_bounds (a := x) (M := y) (by omega)
  refine ⟨by omega, fun h => ?_, fun h => ?_⟩
  · have h1 : 0 ≤ x.tmod y := Int.tmod_nonneg y h
    have h2 : 0 ≤ x.tdiv y := Int.tdiv_nonneg h (by omega)
    have h3 := Int.mul_nonneg (show 0 ≤ y by omega) h2
    have e := Int.tmod_add_mul_tdiv x y
    omega
  · have h0 : (-x).tmod y = -(x.tmod y) := Int.neg_tmod x y
    have h1 : 0 ≤ (-x).tmod y := Int.tmod_nonneg y (by omega)
    have h2 : 0 ≤ (-x).tdiv y := Int.tdiv_nonneg (by omega) (by omega)
    have h3 := Int.mul_nonneg (show 0 ≤ y by omega) h2
    have e := Int.tmod_add_mul_tdiv (-x) y
    omega
theorem ar_rem_eq (x y : Int32) (hy : 1 ≤ y.toInt) : (x - x / y * y).toInt = x.toInt.tmod y.toInt := by
  have hb := ar_tmod_s (x := x.toInt) hy
  have e := Int.tmod_add_mul_tdiv x.toInt y.toInt
  rw [Int.mul_comm] at e
  have l1 := x.le_toInt
  have l2 := x.toInt_lt
  have hne : y ≠ -1 := by
    intro h
    rw [h] at hy
    exact absurd hy (by decide)
  have hm : (x / y * y).toInt = x.toInt.tdiv y.toInt * y.toInt := by
    rw [Int32.toInt_mul, Int32.toInt_div_of_ne_right x y hne, Int.bmod_eq_of_le (by omega) (by omega)]
  rw [Int32.toInt_sub, hm, Int.bmod_eq_of_le (by omega) (by omega)]
  omega
theorem ar_lrem_eq (x y : Int64) (hy : 1 ≤ y.toInt) : (x - x / y * y).toInt = x.toInt.tmod y.toInt := by
  have hb := ar_tmod_s (x := x.toInt) hy
  have e := Int.tmod_add_mul_tdiv x.toInt y.toInt
  rw [Int.mul_comm] at e
  have l1 := x.le_toInt
  have l2 := x.toInt_lt
  have hne : y ≠ -1 := by
    intro h
    rw [h] at hy
    exact absurd hy (by decide)
  have hm : (x / y * y).toInt = x.toInt.tdiv y.toInt * y.toInt := by
    rw [Int64.toInt_mul, Int64.toInt_div_of_ne_right x y hne, Int.bmod_eq_of_le (by omega) (by omega)]
  rw [Int64.toInt_sub, hm, Int.bmod_eq_of_le (by omega) (by omega)]
  omega
theorem ar_rem_z {x y : Int} {p q r : Int × Int} (hx : p.1 ≤ x ∧ x ≤ p.2) (hy : q.1 ≤ y ∧ y ≤ q.2) (h : ar_rem p q = some r) : 1 ≤ y ∧ r.1 ≤ x.tmod y ∧ x.tmod y ≤ r.2 := by
  unfold ar_rem at h
  split at h
  · have hb := ar_tmod_s (x := x) (y := y) (by omega)
    split at h
    · cases h
      refine ⟨by omega, (hb.2.1 (by omega)).1, ?_⟩
      have h1 := (hb.2.1 (by omega)).2
      show _ ≤ ar_min p.2 (q.2 - 1)
      unfold ar_min
      split <;> omega
    · cases h
      refine ⟨by omega, ?_, ?_⟩
      · show 1 - q.2 ≤ _
        omega
      · show _ ≤ q.2 - 1
        omega
  · cases h
/-- what lies in both -/
def ar_int (r s : ar_R) : ar_R := r.flatMap fun q => s.filterMap fun p => if ar_max q.1 p.1 ≤ ar_min q.2 p.2 then some (ar_max q.1 p.1, ar_min q.2 p.2) else none
theorem ar_int_s {x : Int} {r s : ar_R} (hr : ar_in x r) (hs : ar_in x s) : ar_in x (ar_int r s) := by
  obtain ⟨q, hq, q1, q2⟩ := hr
  obtain ⟨p, hp, p1, p2⟩ := hs
  have a1 : ar_max q.1 p.1 ≤ x := by unfold ar_max; split <;> omega
  have a2 : x ≤ ar_min q.2 p.2 := by unfold ar_min; split <;> omega
  exact ⟨_, List.mem_flatMap.mpr ⟨q, hq, List.mem_filterMap.mpr ⟨p, hp, if_pos (Int.le_trans a1 a2)⟩⟩, a1, a2⟩
/-- powers of two -/
def ar_shl (p q : Int × Int) : ar_R := if p.1 = 1 ∧ p.2 = 1 ∧ 0 ≤ q.1 ∧ q.2 ≤ 30 then [(1, ((2 ^ q.2.toNat : Nat) : Int))] else ar_t32
theorem ar_shl_n : ∀ n : Nat, n < 31 → ((1 : Int32) <<< (Int32.ofNat n &&& 31)).toInt = ((2 ^ n : Nat) : Int) := by decide +kernel
theorem ar_shl_s (x y : Int32) {p q : Int × Int} (hx : p.1 ≤ x.toInt ∧ x.toInt ≤ p.2) (hy : q.1 ≤ y.toInt ∧ y.toInt ≤ q.2) : ar_in (x <<< (y &&& 31)).toInt (ar_shl p q) := by
  unfold ar_shl
  split
  · rename_i h
    have ex : x = 1 := Int32.toInt_inj.mp (show x.toInt = (1 : Int32).toInt by show x.toInt = 1; omega)
    have ey : y = Int32.ofNat y.toInt.toNat := by
      apply Int32.toInt_inj.mp
      rw [Int32.toInt_ofNat_of_lt (by omega)]
      omega
    rw [ex, ey, ar_shl_n _ (by omega)]
    refine ⟨_, List.mem_cons_self, ?_, ?_⟩
    · have := Nat.one_le_two_pow (n := y.toInt.toNat)
      show (1 : Int) ≤ ((2 ^ y.toInt.toNat : Nat) : Int)
      omega
    · have := Nat.pow_le_pow_right (n := 2) (by decide) (show y.toInt.toNat ≤ q.2.toNat by omega)
      show ((2 ^ y.toInt.toNat : Nat) : Int) ≤ ((2 ^ q.2.toNat : Nat) : Int)
      omega
  · exact ar_in32 _
