/-! Places of the reference's rows; stretches filled and copied; sums. -/
theorem fi_bm {z : Int} (h1 : -2147483648 ≤ z) (h2 : z < 2147483648) : z.bmod (2 ^ 32) = z := by
  unfold Int.bmod
  dsimp only
  split <;> omega
theorem fi_add {x y : Int32} (h1 : -2147483648 ≤ x.toInt + y.toInt) (h2 : x.toInt + y.toInt < 2147483648) : (x + y).toInt = x.toInt + y.toInt := by
  rw [Int32.toInt_add, fi_bm h1 h2]
theorem fi_sub {x y : Int32} (h1 : -2147483648 ≤ x.toInt - y.toInt) (h2 : x.toInt - y.toInt < 2147483648) : (x - y).toInt = x.toInt - y.toInt := by
  rw [Int32.toInt_sub, fi_bm h1 h2]
theorem fi_mul {x y : Int32} (h1 : -2147483648 ≤ x.toInt * y.toInt) (h2 : x.toInt * y.toInt < 2147483648) : (x * y).toInt = x.toInt * y.toInt := by
  rw [Int32.toInt_mul, fi_bm h1 h2]
theorem fi_ge {x y : Int32} : ¬ x < y ↔ y.toInt ≤ x.toInt := by
  rw [Int32.lt_iff_toInt_lt]
  omega
theorem fi_l {x y : Int32} : x < y ↔ x.toInt < y.toInt := Int32.lt_iff_toInt_lt
theorem fi_e {x y : Int32} : x = y ↔ x.toInt = y.toInt := Int32.toInt_inj.symm
theorem fi_i0 : (0 : Int32).toInt = 0 := rfl
theorem fi_i1 : (1 : Int32).toInt = 1 := rfl
theorem fi_m1 : (-1 : Int32).toInt = -1 := rfl
theorem fi_i3 : (3 : Int32).toInt = 3 := rfl
theorem fi_i4 : (4 : Int32).toInt = 4 := rfl
theorem fi_i5 : (5 : Int32).toInt = 5 := rfl
theorem fi_i6 : (6 : Int32).toInt = 6 := rfl
theorem fi_i40 : (40 : Int32).toInt = 40 := rfl
theorem fi_i60 : (60 : Int32).toInt = 60 := rfl
/-- a row's place in the reference's one row -/
theorem fi_40 {r k : Int32} (h1 : 0 ≤ r.toInt) (h2 : r.toInt ≤ 5) (h3 : 0 ≤ k.toInt) (h4 : k.toInt ≤ 100) : (40 * r + k).toNatClampNeg = 40 * r.toNatClampNeg + k.toNatClampNeg := by
  have e1 : (40 * r).toInt = 40 * r.toInt := by
    rw [fi_mul (by rw [fi_i40]; omega) (by rw [fi_i40]; omega), fi_i40]
  rw [fi_cl, fi_add (by omega) (by omega), e1, fi_cl, fi_cl]
  omega
theorem fi_60 {r k : Int32} (h1 : 0 ≤ r.toInt) (h2 : r.toInt ≤ 3) (h3 : 0 ≤ k.toInt) (h4 : k.toInt ≤ 100) : (60 * r + k).toNatClampNeg = 60 * r.toNatClampNeg + k.toNatClampNeg := by
  have e1 : (60 * r).toInt = 60 * r.toInt := by
    rw [fi_mul (by rw [fi_i60]; omega) (by rw [fi_i60]; omega), fi_i60]
  rw [fi_cl, fi_add (by omega) (by omega), e1, fi_cl, fi_cl]
  omega
/-- a stretch filled -/
def fl_g (M : fl_M) (a lo n : Nat) (v : Int32) : fl_M := fun c j => if c = a ∧ lo ≤ j ∧ j < lo + n then v else M c j
theorem fl_g0 (M : fl_M) (a lo : Nat) (v : Int32) : fl_g M a lo 0 v = M := by
  funext c j
  unfold fl_g
  rw [if_neg (fun z => by omega)]
theorem fl_gs (M : fl_M) (a lo n : Nat) (v : Int32) : fl_u (fl_g M a lo n v) a (lo + n) v = fl_g M a lo (n + 1) v := by
  funext c j
  unfold fl_u fl_g
  by_cases h1 : c = a
  · by_cases h2 : j = lo + n
    · rw [if_pos ⟨h1, h2⟩, if_pos ⟨h1, by omega⟩]
    · rw [if_neg (fun z => h2 z.2)]
      by_cases h3 : lo ≤ j ∧ j < lo + n
      · rw [if_pos ⟨h1, h3⟩, if_pos ⟨h1, by omega⟩]
      · rw [if_neg (fun z => h3 z.2), if_neg (fun z => by omega)]
  · rw [if_neg (fun z => h1 z.1), if_neg (fun z => h1 z.1), if_neg (fun z => h1 z.1)]
/-- a stretch of one row copied within it: whatever its ends -/
def fl_k (M : fl_M) (a sp dp lo hi : Nat) : fl_M := fun c j => if c = a ∧ dp + lo ≤ j ∧ j < dp + hi then M a (sp + (j - dp)) else M c j
theorem fl_k0 (M : fl_M) (a sp dp lo : Nat) : fl_k M a sp dp lo lo = M := by
  funext c j
  unfold fl_k
  rw [if_neg (fun z => by omega)]
/-- forwards: the place read isn't written yet -/
theorem fl_kf (M : fl_M) (a sp dp m : Nat) (h : ¬ (dp ≤ sp + m ∧ sp + m < dp + m)) : fl_u (fl_k M a sp dp 0 m) a (dp + m) (fl_k M a sp dp 0 m a (sp + m)) = fl_k M a sp dp 0 (m + 1) := by
  have e : fl_k M a sp dp 0 m a (sp + m) = M a (sp + m) := by
    unfold fl_k
    rw [if_neg (fun z => h (by omega))]
  rw [e]
  funext c j
  unfold fl_u fl_k
  by_cases h1 : c = a
  · by_cases h2 : j = dp + m
    · rw [if_pos ⟨h1, h2⟩, if_pos ⟨h1, by omega⟩, h2]
      congr 1
      omega
    · rw [if_neg (fun z => h2 z.2)]
      by_cases h3 : dp + 0 ≤ j ∧ j < dp + m
      · rw [if_pos ⟨h1, h3⟩, if_pos ⟨h1, by omega⟩]
      · rw [if_neg (fun z => h3 z.2), if_neg (fun z => by omega)]
  · rw [if_neg (fun z => h1 z.1), if_neg (fun z => h1 z.1), if_neg (fun z => h1 z.1)]
/-- backwards -/
theorem fl_kb (M : fl_M) (a sp dp lo n : Nat) (hl : lo < n) (h : ¬ (dp + (lo + 1) ≤ sp + lo ∧ sp + lo < dp + n)) : fl_u (fl_k M a sp dp (lo + 1) n) a (dp + lo) (fl_k M a sp dp (lo + 1) n a (sp + lo)) = fl_k M a sp dp lo n := by
  have e : fl_k M a sp dp (lo + 1) n a (sp + lo) = M a (sp + lo) := by
    unfold fl_k
    rw [if_neg (fun z => h (by omega))]
  rw [e]
  funext c j
  unfold fl_u fl_k
  by_cases h1 : c = a
  · by_cases h2 : j = dp + lo
    · rw [if_pos ⟨h1, h2⟩, if_pos ⟨h1, by omega⟩, h2]
      congr 1
      omega
    · rw [if_neg (fun z => h2 z.2)]
      by_cases h3 : dp + (lo + 1) ≤ j ∧ j < dp + n
      · rw [if_pos ⟨h1, h3⟩, if_pos ⟨h1, by omega⟩]
      · rw [if_neg (fun z => h3 z.2), if_neg (fun z => by omega)]
  · rw [if_neg (fun z => h1 z.1), if_neg (fun z => h1 z.1), if_neg (fun z => h1 z.1)]
/-- a sum of ints as a long -/
def fl_sm (f : Nat → Int32) : Nat → Int64
  | 0 => 0
  | n + 1 => fl_sm f n + (f n).toInt64
theorem fl_sm_c {f g : Nat → Int32} {n : Nat} (h : ∀ j, j < n → f j = g j) : fl_sm f n = fl_sm g n := by
  induction n with
  | zero => rfl
  | succ n ih =>
    unfold fl_sm
    rw [ih (fun j hj => h j (Nat.lt_succ_of_lt hj)), h n (Nat.lt_succ_self n)]
theorem fi_40b {r i k : Int32} (h1 : 0 ≤ r.toInt) (h2 : r.toInt ≤ 5) (h3 : 0 ≤ i.toInt) (h4 : i.toInt ≤ 100) (h5 : 0 ≤ k.toInt) (h6 : k.toInt ≤ 100) : (40 * r + i + k).toNatClampNeg = 40 * r.toNatClampNeg + i.toNatClampNeg + k.toNatClampNeg := by
  have e1 : (40 * r).toInt = 40 * r.toInt := by
    rw [fi_mul (by rw [fi_i40]; omega) (by rw [fi_i40]; omega), fi_i40]
  have e2 : (40 * r + i).toInt = 40 * r.toInt + i.toInt := by
    rw [fi_add (by omega) (by omega), e1]
  rw [fi_cl, fi_add (by omega) (by omega), e2, fi_cl, fi_cl, fi_cl]
  omega
theorem fi_span {i n s : Int32} : s.toInt64 < i.toInt64 + n.toInt64 ↔ s.toInt < i.toInt + n.toInt := by
  have h1 := i.le_toInt
  have h2 := i.toInt_lt
  have h3 := n.le_toInt
  have h4 := n.toInt_lt
  have e : (i.toInt64 + n.toInt64).toInt = i.toInt + n.toInt := by
    rw [Int64.toInt_add, Int32.toInt_toInt64, Int32.toInt_toInt64]
    unfold Int.bmod
    dsimp only
    split <;> omega
  rw [Int64.lt_iff_toInt_lt, e, Int32.toInt_toInt64]
theorem fi_r6 {r : Int32} (h : (¬ (r < 0)) ∧ (¬ (5 < r))) : r.toNatClampNeg < 6 := by
  have h2 := fi_ge.mp h.2
  rw [fi_i5] at h2
  rw [fi_cl]
  omega
