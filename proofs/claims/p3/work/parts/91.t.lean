/-! Places of the reference's rows; stretches filled and copied; sums. -/
theorem fi_bm {z : Int} (h1 : -2147483648 ≤ z) (h2 : z < 2147483648) : z.bmod (2 ^ 32) = z := by
  unfold Int.bmod
  dsimp only
  split <;> omega
theorem fi_add {x y : Int32} (h1 : -2147483648 ≤ x.toInt + y.toInt) (h2 : x.toInt + y.toInt < 2147483648) : (x + y).toInt = x.toInt + y.toInt := by
  rw [Int32.toInt_add, fi_bm h1 h2]
theorem fi_sub {x y : Int32} (h1 : -2147483648 ≤ x.toInt - y.toInt) (h2 : x.toInt - y.toInt < 2147483648) : (x - y).toInt = x.toInt - y.toInt := by
  rw [Int32.toInt_sub, fi_bm h1 h2]
theorem fi_mul {x y : Int32} (h1 : -2147483648 ≤ x.toInt * y.toInt) (h2 : x.toInt * y.toInt < 2147483648) : (x * y).toInt = x.toInt * y.toInt := by
  rw [Int32.toInt_mul, fi_bm h1 h2]
theorem fi_ge {x y : Int32} : ¬ x < y ↔ y.toInt ≤ x.toInt := by
  rw [Int32.lt_iff_toInt_lt]
  omega
theorem fi_l {x y : Int32} : x < y ↔ x.toInt < y.toInt := Int32.lt_iff_toInt_lt
theorem fi_e {x y : Int32} : x = y ↔ x.toInt = y.toInt := Int32.toInt_inj.symm
theorem fi_i0 : (0 : Int32).toInt = 0 := rfl
theorem fi_i1 : (1 : Int32).toInt = 1 := rfl
theorem fi_m1 : (-1 : Int32).toInt = -1 := rfl
theorem fi_i3 : (3 : Int32).toInt = 3 := rfl
theorem fi_i4 : (4 : Int32).toInt = 4 := rfl
theorem fi_i5 : (5 : Int32).toInt = 5 := rfl
theorem fi_i6 : (6 : Int32).toInt = 6 := rfl
theorem fi_i40 : (40 : Int32).toInt = 40 := rfl
theorem fi_i60 : (60 : Int32).toInt = 60 := rfl
/-- a row's place in the reference's one row -/
theorem fi_40 {r k : Int32} (h1 : 0 ≤ r.toInt) (h2 : r.toInt ≤ 5) (h3 : 0 ≤ k.toInt) (h4 : k.toInt ≤ 100) : (40 * r + k).toNatClampNeg = 40 * r.toNatClampNeg + k.toNatClampNeg := by
  have e1 : (40 * r).toInt = 40 * r.toInt := by
    rw [fi_mul (by rw [fi_i40]; omega) (by rw [fi_i40]; omega), fi_i40]
  rw [fi_cl, fi_add (by omega) (by omega), e1, fi_cl, fi_cl]
  omega
theorem fi_60 {r k : Int32} (h1 : 0 ≤ r.toInt) (h2 : r.toInt ≤ 3) (h3 : 0 ≤ k.toInt) (h4 : k.toInt ≤ 100) : (60 * r + k).toNatClampNeg = 60 * r.toNatClampNeg + k.toNatClampNeg := by
  have e1 : (60 * r).toInt = 60 * r.toInt := by
    rw [fi_mul (by rw [fi_i60]; omega) (by rw [fi_i60]; omega), fi_i60]
  rw [fi_cl, fi_add (by omega) (by omega), e1, fi_cl, fi_cl]
  omega
/-- a stretch filled -/
def fl_g (M : fl_M) (a lo n : Nat) (v : Int32) : fl_M := fun c j => if c = a ∧ lo ≤ j ∧ j < lo + n then v else M c j
theorem fl_g0 (M : fl_M) (a lo : Nat) (v : Int32) : fl_g M a lo 0 v = M := by
  funext c j
  unfold fl_g
  rw [if_neg (fun z => by omega)]
theorem fl_gs (M : fl_M) (a lo n : Nat) (v : Int32) : fl_u (fl_g M a lo n v) a (lo + n) v = fl_g M a lo (n + 1) v := by
  funext c j
  unfold fl_u fl_g
  by_cases h1 : c = a
  · by_cases h2 : j = lo + n
    · rw [if_pos ⟨h1, h2⟩, if_pos ⟨h1, by omega⟩]
    · rw [if_neg (fun z => h2 z.2)]
      by_cases h3 : lo ≤ j ∧ j < lo + n
      · rw [if_pos ⟨h1, h3⟩, if_pos ⟨h1, by omega⟩]
      · rw [if_neg (fun z => h3 z.2), if_neg (fun z => by omega)]
  · rw [if_neg (fun z => h1 z.1), if_neg (fun z => h1 z.1), if_neg (fun z => h1 z.1)]
/-- a stretch of one row copied within it: whatever its ends -/
def fl_k (M : fl_M) (a sp dp lo hi : Nat) : fl_M := fun c j => if c = a ∧ dp + lo ≤ j ∧ j < dp + hi then M a (sp + (j - dp)) else M c j
theorem fl_k0 (M : fl_M) (a sp dp lo : Nat) : fl_k M a sp dp lo lo = M := by
  funext c j
  unfold fl_k
  rw [if_neg (fun z => by omega)]
/-- forwards: the place read isn't written yet -/
theorem fl_kf (M : fl_M) (a sp dp m : Nat) (h : ¬ (dp ≤ sp + m ∧ sp + m < dp + m)) : fl_u (fl_k M a sp dp 0 m) a (dp + m) (fl_k M a sp dp 0 m a (sp + m)) = fl_k M a sp dp 0 (m + 1) := by
  have e : fl_k M a sp dp 0 m a (sp + m) = M a (sp + m) := by
    unfold fl_k
    rw [if_neg (fun z => h (by omega))]
  rw [e]
  funext c j
  unfold fl_u fl_k
  by_cases h1 : c = a
  · by_cases h2 : j = dp + m
    · rw [if_pos ⟨h1, h2⟩, if_pos ⟨h1, by omega⟩, h2]
      congr 1
      omega
    · rw [if_neg (fun z => h2 z.2)]
      by_cases h3 : dp + 0 ≤ j ∧ j < dp + m
      · rw [if_pos ⟨h1, h3⟩, if_pos ⟨h1, by omega⟩]
      · rw [if_neg (fun z => h3 z.2), if_neg (fun z => by omega)]
  · rw [if_neg (fun z => h1 z.1), if_neg (fun z => h1 z.1), if_neg (fun z => h1 z.1)]
/-- backwards -/
theorem fl_kb (M : fl_M) (a sp dp lo n : Nat) (hl : lo < n) (h : ¬ (dp + (lo + 1) ≤ sp + lo ∧ sp + lo < dp + n)) : fl_u (fl_k M a sp dp (lo + 1) n) a (dp + lo) (fl_k M a sp dp (lo + 1) n a (sp + lo)) = fl_k M a sp dp lo n := by
  have e : fl_k M a sp dp (lo + 1) n a (sp + lo) = M a (sp + lo) := by
    unfold fl_k
    rw [if_neg (fun z => h (by omega))]
  rw [e]
  funext c j
  unfold fl_u fl_k
  by_cases h1 : c = a
  · by_cases h2 : j = dp + lo
    · rw [if_pos ⟨h1, h2⟩, if_pos ⟨h1, by omega⟩, h2]
      congr 1
      omega
    · rw [if_neg (fun z => h2 z.2)]
      by_cases h3 : dp + (lo + 1) ≤ j ∧ j < dp + n
      · rw [if_pos ⟨h1, h3⟩, if_pos ⟨h1, by omega⟩]
      · rw [if_neg (fun z => h3 z.2), if_neg (fun z => by omega)]
  · rw [if_neg (fun z => h1 z.1), if_neg (fun z => h1 z.1), if_neg (fun z => h1 z.1)]
/-- a sum of ints as a long -/
def fl_sm (f : Nat → Int32) : Nat → Int64
  | 0 => 0
  | n + 1 => fl_sm f n + (f n).toInt64
theorem fl_sm_c {f g : Nat → Int32} {n : Nat} (h : ∀ j, j < n → f j = g j) : fl_sm f n = fl_sm g n := by
  induction n with
  | zero => rfl
  | succ n ih =>
    unfold fl_sm
    rw [ih (fun j hj => h j (Nat.lt_succ_of_lt hj)), h n (Nat.lt_succ_self n)]
theorem fi_40b {r i k : Int32} (h1 : 0 ≤ r.toInt) (h2 : r.toInt ≤ 5) (h3 : 0 ≤ i.toInt) (h4 : i.toInt ≤ 100) (h5 : 0 ≤ k.toInt) (h6 : k.toInt ≤ 100) : (40 * r + i + k).toNatClampNeg = 40 * r.toNatClampNeg + i.toNatClampNeg + k.toNatClampNeg := by
  have e1 : (40 * r).toInt = 40 * r.toInt := by
    rw [fi_mul (by rw [fi_i40]; omega) (by rw [fi_i40]; omega), fi_i40]
  have e2 : (40 * r + i).toInt = 40 * r.toInt + i.toInt := by
    rw [fi_add (by omega) (by omega), e1]
  rw [fi_cl, fi_add (by omega) (by omega), e2, fi_cl, fi_cl, fi_cl]
  omega
theorem fi_span {i n s : Int32} : s.toInt64 < i.toInt64 + n.toInt64 ↔ s.toInt < i.toInt + n.toInt := by
  have h1 := i.le_toInt
  have h2 := i.toInt_lt
  have h3 := n.le_toInt
  have h4 := n.toInt_lt
  have e : (i.toInt64 + n.toInt64).toInt = i.toInt + n.toInt := by
    rw [Int64.toInt_add, Int32.toInt_toInt64, Int32.toInt_toInt64]
    unfold Int.bmod
    dsimp only
    split <;> omega
  rw [Int64.lt_iff_toInt_lt, e, Int32.toInt_toInt64]
theorem fi_r6 {r : Int32} (h : (¬ (r < 0)) ∧ (¬ (5 < r))) : r.toNatClampNeg < 6 := by
  have h2 := fi_ge.mp h.2
  rw [fi_i5] at h2
  rw [fi_cl]
  omega
def fB1 : sm_P := (fun pc => sm_ch sm_t1 pc, sm_Kn 2 1 none, fun x => sm_lk sm_ca2 x, some .boolean)
theorem cc_1 (M : fl_M) (J : fl_J) (r : Int32) : fl_C 1 [.int r] M J (some (.int (if (r < 0) ∨ (¬ (r < 6)) then 1 else 0)), M, J) :=
 fl_Co (B := fB1) rfl rfl <|
 fl_td (s' := (1, [.int r], [.int r], M, J)) (fl_n 1 rfl) <|
 fl_dtwo (fl_if (t := 10) rfl rfl) fl_cT (fun h1 =>
  fl_td (s' := (15, [.int r], [.int 1], M, J)) (fl_n 2 rfl) <|
  fl_rt rfl (fun _ => rfl) (by simp [h1])) (fun h1 =>
  fl_td (s' := (7, [.int r], [.int 6, .int r], M, J)) (fl_n 2 rfl) <|
  fl_dtwo (fl_ic (t := 14) rfl rfl) fl_cT (fun h2 =>
   fl_td (s' := (15, [.int r], [.int 0], M, J)) (fl_n 1 rfl) <|
   fl_rt rfl (fun _ => rfl) (by simp [h1, h2])) (fun h2 =>
   fl_td (s' := (15, [.int r], [.int 1], M, J)) (fl_n 2 rfl) <|
   fl_rt rfl (fun _ => rfl) (by simp [h1, h2])))
def fB12 : sm_P := (fun pc => sm_ch sm_t12 pc, sm_Kn 2 1 none, fun x => sm_lk sm_ca2 x, some .boolean)
theorem cc_12 (M : fl_M) (J : fl_J) (t : Int32) : fl_C 12 [.int t] M J (some (.int (if (t < 0) ∨ (¬ (t < 4)) then 1 else 0)), M, J) :=
 fl_Co (B := fB12) rfl rfl <|
 fl_td (s' := (1, [.int t], [.int t], M, J)) (fl_n 1 rfl) <|
 fl_dtwo (fl_if (t := 9) rfl rfl) fl_cT (fun h1 =>
  fl_td (s' := (14, [.int t], [.int 1], M, J)) (fl_n 2 rfl) <|
  fl_rt rfl (fun _ => rfl) (by simp [h1])) (fun h1 =>
  fl_td (s' := (6, [.int t], [.int 4, .int t], M, J)) (fl_n 2 rfl) <|
  fl_dtwo (fl_ic (t := 13) rfl rfl) fl_cT (fun h2 =>
   fl_td (s' := (14, [.int t], [.int 0], M, J)) (fl_n 1 rfl) <|
   fl_rt rfl (fun _ => rfl) (by simp [h1, h2])) (fun h2 =>
   fl_td (s' := (14, [.int t], [.int 1], M, J)) (fl_n 2 rfl) <|
   fl_rt rfl (fun _ => rfl) (by simp [h1, h2])))
def fB5 : sm_P := (fun pc => sm_ch sm_t5 pc, sm_Kn 2 2 none, fun x => sm_lk sm_ca2 x, some .int)
theorem cc_5 (M : fl_M) (J : fl_J) (v : Int32) : fl_C 5 [.ref 0, .int v] M J (some (.int 1), (fl_u M 0 12 v), J) :=
 fl_Co (B := fB5) rfl rfl <|
 fl_td (s' := (6, [.ref 0, .int v], [.int 1], (fl_u M 0 12 v), J)) (fl_n 4 rfl) <|
 fl_rt rfl (fun _ => rfl) (rfl)
def fB2 : sm_P := (fun pc => sm_ch sm_t2 pc, sm_Kn 2 2 none, fun x => sm_lk sm_ca2 x, some .int)
theorem cc_2 (M : fl_M) (J : fl_J) (v : Int32) : fl_C 2 [.ref 0, .int v] M J (some (.int (-3)), (fl_u (fl_u M 0 11 v) 80 v.toNatClampNeg ((M 80 v.toNatClampNeg) + 1)), J) :=
 fl_Co (B := fB2) rfl rfl <|
 fl_td (s' := (17, [.ref 0, .int v], [.int (-3)], (fl_u (fl_u M 0 11 v) 80 v.toNatClampNeg ((M 80 v.toNatClampNeg) + 1)), J)) (fl_n 12 rfl) <|
 fl_rt rfl (fun _ => rfl) (rfl)
def fB9 : sm_P := (fun pc => sm_ch sm_t9 pc, sm_Kn 2 3 none, fun x => sm_lk sm_ca2 x, some .boolean)
theorem cc_9 (M : fl_M) (J : fl_J) (i n v : Int32) : fl_C 9 [.int i, .int n, .int v] M J (some (.int (if (i < 0) ∨ ((v - n) < i) then 1 else 0)), M, J) :=
 fl_Co (B := fB9) rfl rfl <|
 fl_td (s' := (1, [.int i, .int n, .int v], [.int i], M, J)) (fl_n 1 rfl) <|
 fl_dtwo (fl_if (t := 11) rfl rfl) fl_cT (fun h1 =>
  fl_td (s' := (16, [.int i, .int n, .int v], [.int 1], M, J)) (fl_n 2 rfl) <|
  fl_rt rfl (fun _ => rfl) (by simp [h1])) (fun h1 =>
  fl_td (s' := (8, [.int i, .int n, .int v], [.int (v - n), .int i], M, J)) (fl_n 4 rfl) <|
  fl_dnot (fl_ic (t := 15) rfl rfl) fl_nle (fun h2 =>
   fl_td (s' := (16, [.int i, .int n, .int v], [.int 1], M, J)) (fl_n 2 rfl) <|
   fl_rt rfl (fun _ => rfl) (by simp [h1, h2])) (fun h2 =>
   fl_td (s' := (16, [.int i, .int n, .int v], [.int 0], M, J)) (fl_n 1 rfl) <|
   fl_rt rfl (fun _ => rfl) (by simp [h1, h2])))
def fB4 : sm_P := (fun pc => sm_ch sm_t4 pc, sm_Kn 2 3 none, fun x => sm_lk sm_ca2 x, some .int)
theorem cc_4 (M : fl_M) (J : fl_J) (r i : Int32) : fl_C 4 [.ref 0, .int r, .int i] M J (some (.int (if (r < 0) ∨ (¬ (r < 6)) then (-1) else (if (M 1 r.toNatClampNeg) = (-1) then (-3) else (if i < 0 then (-3) else (if i < (M 1 r.toNatClampNeg) then 0 else (-3)))))), (if (r < 0) ∨ (¬ (r < 6)) then M else (if (M 1 r.toNatClampNeg) = (-1) then (fl_u (fl_u M 0 11 1) 80 1 ((M 80 1) + 1)) else (if i < 0 then (fl_u (fl_u M 0 11 2) 80 2 ((M 80 2) + 1)) else (if i < (M 1 r.toNatClampNeg) then M else (fl_u (fl_u M 0 11 2) 80 2 ((M 80 2) + 1)))))), J) :=
 fl_Co (B := fB4) rfl rfl <|
 fl_td (s' := (1, [.ref 0, .int r, .int i], [.int r], M, J)) (fl_n 1 rfl) <|
 fl_td (s' := (4, [.ref 0, .int r, .int i], [.int (if (r < 0) ∨ (¬ (r < 6)) then 1 else 0)], M, J)) (fl_cs (o := some (.int (if (r < 0) ∨ (¬ (r < 6)) then 1 else 0))) rfl rfl rfl (cc_1 M J r) rfl) <|
 fl_dnot (fl_if (t := 9) rfl rfl) fl_b0 (fun h1 =>
  fl_td (s' := (8, [.ref 0, .int r, .int i], [.int (-1)], M, J)) (fl_n 1 rfl) <|
  fl_rt rfl (fun _ => rfl) (by first | (simp only [if_pos h1]; done) | rfl)) (fun h1 =>
  fl_td (s' := (16, [.ref 0, .int r, .int i], [.int (-1), .int (M 1 r.toNatClampNeg)], M, J)) (fl_n 5 rfl) <|
  fl_dnot (fl_ic (t := 25) rfl rfl) fl_cF (fun h2 =>
   fl_td (s' := (21, [.ref 0, .int r, .int i], [.int 1, .ref 0], M, J)) (fl_n 2 rfl) <|
   fl_td (s' := (24, [.ref 0, .int r, .int i], [.int (-3)], (fl_u (fl_u M 0 11 1) 80 1 ((M 80 1) + 1)), J)) (fl_cv (o := some (.int (-3))) rfl rfl rfl rfl (cc_2 M J 1) rfl) <|
   fl_rt rfl (fun _ => rfl) (by first | (simp only [if_neg h1, if_pos h2]; done) | rfl)) (fun h2 =>
   fl_td (s' := (26, [.ref 0, .int r, .int i], [.int i], M, J)) (fl_n 1 rfl) <|
   fl_dtwo (fl_if (t := 39) rfl rfl) fl_cT (fun h3 =>
    fl_td (s' := (41, [.ref 0, .int r, .int i], [.int 2, .ref 0], M, J)) (fl_n 2 rfl) <|
    fl_td (s' := (44, [.ref 0, .int r, .int i], [.int (-3)], (fl_u (fl_u M 0 11 2) 80 2 ((M 80 2) + 1)), J)) (fl_cv (o := some (.int (-3))) rfl rfl rfl rfl (cc_2 M J 2) rfl) <|
    fl_rt rfl (fun _ => rfl) (by first | (simp only [if_neg h1, if_neg h2, if_pos h3]; done) | rfl)) (fun h3 =>
    fl_td (s' := (36, [.ref 0, .int r, .int i], [.int (M 1 r.toNatClampNeg), .int i], M, J)) (fl_n 5 rfl) <|
    fl_dtwo (fl_ic (t := 45) rfl rfl) fl_cT (fun h4 =>
     fl_td (s' := (46, [.ref 0, .int r, .int i], [.int 0], M, J)) (fl_n 1 rfl) <|
     fl_rt rfl (fun _ => rfl) (by first | (simp only [if_neg h1, if_neg h2, if_neg h3, if_pos h4]; done) | rfl)) (fun h4 =>
     fl_td (s' := (41, [.ref 0, .int r, .int i], [.int 2, .ref 0], M, J)) (fl_n 2 rfl) <|
     fl_td (s' := (44, [.ref 0, .int r, .int i], [.int (-3)], (fl_u (fl_u M 0 11 2) 80 2 ((M 80 2) + 1)), J)) (fl_cv (o := some (.int (-3))) rfl rfl rfl rfl (cc_2 M J 2) rfl) <|
     fl_rt rfl (fun _ => rfl) (by first | (simp only [if_neg h1, if_neg h2, if_neg h3, if_neg h4]; done) | rfl)))))
def fB3 : sm_P := (fun pc => sm_ch sm_t3 pc, sm_Kn 2 6 none, fun x => sm_lk sm_ca2 x, some .int)
theorem cc_3 (M : fl_M) (J : fl_J) (r i v : Int32) : fl_C 3 [.ref 0, .int r, .int i, .int v] M J (some (.int (if (r < 0) ∨ (¬ (r < 6)) then (-1) else (if (M 1 r.toNatClampNeg) = (-1) then (-3) else (if i < 0 then (-3) else (if i < (M 1 r.toNatClampNeg) then 1 else (-3)))))), (if (r < 0) ∨ (¬ (r < 6)) then M else (if (M 1 r.toNatClampNeg) = (-1) then (fl_u (fl_u M 0 11 1) 80 1 ((M 80 1) + 1)) else (if i < 0 then (fl_u (fl_u M 0 11 2) 80 2 ((M 80 2) + 1)) else (if i < (M 1 r.toNatClampNeg) then (fl_u (fl_u M (fl_ar 2 r.toNatClampNeg) i.toNatClampNeg v) 0 12 (M (fl_ar 2 r.toNatClampNeg) i.toNatClampNeg)) else (fl_u (fl_u M 0 11 2) 80 2 ((M 80 2) + 1)))))), J) :=
 fl_Co (B := fB3) rfl rfl <|
 fl_td (s' := (3, [.ref 0, .int r, .int i, .int v, .null, .null], [.int i, .int r, .ref 0], M, J)) (fl_n 3 rfl) <|
 fl_dc (c := (r < 0) ∨ (¬ (r < 6))) (fun h1 =>
  fl_td (s' := (6, [.ref 0, .int r, .int i, .int v, .null, .null], [.int (-1)], M, J)) (fl_cv (o := some (.int (-1))) rfl rfl rfl rfl (fl_Ce (cc_4 M J r i) (by simp only [if_pos h1])) rfl) <|
  fl_td (s' := (15, [.ref 0, .int r, .int i, .int v, .int (-1), .null], [.int (-1)], M, J)) (fl_n 4 rfl) <|
  fl_rt rfl (fun _ => rfl) (by first | (simp only [if_pos h1]; done) | rfl)) (fun h1 =>
  fl_dc (c := (M 1 r.toNatClampNeg) = (-1)) (fun h2 =>
   fl_td (s' := (6, [.ref 0, .int r, .int i, .int v, .null, .null], [.int (-3)], (fl_u (fl_u M 0 11 1) 80 1 ((M 80 1) + 1)), J)) (fl_cv (o := some (.int (-3))) rfl rfl rfl rfl (fl_Ce (cc_4 M J r i) (by simp only [if_neg h1, if_pos h2])) rfl) <|
   fl_td (s' := (15, [.ref 0, .int r, .int i, .int v, .int (-3), .null], [.int (-3)], (fl_u (fl_u M 0 11 1) 80 1 ((M 80 1) + 1)), J)) (fl_n 4 rfl) <|
   fl_rt rfl (fun _ => rfl) (by first | (simp only [if_neg h1, if_pos h2]; done) | rfl)) (fun h2 =>
   fl_dc (c := i < 0) (fun h3 =>
    fl_td (s' := (6, [.ref 0, .int r, .int i, .int v, .null, .null], [.int (-3)], (fl_u (fl_u M 0 11 2) 80 2 ((M 80 2) + 1)), J)) (fl_cv (o := some (.int (-3))) rfl rfl rfl rfl (fl_Ce (cc_4 M J r i) (by simp only [if_neg h1, if_neg h2, if_pos h3])) rfl) <|
    fl_td (s' := (15, [.ref 0, .int r, .int i, .int v, .int (-3), .null], [.int (-3)], (fl_u (fl_u M 0 11 2) 80 2 ((M 80 2) + 1)), J)) (fl_n 4 rfl) <|
    fl_rt rfl (fun _ => rfl) (by first | (simp only [if_neg h1, if_neg h2, if_pos h3]; done) | rfl)) (fun h3 =>
    fl_dc (c := i < (M 1 r.toNatClampNeg)) (fun h4 =>
     fl_td (s' := (6, [.ref 0, .int r, .int i, .int v, .null, .null], [.int 0], M, J)) (fl_cv (o := some (.int 0)) rfl rfl rfl rfl (fl_Ce (cc_4 M J r i) (by simp only [if_neg h1, if_neg h2, if_neg h3, if_pos h4])) rfl) <|
     fl_td (s' := (38, [.ref 0, .int r, .int i, .int v, .int 0, .int (M (fl_ar 2 r.toNatClampNeg) i.toNatClampNeg)], [.int (M (fl_ar 2 r.toNatClampNeg) i.toNatClampNeg), .ref 0], (fl_u M (fl_ar 2 r.toNatClampNeg) i.toNatClampNeg v), J)) (fl_n 19 rfl) <|
     fl_td (s' := (41, [.ref 0, .int r, .int i, .int v, .int 0, .int (M (fl_ar 2 r.toNatClampNeg) i.toNatClampNeg)], [.int 1], (fl_u (fl_u M (fl_ar 2 r.toNatClampNeg) i.toNatClampNeg v) 0 12 (M (fl_ar 2 r.toNatClampNeg) i.toNatClampNeg)), J)) (fl_cv (o := some (.int 1)) rfl rfl rfl rfl (cc_5 (fl_u M (fl_ar 2 r.toNatClampNeg) i.toNatClampNeg v) J (M (fl_ar 2 r.toNatClampNeg) i.toNatClampNeg)) rfl) <|
     fl_rt rfl (fun _ => rfl) (by first | (simp only [if_neg h1, if_neg h2, if_neg h3, if_pos h4]; done) | rfl)) (fun h4 =>
     fl_td (s' := (6, [.ref 0, .int r, .int i, .int v, .null, .null], [.int (-3)], (fl_u (fl_u M 0 11 2) 80 2 ((M 80 2) + 1)), J)) (fl_cv (o := some (.int (-3))) rfl rfl rfl rfl (fl_Ce (cc_4 M J r i) (by simp only [if_neg h1, if_neg h2, if_neg h3, if_neg h4])) rfl) <|
     fl_td (s' := (15, [.ref 0, .int r, .int i, .int v, .int (-3), .null], [.int (-3)], (fl_u (fl_u M 0 11 2) 80 2 ((M 80 2) + 1)), J)) (fl_n 4 rfl) <|
     fl_rt rfl (fun _ => rfl) (by first | (simp only [if_neg h1, if_neg h2, if_neg h3, if_neg h4]; done) | rfl)))))
def fB6 : sm_P := (fun pc => sm_ch sm_t6 pc, sm_Kn 2 4 none, fun x => sm_lk sm_ca2 x, some .int)
theorem cc_6 (M : fl_M) (J : fl_J) (r i : Int32) : fl_C 6 [.ref 0, .int r, .int i] M J (some (.int (if (r < 0) ∨ (¬ (r < 6)) then (-1) else (if (M 1 r.toNatClampNeg) = (-1) then (-3) else (if i < 0 then (-3) else (if i < (M 1 r.toNatClampNeg) then 1 else (-3)))))), (if (r < 0) ∨ (¬ (r < 6)) then M else (if (M 1 r.toNatClampNeg) = (-1) then (fl_u (fl_u M 0 11 1) 80 1 ((M 80 1) + 1)) else (if i < 0 then (fl_u (fl_u M 0 11 2) 80 2 ((M 80 2) + 1)) else (if i < (M 1 r.toNatClampNeg) then (fl_u M 0 12 (M (fl_ar 2 r.toNatClampNeg) i.toNatClampNeg)) else (fl_u (fl_u M 0 11 2) 80 2 ((M 80 2) + 1)))))), J) :=
 fl_Co (B := fB6) rfl rfl <|
 fl_td (s' := (3, [.ref 0, .int r, .int i, .null], [.int i, .int r, .ref 0], M, J)) (fl_n 3 rfl) <|
 fl_dc (c := (r < 0) ∨ (¬ (r < 6))) (fun h1 =>
  fl_td (s' := (6, [.ref 0, .int r, .int i, .null], [.int (-1)], M, J)) (fl_cv (o := some (.int (-1))) rfl rfl rfl rfl (fl_Ce (cc_4 M J r i) (by simp only [if_pos h1])) rfl) <|
  fl_td (s' := (12, [.ref 0, .int r, .int i, .int (-1)], [.int (-1)], M, J)) (fl_n 4 rfl) <|
  fl_rt rfl (fun _ => rfl) (by first | (simp only [if_pos h1]; done) | rfl)) (fun h1 =>
  fl_dc (c := (M 1 r.toNatClampNeg) = (-1)) (fun h2 =>
   fl_td (s' := (6, [.ref 0, .int r, .int i, .null], [.int (-3)], (fl_u (fl_u M 0 11 1) 80 1 ((M 80 1) + 1)), J)) (fl_cv (o := some (.int (-3))) rfl rfl rfl rfl (fl_Ce (cc_4 M J r i) (by simp only [if_neg h1, if_pos h2])) rfl) <|
   fl_td (s' := (12, [.ref 0, .int r, .int i, .int (-3)], [.int (-3)], (fl_u (fl_u M 0 11 1) 80 1 ((M 80 1) + 1)), J)) (fl_n 4 rfl) <|
   fl_rt rfl (fun _ => rfl) (by first | (simp only [if_neg h1, if_pos h2]; done) | rfl)) (fun h2 =>
   fl_dc (c := i < 0) (fun h3 =>
    fl_td (s' := (6, [.ref 0, .int r, .int i, .null], [.int (-3)], (fl_u (fl_u M 0 11 2) 80 2 ((M 80 2) + 1)), J)) (fl_cv (o := some (.int (-3))) rfl rfl rfl rfl (fl_Ce (cc_4 M J r i) (by simp only [if_neg h1, if_neg h2, if_pos h3])) rfl) <|
    fl_td (s' := (12, [.ref 0, .int r, .int i, .int (-3)], [.int (-3)], (fl_u (fl_u M 0 11 2) 80 2 ((M 80 2) + 1)), J)) (fl_n 4 rfl) <|
    fl_rt rfl (fun _ => rfl) (by first | (simp only [if_neg h1, if_neg h2, if_pos h3]; done) | rfl)) (fun h3 =>
    fl_dc (c := i < (M 1 r.toNatClampNeg)) (fun h4 =>
     fl_td (s' := (6, [.ref 0, .int r, .int i, .null], [.int 0], M, J)) (fl_cv (o := some (.int 0)) rfl rfl rfl rfl (fl_Ce (cc_4 M J r i) (by simp only [if_neg h1, if_neg h2, if_neg h3, if_pos h4])) rfl) <|
     fl_td (s' := (22, [.ref 0, .int r, .int i, .int 0], [.int (M (fl_ar 2 r.toNatClampNeg) i.toNatClampNeg), .ref 0], M, J)) (fl_n 10 rfl) <|
     fl_td (s' := (25, [.ref 0, .int r, .int i, .int 0], [.int 1], (fl_u M 0 12 (M (fl_ar 2 r.toNatClampNeg) i.toNatClampNeg)), J)) (fl_cv (o := some (.int 1)) rfl rfl rfl rfl (cc_5 M J (M (fl_ar 2 r.toNatClampNeg) i.toNatClampNeg)) rfl) <|
     fl_rt rfl (fun _ => rfl) (by first | (simp only [if_neg h1, if_neg h2, if_neg h3, if_pos h4]; done) | rfl)) (fun h4 =>
     fl_td (s' := (6, [.ref 0, .int r, .int i, .null], [.int (-3)], (fl_u (fl_u M 0 11 2) 80 2 ((M 80 2) + 1)), J)) (fl_cv (o := some (.int (-3))) rfl rfl rfl rfl (fl_Ce (cc_4 M J r i) (by simp only [if_neg h1, if_neg h2, if_neg h3, if_neg h4])) rfl) <|
     fl_td (s' := (12, [.ref 0, .int r, .int i, .int (-3)], [.int (-3)], (fl_u (fl_u M 0 11 2) 80 2 ((M 80 2) + 1)), J)) (fl_n 4 rfl) <|
     fl_rt rfl (fun _ => rfl) (by first | (simp only [if_neg h1, if_neg h2, if_neg h3, if_neg h4]; done) | rfl)))))
def fB7 : sm_P := (fun pc => sm_ch sm_t7 pc, sm_Kn 2 2 none, fun x => sm_lk sm_ca2 x, some .int)
theorem cc_7 (M : fl_M) (J : fl_J) (r : Int32) : fl_C 7 [.ref 0, .int r] M J (some (.int (if (r < 0) ∨ (¬ (r < 6)) then (-1) else (if (M 1 r.toNatClampNeg) = (-1) then (-3) else 1))), (if (r < 0) ∨ (¬ (r < 6)) then M else (if (M 1 r.toNatClampNeg) = (-1) then (fl_u (fl_u M 0 11 1) 80 1 ((M 80 1) + 1)) else (fl_u M 1 r.toNatClampNeg (-1)))), J) :=
 fl_Co (B := fB7) rfl rfl <|
 fl_td (s' := (1, [.ref 0, .int r], [.int r], M, J)) (fl_n 1 rfl) <|
 fl_td (s' := (4, [.ref 0, .int r], [.int (if (r < 0) ∨ (¬ (r < 6)) then 1 else 0)], M, J)) (fl_cs (o := some (.int (if (r < 0) ∨ (¬ (r < 6)) then 1 else 0))) rfl rfl rfl (cc_1 M J r) rfl) <|
 fl_dnot (fl_if (t := 9) rfl rfl) fl_b0 (fun h1 =>
  fl_td (s' := (8, [.ref 0, .int r], [.int (-1)], M, J)) (fl_n 1 rfl) <|
  fl_rt rfl (fun _ => rfl) (by first | (simp only [if_pos h1]; done) | rfl)) (fun h1 =>
  fl_td (s' := (16, [.ref 0, .int r], [.int (-1), .int (M 1 r.toNatClampNeg)], M, J)) (fl_n 5 rfl) <|
  fl_dnot (fl_ic (t := 25) rfl rfl) fl_cF (fun h2 =>
   fl_td (s' := (21, [.ref 0, .int r], [.int 1, .ref 0], M, J)) (fl_n 2 rfl) <|
   fl_td (s' := (24, [.ref 0, .int r], [.int (-3)], (fl_u (fl_u M 0 11 1) 80 1 ((M 80 1) + 1)), J)) (fl_cv (o := some (.int (-3))) rfl rfl rfl rfl (cc_2 M J 1) rfl) <|
   fl_rt rfl (fun _ => rfl) (by first | (simp only [if_neg h1, if_pos h2]; done) | rfl)) (fun h2 =>
   fl_td (s' := (33, [.ref 0, .int r], [.int 1], (fl_u M 1 r.toNatClampNeg (-1)), J)) (fl_n 6 rfl) <|
   fl_rt rfl (fun _ => rfl) (by first | (simp only [if_neg h1, if_neg h2]; done) | rfl)))
def fB13 : sm_P := (fun pc => sm_ch sm_t13 pc, sm_Kn 2 5 none, fun x => sm_lk sm_ca2 x, some .int)
theorem cc_13 (M : fl_M) (J : fl_J) (t i v : Int32) : fl_C 13 [.ref 0, .int t, .int i, .int v] M J (some (.int (if (t < 0) ∨ (¬ (t < 4)) then (-1) else (if (M 9 t.toNatClampNeg) = (-1) then (-3) else (if i < 0 then (-3) else (if i < (M 9 t.toNatClampNeg) then (M (fl_ar 10 t.toNatClampNeg) i.toNatClampNeg) + 1000 else (-3)))))), (if (t < 0) ∨ (¬ (t < 4)) then M else (if (M 9 t.toNatClampNeg) = (-1) then (fl_u (fl_u M 0 11 1) 80 1 ((M 80 1) + 1)) else (if i < 0 then (fl_u (fl_u M 0 11 2) 80 2 ((M 80 2) + 1)) else (if i < (M 9 t.toNatClampNeg) then (fl_u M (fl_ar 10 t.toNatClampNeg) i.toNatClampNeg (vp_nar .byte v.toInt8.toInt32)) else (fl_u (fl_u M 0 11 2) 80 2 ((M 80 2) + 1)))))), J) :=
 fl_Co (B := fB13) rfl rfl <|
 fl_td (s' := (1, [.ref 0, .int t, .int i, .int v, .null], [.int t], M, J)) (fl_n 1 rfl) <|
 fl_td (s' := (4, [.ref 0, .int t, .int i, .int v, .null], [.int (if (t < 0) ∨ (¬ (t < 4)) then 1 else 0)], M, J)) (fl_cs (o := some (.int (if (t < 0) ∨ (¬ (t < 4)) then 1 else 0))) rfl rfl rfl (cc_12 M J t) rfl) <|
 fl_dnot (fl_if (t := 9) rfl rfl) fl_b0 (fun h1 =>
  fl_td (s' := (8, [.ref 0, .int t, .int i, .int v, .null], [.int (-1)], M, J)) (fl_n 1 rfl) <|
  fl_rt rfl (fun _ => rfl) (by first | (simp only [if_pos h1]; done) | rfl)) (fun h1 =>
  fl_td (s' := (16, [.ref 0, .int t, .int i, .int v, .null], [.int (-1), .int (M 9 t.toNatClampNeg)], M, J)) (fl_n 5 rfl) <|
  fl_dnot (fl_ic (t := 25) rfl rfl) fl_cF (fun h2 =>
   fl_td (s' := (21, [.ref 0, .int t, .int i, .int v, .null], [.int 1, .ref 0], M, J)) (fl_n 2 rfl) <|
   fl_td (s' := (24, [.ref 0, .int t, .int i, .int v, .null], [.int (-3)], (fl_u (fl_u M 0 11 1) 80 1 ((M 80 1) + 1)), J)) (fl_cv (o := some (.int (-3))) rfl rfl rfl rfl (cc_2 M J 1) rfl) <|
   fl_rt rfl (fun _ => rfl) (by first | (simp only [if_neg h1, if_pos h2]; done) | rfl)) (fun h2 =>
   fl_td (s' := (26, [.ref 0, .int t, .int i, .int v, .null], [.int i], M, J)) (fl_n 1 rfl) <|
   fl_dtwo (fl_if (t := 39) rfl rfl) fl_cT (fun h3 =>
    fl_td (s' := (41, [.ref 0, .int t, .int i, .int v, .null], [.int 2, .ref 0], M, J)) (fl_n 2 rfl) <|
    fl_td (s' := (44, [.ref 0, .int t, .int i, .int v, .null], [.int (-3)], (fl_u (fl_u M 0 11 2) 80 2 ((M 80 2) + 1)), J)) (fl_cv (o := some (.int (-3))) rfl rfl rfl rfl (cc_2 M J 2) rfl) <|
    fl_rt rfl (fun _ => rfl) (by first | (simp only [if_neg h1, if_neg h2, if_pos h3]; done) | rfl)) (fun h3 =>
    fl_td (s' := (36, [.ref 0, .int t, .int i, .int v, .null], [.int (M 9 t.toNatClampNeg), .int i], M, J)) (fl_n 5 rfl) <|
    fl_dtwo (fl_ic (t := 45) rfl rfl) fl_cT (fun h4 =>
     fl_td (s' := (71, [.ref 0, .int t, .int i, .int v, .int (M (fl_ar 10 t.toNatClampNeg) i.toNatClampNeg)], [.int ((M (fl_ar 10 t.toNatClampNeg) i.toNatClampNeg) + 1000)], (fl_u M (fl_ar 10 t.toNatClampNeg) i.toNatClampNeg (vp_nar .byte v.toInt8.toInt32)), J)) (fl_n 18 rfl) <|
     fl_rt rfl (fun _ => rfl) (by first | (simp only [if_neg h1, if_neg h2, if_neg h3, if_pos h4]; done) | rfl)) (fun h4 =>
     fl_td (s' := (41, [.ref 0, .int t, .int i, .int v, .null], [.int 2, .ref 0], M, J)) (fl_n 2 rfl) <|
     fl_td (s' := (44, [.ref 0, .int t, .int i, .int v, .null], [.int (-3)], (fl_u (fl_u M 0 11 2) 80 2 ((M 80 2) + 1)), J)) (fl_cv (o := some (.int (-3))) rfl rfl rfl rfl (cc_2 M J 2) rfl) <|
     fl_rt rfl (fun _ => rfl) (by first | (simp only [if_neg h1, if_neg h2, if_neg h3, if_neg h4]; done) | rfl)))))
def fB11 : sm_P := (fun pc => sm_ch sm_t11 pc, sm_Kn 2 4 none, fun x => sm_lk sm_ca2 x, some .int)
theorem sg_11 (M : fl_M) (J : fl_J) (t n i : Int32) : fl_go fB11 (27, [.ref 0, .int t, .int n, .int i], [], M, J) (if i < n then (27, [.ref 0, .int t, .int n, .int (i + 1)], [], (fl_u M (fl_ar 10 t.toNatClampNeg) i.toNatClampNeg (vp_nar .byte 32)), J) else (56, [.ref 0, .int t, .int n, .int i], [.int n], (fl_u M 9 t.toNatClampNeg n), J)) :=
 fl_tr (s' := (29, [.ref 0, .int t, .int n, .int i], [.int n, .int i], M, J)) (fl_n 2 rfl) <|
 fl_not (fl_ic (t := 48) rfl rfl) fl_nlt (fun h1 =>
  fl_tr (s' := (27, [.ref 0, .int t, .int n, .int (i + 1)], [], (fl_u M (fl_ar 10 t.toNatClampNeg) i.toNatClampNeg (vp_nar .byte 32)), J)) (fl_n 9 rfl) <|
  fl_rfl) (fun h1 =>
  fl_tr (s' := (56, [.ref 0, .int t, .int n, .int i], [.int n], (fl_u M 9 t.toNatClampNeg n), J)) (fl_n 6 rfl) <|
  fl_rfl)
theorem lp_11 (M : fl_M) (J : fl_J) (t n : Int32) : fl_dn fB11 (27, [.ref 0, .int t, .int n, .int 0], [], M, J) (some (.int n), fl_u (fl_f M (fl_ar 10 t.toNatClampNeg) n.toNatClampNeg 32) 9 t.toNatClampNeg n, J) := by
  have hb := fi_bd n
  refine fl_itd (S := fun m => (27, [.ref 0, .int t, .int n, .int (Int32.ofNat m)], [], fl_f M (fl_ar 10 t.toNatClampNeg) m 32, J)) n.toNatClampNeg (fun m hm => ?_) ?_ ?_
  · refine fl_ge (sg_11 _ J t n (Int32.ofNat m)) ?_
    rw [if_pos ((fi_lt (by omega)).mpr hm), fi_at (by omega), fi_s, show vp_nar .byte 32 = 32 from rfl, fl_fs]
  · rw [fl_f0]
    rfl
  · refine fl_td (sg_11 _ J t n _) ?_
    rw [if_neg (fun z => absurd ((fi_lt (by omega)).mp z) (by omega))]
    exact fl_rt rfl (fun _ => rfl) rfl
theorem cc_11 (M : fl_M) (J : fl_J) (t n : Int32) : fl_C 11 [.ref 0, .int t, .int n] M J (some (.int (if (t < 0) ∨ (¬ (t < 4)) then (-1) else (if 60 < n then (-1) else (if n < 0 then (-3) else n)))), (if (t < 0) ∨ (¬ (t < 4)) then M else (if 60 < n then M else (if n < 0 then (fl_u (fl_u M 0 11 5) 80 5 ((M 80 5) + 1)) else (fl_u (fl_f M (fl_ar 10 t.toNatClampNeg) n.toNatClampNeg 32) 9 t.toNatClampNeg n)))), J) :=
 fl_Co (B := fB11) rfl rfl <|
 fl_td (s' := (1, [.ref 0, .int t, .int n, .null], [.int t], M, J)) (fl_n 1 rfl) <|
 fl_td (s' := (4, [.ref 0, .int t, .int n, .null], [.int (if (t < 0) ∨ (¬ (t < 4)) then 1 else 0)], M, J)) (fl_cs (o := some (.int (if (t < 0) ∨ (¬ (t < 4)) then 1 else 0))) rfl rfl rfl (cc_12 M J t) rfl) <|
 fl_dtwo (fl_if (t := 13) rfl rfl) fl_b1 (fun h1 =>
  fl_td (s' := (14, [.ref 0, .int t, .int n, .null], [.int (-1)], M, J)) (fl_n 1 rfl) <|
  fl_rt rfl (fun _ => rfl) (by first | (simp only [if_pos h1]; done) | rfl)) (fun h1 =>
  fl_td (s' := (10, [.ref 0, .int t, .int n, .null], [.int 60, .int n], M, J)) (fl_n 2 rfl) <|
  fl_dnot (fl_ic (t := 15) rfl rfl) fl_nle (fun h2 =>
   fl_td (s' := (14, [.ref 0, .int t, .int n, .null], [.int (-1)], M, J)) (fl_n 1 rfl) <|
   fl_rt rfl (fun _ => rfl) (by first | (simp only [if_neg h1, if_pos h2]; done) | rfl)) (fun h2 =>
   fl_td (s' := (16, [.ref 0, .int t, .int n, .null], [.int n], M, J)) (fl_n 1 rfl) <|
   fl_dnot (fl_if (t := 25) rfl rfl) fl_nlt (fun h3 =>
    fl_td (s' := (21, [.ref 0, .int t, .int n, .null], [.int 5, .ref 0], M, J)) (fl_n 2 rfl) <|
    fl_td (s' := (24, [.ref 0, .int t, .int n, .null], [.int (-3)], (fl_u (fl_u M 0 11 5) 80 5 ((M 80 5) + 1)), J)) (fl_cv (o := some (.int (-3))) rfl rfl rfl rfl (cc_2 M J 5) rfl) <|
    fl_rt rfl (fun _ => rfl) (by first | (simp only [if_neg h1, if_neg h2, if_pos h3]; done) | rfl)) (fun h3 =>
    fl_td (s' := (27, [.ref 0, .int t, .int n, .int 0], [], M, J)) (fl_n 2 rfl) <|
    fl_de (lp_11 M J t n) (by first | (simp only [if_neg h1, if_neg h2, if_neg h3]; done) | rfl))))
def fB105 : sm_P := (fun pc => sm_ch sm_t105 pc, sm_Kn 3 6 none, fun x => sm_lk sm_ca3 x, some .boolean)
theorem cc_105 (M : fl_M) (J : fl_J) (x a b : Int64) : fl_C 105 [.long x, .long a, .long b] M J (some (.int (if (¬ (x < a)) ∧ (¬ (b < x)) then 1 else 0)), M, J) :=
 fl_Co (B := fB105) rfl rfl <|
 fl_td (s' := (3, [.long x, .null, .long a, .null, .long b, .null], [.int (lg_cmp x a)], M, J)) (fl_n 3 rfl) <|
 fl_dtwo (fl_if (t := 17) rfl rfl) fl_llt (fun h1 =>
  fl_td (s' := (18, [.long x, .null, .long a, .null, .long b, .null], [.int 0], M, J)) (fl_n 1 rfl) <|
  fl_rt rfl (fun _ => rfl) (by simp [h1])) (fun h1 =>
  fl_td (s' := (10, [.long x, .null, .long a, .null, .long b, .null], [.int (lg_cmp x b)], M, J)) (fl_n 3 rfl) <|
  fl_dtwo (fl_if (t := 17) rfl rfl) fl_lgt (fun h2 =>
   fl_td (s' := (18, [.long x, .null, .long a, .null, .long b, .null], [.int 0], M, J)) (fl_n 1 rfl) <|
   fl_rt rfl (fun _ => rfl) (by simp [h1, h2])) (fun h2 =>
   fl_td (s' := (18, [.long x, .null, .long a, .null, .long b, .null], [.int 1], M, J)) (fl_n 2 rfl) <|
   fl_rt rfl (fun _ => rfl) (by simp [h1, h2])))
theorem cc_105i (M : fl_M) (J : fl_J) (x a b : Int32) : fl_C 105 [.long x.toInt64, .long a.toInt64, .long b.toInt64] M J (some (.int (if (¬ (x < a)) ∧ (¬ (b < x)) then 1 else 0)), M, J) := by
  have h := cc_105 M J x.toInt64 a.toInt64 b.toInt64
  simp only [fl_64lt] at h
  exact h
def fB104 : sm_P := (fun pc => sm_ch sm_t104 pc, sm_Kn 3 1 none, fun x => sm_lk sm_ca3 x, some .boolean)
theorem cc_104 (M : fl_M) (J : fl_J) (r : Int32) : fl_C 104 [.int r] M J (some (.int (if (¬ (r < 0)) ∧ (¬ (5 < r)) then 1 else 0)), M, J) :=
 fl_Co (B := fB104) rfl rfl <|
 fl_td (s' := (6, [.int r], [.long 5, .long 0, .long r.toInt64], M, J)) (fl_n 4 rfl) <|
 fl_td (s' := (9, [.int r], [.int (if (¬ (r < 0)) ∧ (¬ (5 < r)) then 1 else 0)], M, J)) (fl_cs (o := some (.int (if (¬ (r < 0)) ∧ (¬ (5 < r)) then 1 else 0))) rfl rfl rfl (cc_105i M J r 0 5) rfl) <|
 fl_rt rfl (fun _ => rfl) (rfl)
def fB117 : sm_P := (fun pc => sm_ch sm_t117 pc, sm_Kn 3 1 none, fun x => sm_lk sm_ca3 x, some .boolean)
theorem cc_117 (M : fl_M) (J : fl_J) (t : Int32) : fl_C 117 [.int t] M J (some (.int (if (¬ (t < 0)) ∧ (¬ (3 < t)) then 1 else 0)), M, J) :=
 fl_Co (B := fB117) rfl rfl <|
 fl_td (s' := (6, [.int t], [.long 3, .long 0, .long t.toInt64], M, J)) (fl_n 4 rfl) <|
 fl_td (s' := (9, [.int t], [.int (if (¬ (t < 0)) ∧ (¬ (3 < t)) then 1 else 0)], M, J)) (fl_cs (o := some (.int (if (¬ (t < 0)) ∧ (¬ (3 < t)) then 1 else 0))) rfl rfl rfl (cc_105i M J t 0 3) rfl) <|
 fl_rt rfl (fun _ => rfl) (rfl)
def fB110 : sm_P := (fun pc => sm_ch sm_t110 pc, sm_Kn 3 2 none, fun x => sm_lk sm_ca3 x, some .int)
theorem cc_110 (M : fl_M) (J : fl_J) (v : Int32) : fl_C 110 [.ref 81, .int v] M J (some (.int 1), (fl_u M 81 11 v), J) :=
 fl_Co (B := fB110) rfl rfl <|
 fl_td (s' := (6, [.ref 81, .int v], [.int 1], (fl_u M 81 11 v), J)) (fl_n 4 rfl) <|
 fl_rt rfl (fun _ => rfl) (rfl)
def fB106 : sm_P := (fun pc => sm_ch sm_t106 pc, sm_Kn 3 2 none, fun x => sm_lk sm_ca3 x, some .int)
theorem cc_106 (M : fl_M) (J : fl_J) (v : Int32) : fl_C 106 [.ref 81, .int v] M J (some (.int (-3)), (fl_u (fl_u M 81 14 v) 91 v.toNatClampNeg ((M 91 v.toNatClampNeg) + 1)), J) :=
 fl_Co (B := fB106) rfl rfl <|
 fl_td (s' := (17, [.ref 81, .int v], [.int (-3)], (fl_u (fl_u M 81 14 v) 91 v.toNatClampNeg ((M 91 v.toNatClampNeg) + 1)), J)) (fl_n 12 rfl) <|
 fl_rt rfl (fun _ => rfl) (rfl)
def fB109 : sm_P := (fun pc => sm_ch sm_t109 pc, sm_Kn 3 3 none, fun x => sm_lk sm_ca3 x, some .int)
theorem cc_109 (M : fl_M) (J : fl_J) (r i : Int32) : fl_C 109 [.ref 81, .int r, .int i] M J (some (.int (if (¬ (r < 0)) ∧ (¬ (5 < r)) then (if (M 87 r.toNatClampNeg) < 0 then (-3) else (if (¬ (i < 0)) ∧ (¬ ((M 87 r.toNatClampNeg) - 1 < i)) then 0 else (-3))) else (-1))), (if (¬ (r < 0)) ∧ (¬ (5 < r)) then (if (M 87 r.toNatClampNeg) < 0 then (fl_u (fl_u M 81 14 1) 91 1 ((M 91 1) + 1)) else (if (¬ (i < 0)) ∧ (¬ ((M 87 r.toNatClampNeg) - 1 < i)) then M else (fl_u (fl_u M 81 14 2) 91 2 ((M 91 2) + 1)))) else M), J) :=
 fl_Co (B := fB109) rfl rfl <|
 fl_td (s' := (1, [.ref 81, .int r, .int i], [.int r], M, J)) (fl_n 1 rfl) <|
 fl_td (s' := (4, [.ref 81, .int r, .int i], [.int (if (¬ (r < 0)) ∧ (¬ (5 < r)) then 1 else 0)], M, J)) (fl_cs (o := some (.int (if (¬ (r < 0)) ∧ (¬ (5 < r)) then 1 else 0))) rfl rfl rfl (cc_104 M J r) rfl) <|
 fl_dtwo (fl_if (t := 11) rfl rfl) fl_b1 (fun h1 =>
  fl_td (s' := (17, [.ref 81, .int r, .int i], [.int (M 87 r.toNatClampNeg)], M, J)) (fl_n 4 rfl) <|
  fl_dnot (fl_if (t := 28) rfl rfl) fl_nlt (fun h2 =>
   fl_td (s' := (22, [.ref 81, .int r, .int i], [.int 1, .ref 81], M, J)) (fl_n 2 rfl) <|
   fl_td (s' := (25, [.ref 81, .int r, .int i], [.int (-3)], (fl_u (fl_u M 81 14 1) 91 1 ((M 91 1) + 1)), J)) (fl_cv (o := some (.int (-3))) rfl rfl rfl rfl (cc_106 M J 1) rfl) <|
   fl_td (s' := (55, [.ref 81, .int r, .int i], [.int (-3)], (fl_u (fl_u M 81 14 1) 91 1 ((M 91 1) + 1)), J)) (fl_n 1 rfl) <|
   fl_rt rfl (fun _ => rfl) (by first | (simp only [if_pos h1, if_pos h2]; done) | rfl)) (fun h2 =>
   fl_td (s' := (40, [.ref 81, .int r, .int i], [.long (((M 87 r.toNatClampNeg) - 1).toInt64), .long 0, .long i.toInt64], M, J)) (fl_n 10 rfl) <|
   fl_td (s' := (43, [.ref 81, .int r, .int i], [.int (if (¬ (i < 0)) ∧ (¬ ((M 87 r.toNatClampNeg) - 1 < i)) then 1 else 0)], M, J)) (fl_cs (o := some (.int (if (¬ (i < 0)) ∧ (¬ ((M 87 r.toNatClampNeg) - 1 < i)) then 1 else 0))) rfl rfl rfl (cc_105i M J i 0 ((M 87 r.toNatClampNeg) - 1)) rfl) <|
   fl_dnot (fl_if (t := 50) rfl rfl) fl_b0 (fun h3 =>
    fl_td (s' := (55, [.ref 81, .int r, .int i], [.int 0], M, J)) (fl_n 2 rfl) <|
    fl_rt rfl (fun _ => rfl) (by first | (simp only [if_pos h1, if_neg h2, if_pos h3]; done) | rfl)) (fun h3 =>
    fl_td (s' := (52, [.ref 81, .int r, .int i], [.int 2, .ref 81], M, J)) (fl_n 2 rfl) <|
    fl_td (s' := (55, [.ref 81, .int r, .int i], [.int (-3)], (fl_u (fl_u M 81 14 2) 91 2 ((M 91 2) + 1)), J)) (fl_cv (o := some (.int (-3))) rfl rfl rfl rfl (cc_106 M J 2) rfl) <|
    fl_rt rfl (fun _ => rfl) (by first | (simp only [if_pos h1, if_neg h2, if_neg h3]; done) | rfl)))) (fun h1 =>
  fl_td (s' := (55, [.ref 81, .int r, .int i], [.int (-1)], M, J)) (fl_n 2 rfl) <|
  fl_rt rfl (fun _ => rfl) (by first | (simp only [if_neg h1]; done) | rfl))
def fB108 : sm_P := (fun pc => sm_ch sm_t108 pc, sm_Kn 3 6 none, fun x => sm_lk sm_ca3 x, some .int)
theorem cc_108 (M : fl_M) (J : fl_J) (r i v : Int32) : fl_C 108 [.ref 81, .int r, .int i, .int v] M J (some (.int (if (¬ (r < 0)) ∧ (¬ (5 < r)) then (if (M 87 r.toNatClampNeg) < 0 then (-3) else (if (¬ (i < 0)) ∧ (¬ ((M 87 r.toNatClampNeg) - 1 < i)) then 1 else (-3))) else (-1))), (if (¬ (r < 0)) ∧ (¬ (5 < r)) then (if (M 87 r.toNatClampNeg) < 0 then (fl_u (fl_u M 81 14 1) 91 1 ((M 91 1) + 1)) else (if (¬ (i < 0)) ∧ (¬ ((M 87 r.toNatClampNeg) - 1 < i)) then (fl_u (fl_u M 88 (((40 * r) + i).toNatClampNeg) v) 81 11 (M 88 (((40 * r) + i).toNatClampNeg))) else (fl_u (fl_u M 81 14 2) 91 2 ((M 91 2) + 1)))) else M), J) :=
 fl_Co (B := fB108) rfl rfl <|
 fl_td (s' := (3, [.ref 81, .int r, .int i, .int v, .null, .null], [.int i, .int r, .ref 81], M, J)) (fl_n 3 rfl) <|
 fl_dc (c := (¬ (r < 0)) ∧ (¬ (5 < r))) (fun h1 =>
  fl_dc (c := (M 87 r.toNatClampNeg) < 0) (fun h2 =>
   fl_td (s' := (6, [.ref 81, .int r, .int i, .int v, .null, .null], [.int (-3)], (fl_u (fl_u M 81 14 1) 91 1 ((M 91 1) + 1)), J)) (fl_cv (o := some (.int (-3))) rfl rfl rfl rfl (fl_Ce (cc_109 M J r i) (by simp only [if_pos h1, if_pos h2])) rfl) <|
   fl_td (s' := (15, [.ref 81, .int r, .int i, .int v, .int (-3), .null], [.int (-3)], (fl_u (fl_u M 81 14 1) 91 1 ((M 91 1) + 1)), J)) (fl_n 4 rfl) <|
   fl_rt rfl (fun _ => rfl) (by first | (simp only [if_pos h1, if_pos h2]; done) | rfl)) (fun h2 =>
   fl_dc (c := (¬ (i < 0)) ∧ (¬ ((M 87 r.toNatClampNeg) - 1 < i))) (fun h3 =>
    fl_td (s' := (6, [.ref 81, .int r, .int i, .int v, .null, .null], [.int 0], M, J)) (fl_cv (o := some (.int 0)) rfl rfl rfl rfl (fl_Ce (cc_109 M J r i) (by simp only [if_pos h1, if_neg h2, if_pos h3])) rfl) <|
    fl_td (s' := (44, [.ref 81, .int r, .int i, .int v, .int 0, .int (M 88 (((40 * r) + i).toNatClampNeg))], [.int (M 88 (((40 * r) + i).toNatClampNeg)), .ref 81], (fl_u M 88 (((40 * r) + i).toNatClampNeg) v), J)) (fl_n 23 rfl) <|
    fl_td (s' := (47, [.ref 81, .int r, .int i, .int v, .int 0, .int (M 88 (((40 * r) + i).toNatClampNeg))], [.int 1], (fl_u (fl_u M 88 (((40 * r) + i).toNatClampNeg) v) 81 11 (M 88 (((40 * r) + i).toNatClampNeg))), J)) (fl_cv (o := some (.int 1)) rfl rfl rfl rfl (cc_110 (fl_u M 88 (((40 * r) + i).toNatClampNeg) v) J (M 88 (((40 * r) + i).toNatClampNeg))) rfl) <|
    fl_rt rfl (fun _ => rfl) (by first | (simp only [if_pos h1, if_neg h2, if_pos h3]; done) | rfl)) (fun h3 =>
    fl_td (s' := (6, [.ref 81, .int r, .int i, .int v, .null, .null], [.int (-3)], (fl_u (fl_u M 81 14 2) 91 2 ((M 91 2) + 1)), J)) (fl_cv (o := some (.int (-3))) rfl rfl rfl rfl (fl_Ce (cc_109 M J r i) (by simp only [if_pos h1, if_neg h2, if_neg h3])) rfl) <|
    fl_td (s' := (15, [.ref 81, .int r, .int i, .int v, .int (-3), .null], [.int (-3)], (fl_u (fl_u M 81 14 2) 91 2 ((M 91 2) + 1)), J)) (fl_n 4 rfl) <|
    fl_rt rfl (fun _ => rfl) (by first | (simp only [if_pos h1, if_neg h2, if_neg h3]; done) | rfl)))) (fun h1 =>
  fl_td (s' := (6, [.ref 81, .int r, .int i, .int v, .null, .null], [.int (-1)], M, J)) (fl_cv (o := some (.int (-1))) rfl rfl rfl rfl (fl_Ce (cc_109 M J r i) (by simp only [if_neg h1])) rfl) <|
  fl_td (s' := (15, [.ref 81, .int r, .int i, .int v, .int (-1), .null], [.int (-1)], M, J)) (fl_n 4 rfl) <|
  fl_rt rfl (fun _ => rfl) (by first | (simp only [if_neg h1]; done) | rfl))
def fB111 : sm_P := (fun pc => sm_ch sm_t111 pc, sm_Kn 3 4 none, fun x => sm_lk sm_ca3 x, some .int)
theorem cc_111 (M : fl_M) (J : fl_J) (r i : Int32) : fl_C 111 [.ref 81, .int r, .int i] M J (some (.int (if (¬ (r < 0)) ∧ (¬ (5 < r)) then (if (M 87 r.toNatClampNeg) < 0 then (-3) else (if (¬ (i < 0)) ∧ (¬ ((M 87 r.toNatClampNeg) - 1 < i)) then 1 else (-3))) else (-1))), (if (¬ (r < 0)) ∧ (¬ (5 < r)) then (if (M 87 r.toNatClampNeg) < 0 then (fl_u (fl_u M 81 14 1) 91 1 ((M 91 1) + 1)) else (if (¬ (i < 0)) ∧ (¬ ((M 87 r.toNatClampNeg) - 1 < i)) then (fl_u M 81 11 (M 88 (((40 * r) + i).toNatClampNeg))) else (fl_u (fl_u M 81 14 2) 91 2 ((M 91 2) + 1)))) else M), J) :=
 fl_Co (B := fB111) rfl rfl <|
 fl_td (s' := (3, [.ref 81, .int r, .int i, .null], [.int i, .int r, .ref 81], M, J)) (fl_n 3 rfl) <|
 fl_dc (c := (¬ (r < 0)) ∧ (¬ (5 < r))) (fun h1 =>
  fl_dc (c := (M 87 r.toNatClampNeg) < 0) (fun h2 =>
   fl_td (s' := (6, [.ref 81, .int r, .int i, .null], [.int (-3)], (fl_u (fl_u M 81 14 1) 91 1 ((M 91 1) + 1)), J)) (fl_cv (o := some (.int (-3))) rfl rfl rfl rfl (fl_Ce (cc_109 M J r i) (by simp only [if_pos h1, if_pos h2])) rfl) <|
   fl_td (s' := (30, [.ref 81, .int r, .int i, .int (-3)], [.int (-3)], (fl_u (fl_u M 81 14 1) 91 1 ((M 91 1) + 1)), J)) (fl_n 5 rfl) <|
   fl_rt rfl (fun _ => rfl) (by first | (simp only [if_pos h1, if_pos h2]; done) | rfl)) (fun h2 =>
   fl_dc (c := (¬ (i < 0)) ∧ (¬ ((M 87 r.toNatClampNeg) - 1 < i))) (fun h3 =>
    fl_td (s' := (6, [.ref 81, .int r, .int i, .null], [.int 0], M, J)) (fl_cv (o := some (.int 0)) rfl rfl rfl rfl (fl_Ce (cc_109 M J r i) (by simp only [if_pos h1, if_neg h2, if_pos h3])) rfl) <|
    fl_td (s' := (27, [.ref 81, .int r, .int i, .int 0], [.int (M 88 (((40 * r) + i).toNatClampNeg)), .ref 81], M, J)) (fl_n 12 rfl) <|
    fl_td (s' := (30, [.ref 81, .int r, .int i, .int 0], [.int 1], (fl_u M 81 11 (M 88 (((40 * r) + i).toNatClampNeg))), J)) (fl_cv (o := some (.int 1)) rfl rfl rfl rfl (cc_110 M J (M 88 (((40 * r) + i).toNatClampNeg))) rfl) <|
    fl_rt rfl (fun _ => rfl) (by first | (simp only [if_pos h1, if_neg h2, if_pos h3]; done) | rfl)) (fun h3 =>
    fl_td (s' := (6, [.ref 81, .int r, .int i, .null], [.int (-3)], (fl_u (fl_u M 81 14 2) 91 2 ((M 91 2) + 1)), J)) (fl_cv (o := some (.int (-3))) rfl rfl rfl rfl (fl_Ce (cc_109 M J r i) (by simp only [if_pos h1, if_neg h2, if_neg h3])) rfl) <|
    fl_td (s' := (30, [.ref 81, .int r, .int i, .int (-3)], [.int (-3)], (fl_u (fl_u M 81 14 2) 91 2 ((M 91 2) + 1)), J)) (fl_n 5 rfl) <|
    fl_rt rfl (fun _ => rfl) (by first | (simp only [if_pos h1, if_neg h2, if_neg h3]; done) | rfl)))) (fun h1 =>
  fl_td (s' := (6, [.ref 81, .int r, .int i, .null], [.int (-1)], M, J)) (fl_cv (o := some (.int (-1))) rfl rfl rfl rfl (fl_Ce (cc_109 M J r i) (by simp only [if_neg h1])) rfl) <|
  fl_td (s' := (30, [.ref 81, .int r, .int i, .int (-1)], [.int (-1)], M, J)) (fl_n 5 rfl) <|
  fl_rt rfl (fun _ => rfl) (by first | (simp only [if_neg h1]; done) | rfl))
def fB112 : sm_P := (fun pc => sm_ch sm_t112 pc, sm_Kn 3 2 none, fun x => sm_lk sm_ca3 x, some .int)
theorem cc_112 (M : fl_M) (J : fl_J) (r : Int32) : fl_C 112 [.ref 81, .int r] M J (some (.int (if (¬ (r < 0)) ∧ (¬ (5 < r)) then (if (M 87 r.toNatClampNeg) < 0 then (-3) else 1) else (-1))), (if (¬ (r < 0)) ∧ (¬ (5 < r)) then (if (M 87 r.toNatClampNeg) < 0 then (fl_u (fl_u M 81 14 1) 91 1 ((M 91 1) + 1)) else (fl_u M 87 r.toNatClampNeg (-1))) else M), J) :=
 fl_Co (B := fB112) rfl rfl <|
 fl_td (s' := (1, [.ref 81, .int r], [.int r], M, J)) (fl_n 1 rfl) <|
 fl_td (s' := (4, [.ref 81, .int r], [.int (if (¬ (r < 0)) ∧ (¬ (5 < r)) then 1 else 0)], M, J)) (fl_cs (o := some (.int (if (¬ (r < 0)) ∧ (¬ (5 < r)) then 1 else 0))) rfl rfl rfl (cc_104 M J r) rfl) <|
 fl_dtwo (fl_if (t := 9) rfl rfl) fl_b1 (fun h1 =>
  fl_td (s' := (15, [.ref 81, .int r], [.int (M 87 r.toNatClampNeg)], M, J)) (fl_n 4 rfl) <|
  fl_dnot (fl_if (t := 24) rfl rfl) fl_nlt (fun h2 =>
   fl_td (s' := (20, [.ref 81, .int r], [.int 1, .ref 81], M, J)) (fl_n 2 rfl) <|
   fl_td (s' := (23, [.ref 81, .int r], [.int (-3)], (fl_u (fl_u M 81 14 1) 91 1 ((M 91 1) + 1)), J)) (fl_cv (o := some (.int (-3))) rfl rfl rfl rfl (cc_106 M J 1) rfl) <|
   fl_rt rfl (fun _ => rfl) (by first | (simp only [if_pos h1, if_pos h2]; done) | rfl)) (fun h2 =>
   fl_td (s' := (32, [.ref 81, .int r], [.int 1], (fl_u M 87 r.toNatClampNeg (-1)), J)) (fl_n 6 rfl) <|
   fl_rt rfl (fun _ => rfl) (by first | (simp only [if_pos h1, if_neg h2]; done) | rfl))) (fun h1 =>
  fl_td (s' := (8, [.ref 81, .int r], [.int (-1)], M, J)) (fl_n 1 rfl) <|
  fl_rt rfl (fun _ => rfl) (by first | (simp only [if_neg h1]; done) | rfl))
def fB118 : sm_P := (fun pc => sm_ch sm_t118 pc, sm_Kn 3 5 none, fun x => sm_lk sm_ca3 x, some .int)
theorem cc_118 (M : fl_M) (J : fl_J) (t i v : Int32) : fl_C 118 [.ref 81, .int t, .int i, .int v] M J (some (.int (if (¬ (t < 0)) ∧ (¬ (3 < t)) then (if (M 89 t.toNatClampNeg) < 0 then (-3) else (if (¬ (i < 0)) ∧ (¬ ((M 89 t.toNatClampNeg) - 1 < i)) then (M 90 (((60 * t) + i).toNatClampNeg)) + 1000 else (-3))) else (-1))), (if (¬ (t < 0)) ∧ (¬ (3 < t)) then (if (M 89 t.toNatClampNeg) < 0 then (fl_u (fl_u M 81 14 1) 91 1 ((M 91 1) + 1)) else (if (¬ (i < 0)) ∧ (¬ ((M 89 t.toNatClampNeg) - 1 < i)) then (fl_u M 90 (((60 * t) + i).toNatClampNeg) v.toInt8.toInt32) else (fl_u (fl_u M 81 14 2) 91 2 ((M 91 2) + 1)))) else M), J) :=
 fl_Co (B := fB118) rfl rfl <|
 fl_td (s' := (1, [.ref 81, .int t, .int i, .int v, .null], [.int t], M, J)) (fl_n 1 rfl) <|
 fl_td (s' := (4, [.ref 81, .int t, .int i, .int v, .null], [.int (if (¬ (t < 0)) ∧ (¬ (3 < t)) then 1 else 0)], M, J)) (fl_cs (o := some (.int (if (¬ (t < 0)) ∧ (¬ (3 < t)) then 1 else 0))) rfl rfl rfl (cc_117 M J t) rfl) <|
 fl_dtwo (fl_if (t := 9) rfl rfl) fl_b1 (fun h1 =>
  fl_td (s' := (15, [.ref 81, .int t, .int i, .int v, .null], [.int (M 89 t.toNatClampNeg)], M, J)) (fl_n 4 rfl) <|
  fl_dnot (fl_if (t := 24) rfl rfl) fl_nlt (fun h2 =>
   fl_td (s' := (20, [.ref 81, .int t, .int i, .int v, .null], [.int 1, .ref 81], M, J)) (fl_n 2 rfl) <|
   fl_td (s' := (23, [.ref 81, .int t, .int i, .int v, .null], [.int (-3)], (fl_u (fl_u M 81 14 1) 91 1 ((M 91 1) + 1)), J)) (fl_cv (o := some (.int (-3))) rfl rfl rfl rfl (cc_106 M J 1) rfl) <|
   fl_rt rfl (fun _ => rfl) (by first | (simp only [if_pos h1, if_pos h2]; done) | rfl)) (fun h2 =>
   fl_td (s' := (36, [.ref 81, .int t, .int i, .int v, .null], [.long (((M 89 t.toNatClampNeg) - 1).toInt64), .long 0, .long i.toInt64], M, J)) (fl_n 10 rfl) <|
   fl_td (s' := (39, [.ref 81, .int t, .int i, .int v, .null], [.int (if (¬ (i < 0)) ∧ (¬ ((M 89 t.toNatClampNeg) - 1 < i)) then 1 else 0)], M, J)) (fl_cs (o := some (.int (if (¬ (i < 0)) ∧ (¬ ((M 89 t.toNatClampNeg) - 1 < i)) then 1 else 0))) rfl rfl rfl (cc_105i M J i 0 ((M 89 t.toNatClampNeg) - 1)) rfl) <|
   fl_dtwo (fl_if (t := 48) rfl rfl) fl_b1 (fun h3 =>
    fl_td (s' := (80, [.ref 81, .int t, .int i, .int v, .int (M 90 (((60 * t) + i).toNatClampNeg))], [.int ((M 90 (((60 * t) + i).toNatClampNeg)) + 1000)], (fl_u M 90 (((60 * t) + i).toNatClampNeg) v.toInt8.toInt32), J)) (fl_n 22 rfl) <|
    fl_rt rfl (fun _ => rfl) (by first | (simp only [if_pos h1, if_neg h2, if_pos h3]; done) | rfl)) (fun h3 =>
    fl_td (s' := (44, [.ref 81, .int t, .int i, .int v, .null], [.int 2, .ref 81], M, J)) (fl_n 2 rfl) <|
    fl_td (s' := (47, [.ref 81, .int t, .int i, .int v, .null], [.int (-3)], (fl_u (fl_u M 81 14 2) 91 2 ((M 91 2) + 1)), J)) (fl_cv (o := some (.int (-3))) rfl rfl rfl rfl (cc_106 M J 2) rfl) <|
    fl_rt rfl (fun _ => rfl) (by first | (simp only [if_pos h1, if_neg h2, if_neg h3]; done) | rfl)))) (fun h1 =>
  fl_td (s' := (8, [.ref 81, .int t, .int i, .int v, .null], [.int (-1)], M, J)) (fl_n 1 rfl) <|
  fl_rt rfl (fun _ => rfl) (by first | (simp only [if_neg h1]; done) | rfl))
def fB0 : sm_P := (fun pc => sm_ch sm_t0 pc, sm_Kn 2 4 none, fun x => sm_lk sm_ca2 x, some .int)
theorem sg_0 (M : fl_M) (J : fl_J) (r n i : Int32) : fl_go fB0 (27, [.ref 0, .int r, .int n, .int i], [], M, J) (if i < n then (27, [.ref 0, .int r, .int n, .int (i + 1)], [], (fl_u M (fl_ar 2 r.toNatClampNeg) i.toNatClampNeg 0), J) else (55, [.ref 0, .int r, .int n, .int i], [.int n], (fl_u M 1 r.toNatClampNeg n), J)) :=
 fl_tr (s' := (29, [.ref 0, .int r, .int n, .int i], [.int n, .int i], M, J)) (fl_n 2 rfl) <|
 fl_not (fl_ic (t := 47) rfl rfl) fl_nlt (fun h1 =>
  fl_tr (s' := (27, [.ref 0, .int r, .int n, .int (i + 1)], [], (fl_u M (fl_ar 2 r.toNatClampNeg) i.toNatClampNeg 0), J)) (fl_n 9 rfl) <|
  fl_rfl) (fun h1 =>
  fl_tr (s' := (55, [.ref 0, .int r, .int n, .int i], [.int n], (fl_u M 1 r.toNatClampNeg n), J)) (fl_n 6 rfl) <|
  fl_rfl)
theorem lp_0 (M : fl_M) (J : fl_J) (r n : Int32) : fl_dn fB0 (27, [.ref 0, .int r, .int n, .int 0], [], M, J) (some (.int n), fl_u (fl_f M (fl_ar 2 r.toNatClampNeg) n.toNatClampNeg 0) 1 r.toNatClampNeg n, J) := by
  have hb := fi_bd n
  refine fl_itd (S := fun m => (27, [.ref 0, .int r, .int n, .int (Int32.ofNat m)], [], fl_f M (fl_ar 2 r.toNatClampNeg) m 0, J)) n.toNatClampNeg (fun m hm => ?_) ?_ ?_
  · refine fl_ge (sg_0 _ J r n (Int32.ofNat m)) ?_
    rw [if_pos ((fi_lt (by omega)).mpr hm), fi_at (by omega), fi_s, fl_fs]
  · rw [fl_f0]
    rfl
  · refine fl_td (sg_0 _ J r n _) ?_
    rw [if_neg (fun z => absurd ((fi_lt (by omega)).mp z) (by omega))]
    exact fl_rt rfl (fun _ => rfl) rfl
theorem cc_0 (M : fl_M) (J : fl_J) (r n : Int32) : fl_C 0 [.ref 0, .int r, .int n] M J (some (.int (if (r < 0) ∨ (¬ (r < 6)) then (-1) else (if 40 < n then (-1) else (if n < 0 then (-3) else n)))), (if (r < 0) ∨ (¬ (r < 6)) then M else (if 40 < n then M else (if n < 0 then (fl_u (fl_u M 0 11 5) 80 5 ((M 80 5) + 1)) else (fl_u (fl_f M (fl_ar 2 r.toNatClampNeg) n.toNatClampNeg 0) 1 r.toNatClampNeg n)))), J) :=
 fl_Co (B := fB0) rfl rfl <|
 fl_td (s' := (1, [.ref 0, .int r, .int n, .null], [.int r], M, J)) (fl_n 1 rfl) <|
 fl_td (s' := (4, [.ref 0, .int r, .int n, .null], [.int (if (r < 0) ∨ (¬ (r < 6)) then 1 else 0)], M, J)) (fl_cs (o := some (.int (if (r < 0) ∨ (¬ (r < 6)) then 1 else 0))) rfl rfl rfl (cc_1 M J r) rfl) <|
 fl_dtwo (fl_if (t := 13) rfl rfl) fl_b1 (fun h1 =>
  fl_td (s' := (14, [.ref 0, .int r, .int n, .null], [.int (-1)], M, J)) (fl_n 1 rfl) <|
  fl_rt rfl (fun _ => rfl) (by first | (simp only [if_pos h1]; done) | rfl)) (fun h1 =>
  fl_td (s' := (10, [.ref 0, .int r, .int n, .null], [.int 40, .int n], M, J)) (fl_n 2 rfl) <|
  fl_dnot (fl_ic (t := 15) rfl rfl) fl_nle (fun h2 =>
   fl_td (s' := (14, [.ref 0, .int r, .int n, .null], [.int (-1)], M, J)) (fl_n 1 rfl) <|
   fl_rt rfl (fun _ => rfl) (by first | (simp only [if_neg h1, if_pos h2]; done) | rfl)) (fun h2 =>
   fl_td (s' := (16, [.ref 0, .int r, .int n, .null], [.int n], M, J)) (fl_n 1 rfl) <|
   fl_dnot (fl_if (t := 25) rfl rfl) fl_nlt (fun h3 =>
    fl_td (s' := (21, [.ref 0, .int r, .int n, .null], [.int 5, .ref 0], M, J)) (fl_n 2 rfl) <|
    fl_td (s' := (24, [.ref 0, .int r, .int n, .null], [.int (-3)], (fl_u (fl_u M 0 11 5) 80 5 ((M 80 5) + 1)), J)) (fl_cv (o := some (.int (-3))) rfl rfl rfl rfl (cc_2 M J 5) rfl) <|
    fl_rt rfl (fun _ => rfl) (by first | (simp only [if_neg h1, if_neg h2, if_pos h3]; done) | rfl)) (fun h3 =>
    fl_td (s' := (27, [.ref 0, .int r, .int n, .int 0], [], M, J)) (fl_n 2 rfl) <|
    fl_de (lp_0 M J r n) (by first | (simp only [if_neg h1, if_neg h2, if_neg h3]; done) | rfl))))
def fB107 : sm_P := (fun pc => sm_ch sm_t107 pc, sm_Kn 3 4 none, fun x => sm_lk sm_ca3 x, none)
theorem sg_107 (M : fl_M) (J : fl_J) (r n i : Int32) : fl_go fB107 (9, [.ref 81, .int r, .int n, .int i], [], M, J) (if i < 40 then (9, [.ref 81, .int r, .int n, .int (i + 1)], [], (fl_u M 88 (((40 * r) + i).toNatClampNeg) 0), J) else (33, [.ref 81, .int r, .int n, .int i], [], M, J)) :=
 fl_tr (s' := (12, [.ref 81, .int r, .int n, .int i], [.int 40, .int i], M, J)) (fl_n 2 rfl) <|
 fl_not (fl_ic (t := 33) rfl rfl) fl_nlt (fun h1 =>
  fl_tr (s' := (9, [.ref 81, .int r, .int n, .int (i + 1)], [], (fl_u M 88 (((40 * r) + i).toNatClampNeg) 0), J)) (fl_n 11 rfl) <|
  fl_rfl) (fun h1 =>
  fl_rfl)
theorem lp_107 (M : fl_M) (J : fl_J) (r n : Int32) (hr : (¬ (r < 0)) ∧ (¬ (5 < r))) : fl_dn fB107 (9, [.ref 81, .int r, .int n, .int 0], [], M, J) (none, fl_g M 88 (40 * r.toNatClampNeg) 40 0, J) := by
  have h1 := fi_ge.mp hr.1
  have h2 := fi_ge.mp hr.2
  rw [fi_i0] at h1
  rw [fi_i5] at h2
  refine fl_itd (S := fun m => (9, [.ref 81, .int r, .int n, .int (Int32.ofNat m)], [], fl_g M 88 (40 * r.toNatClampNeg) m 0, J)) 40 (fun m hm => ?_) ?_ ?_
  · refine fl_ge (sg_107 _ J r n (Int32.ofNat m)) ?_
    have e := fi_ti (m := m) (by omega)
    rw [if_pos ((fi_lt (by omega)).mpr hm), fi_40 h1 h2 (by omega) (by omega), fi_at (by omega), fi_s, fl_gs]
  · rw [fl_g0]
    rfl
  · refine fl_td (sg_107 _ J r n _) ?_
    rw [if_neg (by decide)]
    exact fl_rt rfl (fun _ => rfl) rfl
theorem cc_107 (M : fl_M) (J : fl_J) (r n : Int32) (hr : (¬ (r < 0)) ∧ (¬ (5 < r))) : fl_C 107 [.ref 81, .int r, .int n] M J (none, fl_g (fl_u M 87 r.toNatClampNeg n) 88 (40 * r.toNatClampNeg) 40 0, J) :=
 fl_Co (B := fB107) rfl rfl <|
 fl_td (s' := (9, [.ref 81, .int r, .int n, .int 0], [], fl_u M 87 r.toNatClampNeg n, J)) (fl_n 7 rfl) (lp_107 _ J r n hr)
def fB103 : sm_P := (fun pc => sm_ch sm_t103 pc, sm_Kn 3 3 none, fun x => sm_lk sm_ca3 x, some .int)
theorem cc_103 (M : fl_M) (J : fl_J) (r n : Int32) : fl_C 103 [.ref 81, .int r, .int n] M J (some (.int (if (¬ (r < 0)) ∧ (¬ (5 < r)) then (if 40 < n then (-1) else (if n < 0 then (-3) else n)) else (-1))), (if (¬ (r < 0)) ∧ (¬ (5 < r)) then (if 40 < n then M else (if n < 0 then (fl_u (fl_u M 81 14 5) 91 5 ((M 91 5) + 1)) else (fl_g (fl_u M 87 r.toNatClampNeg n) 88 (40 * r.toNatClampNeg) 40 0))) else M), J) :=
 fl_Co (B := fB103) rfl rfl <|
 fl_td (s' := (1, [.ref 81, .int r, .int n], [.int r], M, J)) (fl_n 1 rfl) <|
 fl_td (s' := (4, [.ref 81, .int r, .int n], [.int (if (¬ (r < 0)) ∧ (¬ (5 < r)) then 1 else 0)], M, J)) (fl_cs (o := some (.int (if (¬ (r < 0)) ∧ (¬ (5 < r)) then 1 else 0))) rfl rfl rfl (cc_104 M J r) rfl) <|
 fl_dnot (fl_if (t := 13) rfl rfl) fl_b0 (fun h1 =>
  fl_td (s' := (10, [.ref 81, .int r, .int n], [.int 40, .int n], M, J)) (fl_n 2 rfl) <|
  fl_dnot (fl_ic (t := 15) rfl rfl) fl_nle (fun h2 =>
   fl_td (s' := (14, [.ref 81, .int r, .int n], [.int (-1)], M, J)) (fl_n 1 rfl) <|
   fl_rt rfl (fun _ => rfl) (by first | (simp only [if_pos h1, if_pos h2]; done) | rfl)) (fun h2 =>
   fl_td (s' := (16, [.ref 81, .int r, .int n], [.int n], M, J)) (fl_n 1 rfl) <|
   fl_dnot (fl_if (t := 25) rfl rfl) fl_nlt (fun h3 =>
    fl_td (s' := (21, [.ref 81, .int r, .int n], [.int 5, .ref 81], M, J)) (fl_n 2 rfl) <|
    fl_td (s' := (24, [.ref 81, .int r, .int n], [.int (-3)], (fl_u (fl_u M 81 14 5) 91 5 ((M 91 5) + 1)), J)) (fl_cv (o := some (.int (-3))) rfl rfl rfl rfl (cc_106 M J 5) rfl) <|
    fl_rt rfl (fun _ => rfl) (by first | (simp only [if_pos h1, if_neg h2, if_pos h3]; done) | rfl)) (fun h3 =>
    fl_td (s' := (28, [.ref 81, .int r, .int n], [.int n, .int r, .ref 81], M, J)) (fl_n 3 rfl) <|
    fl_td (s' := (31, [.ref 81, .int r, .int n], [], (fl_g (fl_u M 87 r.toNatClampNeg n) 88 (40 * r.toNatClampNeg) 40 0), J)) (fl_cv (o := none) rfl rfl rfl rfl (cc_107 M J r n (by assumption)) rfl) <|
    fl_td (s' := (32, [.ref 81, .int r, .int n], [.int n], (fl_g (fl_u M 87 r.toNatClampNeg n) 88 (40 * r.toNatClampNeg) 40 0), J)) (fl_n 1 rfl) <|
    fl_rt rfl (fun _ => rfl) (by first | (simp only [if_pos h1, if_neg h2, if_neg h3]; done) | rfl)))) (fun h1 =>
  fl_td (s' := (14, [.ref 81, .int r, .int n], [.int (-1)], M, J)) (fl_n 1 rfl) <|
  fl_rt rfl (fun _ => rfl) (by first | (simp only [if_neg h1]; done) | rfl))
def fB116 : sm_P := (fun pc => sm_ch sm_t116 pc, sm_Kn 3 4 none, fun x => sm_lk sm_ca3 x, some .int)
theorem sg_116 (M : fl_M) (J : fl_J) (t n i : Int32) : fl_go fB116 (34, [.ref 81, .int t, .int n, .int i], [], M, J) (if i < 60 then (34, [.ref 81, .int t, .int n, .int (i + 1)], [], (fl_u M 90 (((60 * t) + i).toNatClampNeg) 32), J) else (60, [.ref 81, .int t, .int n, .int i], [.int n], M, J)) :=
 fl_tr (s' := (37, [.ref 81, .int t, .int n, .int i], [.int 60, .int i], M, J)) (fl_n 2 rfl) <|
 fl_not (fl_ic (t := 59) rfl rfl) fl_nlt (fun h1 =>
  fl_tr (s' := (34, [.ref 81, .int t, .int n, .int (i + 1)], [], (fl_u M 90 (((60 * t) + i).toNatClampNeg) 32), J)) (fl_n 11 rfl) <|
  fl_rfl) (fun h1 =>
  fl_tr (s' := (60, [.ref 81, .int t, .int n, .int i], [.int n], M, J)) (fl_n 1 rfl) <|
  fl_rfl)
theorem lp_116 (M : fl_M) (J : fl_J) (t n : Int32) (hr : (¬ (t < 0)) ∧ (¬ (3 < t))) : fl_dn fB116 (34, [.ref 81, .int t, .int n, .int 0], [], M, J) (some (.int n), fl_g M 90 (60 * t.toNatClampNeg) 60 32, J) := by
  have h1 := fi_ge.mp hr.1
  have h2 := fi_ge.mp hr.2
  rw [fi_i0] at h1
  rw [fi_i3] at h2
  refine fl_itd (S := fun m => (34, [.ref 81, .int t, .int n, .int (Int32.ofNat m)], [], fl_g M 90 (60 * t.toNatClampNeg) m 32, J)) 60 (fun m hm => ?_) ?_ ?_
  · refine fl_ge (sg_116 _ J t n (Int32.ofNat m)) ?_
    have e := fi_ti (m := m) (by omega)
    rw [if_pos ((fi_lt (by omega)).mpr hm), fi_60 h1 h2 (by omega) (by omega), fi_at (by omega), fi_s, fl_gs]
  · rw [fl_g0]
    rfl
  · refine fl_td (sg_116 _ J t n _) ?_
    rw [if_neg (by decide)]
    exact fl_rt rfl (fun _ => rfl) rfl
theorem cc_116 (M : fl_M) (J : fl_J) (t n : Int32) : fl_C 116 [.ref 81, .int t, .int n] M J (some (.int (if (¬ (t < 0)) ∧ (¬ (3 < t)) then (if 60 < n then (-1) else (if n < 0 then (-3) else n)) else (-1))), (if (¬ (t < 0)) ∧ (¬ (3 < t)) then (if 60 < n then M else (if n < 0 then (fl_u (fl_u M 81 14 5) 91 5 ((M 91 5) + 1)) else (fl_g (fl_u M 89 t.toNatClampNeg n) 90 (60 * t.toNatClampNeg) 60 32))) else M), J) :=
 fl_Co (B := fB116) rfl rfl <|
 fl_td (s' := (1, [.ref 81, .int t, .int n, .null], [.int t], M, J)) (fl_n 1 rfl) <|
 fl_td (s' := (4, [.ref 81, .int t, .int n, .null], [.int (if (¬ (t < 0)) ∧ (¬ (3 < t)) then 1 else 0)], M, J)) (fl_cs (o := some (.int (if (¬ (t < 0)) ∧ (¬ (3 < t)) then 1 else 0))) rfl rfl rfl (cc_117 M J t) rfl) <|
 fl_dnot (fl_if (t := 13) rfl rfl) fl_b0 (fun h1 =>
  fl_td (s' := (10, [.ref 81, .int t, .int n, .null], [.int 60, .int n], M, J)) (fl_n 2 rfl) <|
  fl_dnot (fl_ic (t := 15) rfl rfl) fl_nle (fun h2 =>
   fl_td (s' := (14, [.ref 81, .int t, .int n, .null], [.int (-1)], M, J)) (fl_n 1 rfl) <|
   fl_rt rfl (fun _ => rfl) (by first | (simp only [if_pos h1, if_pos h2]; done) | rfl)) (fun h2 =>
   fl_td (s' := (16, [.ref 81, .int t, .int n, .null], [.int n], M, J)) (fl_n 1 rfl) <|
   fl_dnot (fl_if (t := 25) rfl rfl) fl_nlt (fun h3 =>
    fl_td (s' := (21, [.ref 81, .int t, .int n, .null], [.int 5, .ref 81], M, J)) (fl_n 2 rfl) <|
    fl_td (s' := (24, [.ref 81, .int t, .int n, .null], [.int (-3)], (fl_u (fl_u M 81 14 5) 91 5 ((M 91 5) + 1)), J)) (fl_cv (o := some (.int (-3))) rfl rfl rfl rfl (cc_106 M J 5) rfl) <|
    fl_rt rfl (fun _ => rfl) (by first | (simp only [if_pos h1, if_neg h2, if_pos h3]; done) | rfl)) (fun h3 =>
    fl_td (s' := (34, [.ref 81, .int t, .int n, .int 0], [], (fl_u M 89 t.toNatClampNeg n), J)) (fl_n 7 rfl) <|
    fl_de (lp_116 (fl_u M 89 t.toNatClampNeg n) J t n (by assumption)) (by first | (simp only [if_pos h1, if_neg h2, if_neg h3]; done) | rfl)))) (fun h1 =>
  fl_td (s' := (14, [.ref 81, .int t, .int n, .null], [.int (-1)], M, J)) (fl_n 1 rfl) <|
  fl_rt rfl (fun _ => rfl) (by first | (simp only [if_neg h1]; done) | rfl))
def fB10 : sm_P := (fun pc => sm_ch sm_t10 pc, sm_Kn 2 6 none, fun x => sm_lk sm_ca2 x, some .int)
theorem sg_10 (M : fl_M) (J : fl_J) (r n i : Int32) (s : Int64) : fl_go fB10 (42, [.ref 0, .int r, .int n, .long s, .null, .int i], [], M, J) (if i < n then (42, [.ref 0, .int r, .int n, .long (s + ((M (fl_ar 2 r.toNatClampNeg) i.toNatClampNeg).toInt64)), .null, .int (i + 1)], [], M, J) else (76, [.ref 0, .int r, .int n, .long s, .null, .int i], [.int 1], (fl_u M 0 12 ((s / n.toInt64).toInt32)), J)) :=
 fl_tr (s' := (45, [.ref 0, .int r, .int n, .long s, .null, .int i], [.int n, .int i], M, J)) (fl_n 2 rfl) <|
 fl_not (fl_ic (t := 67) rfl rfl) fl_nlt (fun h1 =>
  fl_tr (s' := (42, [.ref 0, .int r, .int n, .long (s + ((M (fl_ar 2 r.toNatClampNeg) i.toNatClampNeg).toInt64)), .null, .int (i + 1)], [], M, J)) (fl_n 12 rfl) <|
  fl_rfl) (fun h1 =>
  fl_tr (s' := (73, [.ref 0, .int r, .int n, .long s, .null, .int i], [.int ((s / n.toInt64).toInt32), .ref 0], M, J)) (fl_n 6 rfl) <|
  fl_tr (s' := (76, [.ref 0, .int r, .int n, .long s, .null, .int i], [.int 1], (fl_u M 0 12 ((s / n.toInt64).toInt32)), J)) (fl_cv (o := some (.int 1)) rfl rfl rfl rfl (cc_5 M J ((s / n.toInt64).toInt32)) rfl) <|
  fl_rfl)
theorem lp_10 (M : fl_M) (J : fl_J) (r n : Int32) : fl_dn fB10 (42, [.ref 0, .int r, .int n, .long 0, .null, .int 0], [], M, J) (some (.int 1), fl_u M 0 12 (fl_sm (M (fl_ar 2 r.toNatClampNeg)) n.toNatClampNeg / n.toInt64).toInt32, J) := by
  have hb := fi_bd n
  refine fl_itd (S := fun m => (42, [.ref 0, .int r, .int n, .long (fl_sm (M (fl_ar 2 r.toNatClampNeg)) m), .null, .int (Int32.ofNat m)], [], M, J)) n.toNatClampNeg (fun m hm => ?_) ?_ ?_
  · refine fl_ge (sg_10 _ J r n (Int32.ofNat m) _) ?_
    rw [if_pos ((fi_lt (by omega)).mpr hm), fi_at (by omega), fi_s]
    rfl
  · rfl
  · refine fl_td (sg_10 _ J r n _ _) ?_
    rw [if_neg (fun z => absurd ((fi_lt (by omega)).mp z) (by omega))]
    exact fl_rt rfl (fun _ => rfl) rfl
theorem cc_10 (M : fl_M) (J : fl_J) (r : Int32) : fl_C 10 [.ref 0, .int r] M J (some (.int (if (r < 0) ∨ (¬ (r < 6)) then (-1) else (if (M 1 r.toNatClampNeg) = (-1) then (-3) else (if 0 < (M 1 r.toNatClampNeg) then 1 else (-3))))), (if (r < 0) ∨ (¬ (r < 6)) then M else (if (M 1 r.toNatClampNeg) = (-1) then (fl_u (fl_u M 0 11 1) 80 1 ((M 80 1) + 1)) else (if 0 < (M 1 r.toNatClampNeg) then (fl_u M 0 12 (fl_sm (M (fl_ar 2 r.toNatClampNeg)) (M 1 r.toNatClampNeg).toNatClampNeg / (M 1 r.toNatClampNeg).toInt64).toInt32) else (fl_u (fl_u M 0 11 4) 80 4 ((M 80 4) + 1))))), J) :=
 fl_Co (B := fB10) rfl rfl <|
 fl_td (s' := (1, [.ref 0, .int r, .null, .null, .null, .null], [.int r], M, J)) (fl_n 1 rfl) <|
 fl_td (s' := (4, [.ref 0, .int r, .null, .null, .null, .null], [.int (if (r < 0) ∨ (¬ (r < 6)) then 1 else 0)], M, J)) (fl_cs (o := some (.int (if (r < 0) ∨ (¬ (r < 6)) then 1 else 0))) rfl rfl rfl (cc_1 M J r) rfl) <|
 fl_dnot (fl_if (t := 9) rfl rfl) fl_b0 (fun h1 =>
  fl_td (s' := (8, [.ref 0, .int r, .null, .null, .null, .null], [.int (-1)], M, J)) (fl_n 1 rfl) <|
  fl_rt rfl (fun _ => rfl) (by first | (simp only [if_pos h1]; done) | rfl)) (fun h1 =>
  fl_td (s' := (18, [.ref 0, .int r, .int (M 1 r.toNatClampNeg), .null, .null, .null], [.int (-1), .int (M 1 r.toNatClampNeg)], M, J)) (fl_n 7 rfl) <|
  fl_dnot (fl_ic (t := 27) rfl rfl) fl_cF (fun h2 =>
   fl_td (s' := (23, [.ref 0, .int r, .int (M 1 r.toNatClampNeg), .null, .null, .null], [.int 1, .ref 0], M, J)) (fl_n 2 rfl) <|
   fl_td (s' := (26, [.ref 0, .int r, .int (M 1 r.toNatClampNeg), .null, .null, .null], [.int (-3)], (fl_u (fl_u M 0 11 1) 80 1 ((M 80 1) + 1)), J)) (fl_cv (o := some (.int (-3))) rfl rfl rfl rfl (cc_2 M J 1) rfl) <|
   fl_rt rfl (fun _ => rfl) (by first | (simp only [if_neg h1, if_pos h2]; done) | rfl)) (fun h2 =>
   fl_td (s' := (28, [.ref 0, .int r, .int (M 1 r.toNatClampNeg), .null, .null, .null], [.int (M 1 r.toNatClampNeg)], M, J)) (fl_n 1 rfl) <|
   fl_dtwo (fl_if (t := 37) rfl rfl) fl_cT (fun h3 =>
    fl_td (s' := (42, [.ref 0, .int r, .int (M 1 r.toNatClampNeg), .long 0, .null, .int 0], [], M, J)) (fl_n 4 rfl) <|
    fl_de (lp_10 M J r (M 1 r.toNatClampNeg)) (by first | (simp only [if_neg h1, if_neg h2, if_pos h3]; done) | rfl)) (fun h3 =>
    fl_td (s' := (33, [.ref 0, .int r, .int (M 1 r.toNatClampNeg), .null, .null, .null], [.int 4, .ref 0], M, J)) (fl_n 2 rfl) <|
    fl_td (s' := (36, [.ref 0, .int r, .int (M 1 r.toNatClampNeg), .null, .null, .null], [.int (-3)], (fl_u (fl_u M 0 11 4) 80 4 ((M 80 4) + 1)), J)) (fl_cv (o := some (.int (-3))) rfl rfl rfl rfl (cc_2 M J 4) rfl) <|
    fl_rt rfl (fun _ => rfl) (by first | (simp only [if_neg h1, if_neg h2, if_neg h3]; done) | rfl))))
def fB115 : sm_P := (fun pc => sm_ch sm_t115 pc, sm_Kn 3 5 none, fun x => sm_lk sm_ca3 x, some .int)
theorem sg_115 (M : fl_M) (J : fl_J) (r i : Int32) (s : Int64) : fl_go fB115 (44, [.ref 81, .int r, .long s, .null, .int i], [], M, J) (if i < (M 87 r.toNatClampNeg) then (44, [.ref 81, .int r, .long (s + ((M 88 (((40 * r) + i).toNatClampNeg)).toInt64)), .null, .int (i + 1)], [], M, J) else (91, [.ref 81, .int r, .long s, .null, .int i], [.int 1], (fl_u M 81 11 ((s / ((M 87 r.toNatClampNeg).toInt64)).toInt32)), J)) :=
 fl_tr (s' := (52, [.ref 81, .int r, .long s, .null, .int i], [.int (M 87 r.toNatClampNeg), .int i], M, J)) (fl_n 5 rfl) <|
 fl_not (fl_ic (t := 77) rfl rfl) fl_nlt (fun h1 =>
  fl_tr (s' := (44, [.ref 81, .int r, .long (s + ((M 88 (((40 * r) + i).toNatClampNeg)).toInt64)), .null, .int (i + 1)], [], M, J)) (fl_n 14 rfl) <|
  fl_rfl) (fun h1 =>
  fl_tr (s' := (88, [.ref 81, .int r, .long s, .null, .int i], [.int ((s / ((M 87 r.toNatClampNeg).toInt64)).toInt32), .ref 81], M, J)) (fl_n 9 rfl) <|
  fl_tr (s' := (91, [.ref 81, .int r, .long s, .null, .int i], [.int 1], (fl_u M 81 11 ((s / ((M 87 r.toNatClampNeg).toInt64)).toInt32)), J)) (fl_cv (o := some (.int 1)) rfl rfl rfl rfl (cc_110 M J ((s / ((M 87 r.toNatClampNeg).toInt64)).toInt32)) rfl) <|
  fl_rfl)
theorem lp_115 (M : fl_M) (J : fl_J) (r : Int32) (hr : (¬ (r < 0)) ∧ (¬ (5 < r))) (hn : (M 87 r.toNatClampNeg).toInt ≤ 40) : fl_dn fB115 (44, [.ref 81, .int r, .long 0, .null, .int 0], [], M, J) (some (.int 1), fl_u M 81 11 (fl_sm (fun k => M 88 (40 * r.toNatClampNeg + k)) (M 87 r.toNatClampNeg).toNatClampNeg / (M 87 r.toNatClampNeg).toInt64).toInt32, J) := by
  have h1 := fi_ge.mp hr.1
  have h2 := fi_ge.mp hr.2
  rw [fi_i0] at h1
  rw [fi_i5] at h2
  have hb := fi_bd (M 87 r.toNatClampNeg)
  have hc := fi_cl (M 87 r.toNatClampNeg)
  refine fl_itd (S := fun m => (44, [.ref 81, .int r, .long (fl_sm (fun k => M 88 (40 * r.toNatClampNeg + k)) m), .null, .int (Int32.ofNat m)], [], M, J)) (M 87 r.toNatClampNeg).toNatClampNeg (fun m hm => ?_) ?_ ?_
  · refine fl_ge (sg_115 _ J r (Int32.ofNat m) _) ?_
    have e := fi_ti (m := m) (by omega)
    rw [if_pos ((fi_lt (by omega)).mpr hm), fi_40 h1 h2 (by omega) (by omega), fi_at (by omega), fi_s]
    rfl
  · rfl
  · refine fl_td (sg_115 _ J r _ _) ?_
    rw [if_neg (fun z => absurd ((fi_lt (by omega)).mp z) (by omega))]
    exact fl_rt rfl (fun _ => rfl) rfl
theorem cc_115 (M : fl_M) (J : fl_J) (r : Int32) (hn : ∀ q, q < 6 → (M 87 q).toInt ≤ 40) : fl_C 115 [.ref 81, .int r] M J (some (.int (if (¬ (r < 0)) ∧ (¬ (5 < r)) then (if (M 87 r.toNatClampNeg) < 0 then (-3) else (if (M 87 r.toNatClampNeg) = 0 then (-3) else 1)) else (-1))), (if (¬ (r < 0)) ∧ (¬ (5 < r)) then (if (M 87 r.toNatClampNeg) < 0 then (fl_u (fl_u M 81 14 1) 91 1 ((M 91 1) + 1)) else (if (M 87 r.toNatClampNeg) = 0 then (fl_u (fl_u M 81 14 4) 91 4 ((M 91 4) + 1)) else (fl_u M 81 11 (fl_sm (fun k => M 88 (40 * r.toNatClampNeg + k)) (M 87 r.toNatClampNeg).toNatClampNeg / (M 87 r.toNatClampNeg).toInt64).toInt32))) else M), J) :=
 fl_Co (B := fB115) rfl rfl <|
 fl_td (s' := (1, [.ref 81, .int r, .null, .null, .null], [.int r], M, J)) (fl_n 1 rfl) <|
 fl_td (s' := (4, [.ref 81, .int r, .null, .null, .null], [.int (if (¬ (r < 0)) ∧ (¬ (5 < r)) then 1 else 0)], M, J)) (fl_cs (o := some (.int (if (¬ (r < 0)) ∧ (¬ (5 < r)) then 1 else 0))) rfl rfl rfl (cc_104 M J r) rfl) <|
 fl_dtwo (fl_if (t := 9) rfl rfl) fl_b1 (fun h1 =>
  fl_td (s' := (15, [.ref 81, .int r, .null, .null, .null], [.int (M 87 r.toNatClampNeg)], M, J)) (fl_n 4 rfl) <|
  fl_dnot (fl_if (t := 24) rfl rfl) fl_nlt (fun h2 =>
   fl_td (s' := (20, [.ref 81, .int r, .null, .null, .null], [.int 1, .ref 81], M, J)) (fl_n 2 rfl) <|
   fl_td (s' := (23, [.ref 81, .int r, .null, .null, .null], [.int (-3)], (fl_u (fl_u M 81 14 1) 91 1 ((M 91 1) + 1)), J)) (fl_cv (o := some (.int (-3))) rfl rfl rfl rfl (cc_106 M J 1) rfl) <|
   fl_rt rfl (fun _ => rfl) (by first | (simp only [if_pos h1, if_pos h2]; done) | rfl)) (fun h2 =>
   fl_td (s' := (30, [.ref 81, .int r, .null, .null, .null], [.int (M 87 r.toNatClampNeg)], M, J)) (fl_n 4 rfl) <|
   fl_dnot (fl_if (t := 39) rfl rfl) fl_cF (fun h3 =>
    fl_td (s' := (35, [.ref 81, .int r, .null, .null, .null], [.int 4, .ref 81], M, J)) (fl_n 2 rfl) <|
    fl_td (s' := (38, [.ref 81, .int r, .null, .null, .null], [.int (-3)], (fl_u (fl_u M 81 14 4) 91 4 ((M 91 4) + 1)), J)) (fl_cv (o := some (.int (-3))) rfl rfl rfl rfl (cc_106 M J 4) rfl) <|
    fl_rt rfl (fun _ => rfl) (by first | (simp only [if_pos h1, if_neg h2, if_pos h3]; done) | rfl)) (fun h3 =>
    fl_td (s' := (44, [.ref 81, .int r, .long 0, .null, .int 0], [], M, J)) (fl_n 4 rfl) <|
    fl_de (lp_115 M J r (by assumption) (hn _ (fi_r6 (by assumption)))) (by first | (simp only [if_pos h1, if_neg h2, if_neg h3]; done) | rfl)))) (fun h1 =>
  fl_td (s' := (8, [.ref 81, .int r, .null, .null, .null], [.int (-1)], M, J)) (fl_n 1 rfl) <|
  fl_rt rfl (fun _ => rfl) (by first | (simp only [if_neg h1]; done) | rfl))
def fB8 : sm_P := (fun pc => sm_ch sm_t8 pc, sm_Kn 2 6 none, fun x => sm_lk sm_ca2 x, some .int)
theorem cc_8 (M : fl_M) (J : fl_J) (r i to j n : Int32) : fl_C 8 [.ref 0, .int r, .int i, .int to, .int j, .int n] M J (some (.int (if (r < 0) ∨ (¬ (r < 6)) then (-1) else (if (to < 0) ∨ (¬ (to < 6)) then (-1) else (if n < 0 then (-3) else (if (M 1 r.toNatClampNeg) = (-1) then (-3) else (if (M 1 to.toNatClampNeg) = (-1) then (-3) else (if (i < 0) ∨ (((M 1 r.toNatClampNeg) - n) < i) then (-3) else (if (j < 0) ∨ (((M 1 to.toNatClampNeg) - n) < j) then (-3) else 1)))))))), (if (r < 0) ∨ (¬ (r < 6)) then M else (if (to < 0) ∨ (¬ (to < 6)) then M else (if n < 0 then (fl_u (fl_u M 0 11 5) 80 5 ((M 80 5) + 1)) else (if (M 1 r.toNatClampNeg) = (-1) then (fl_u (fl_u M 0 11 1) 80 1 ((M 80 1) + 1)) else (if (M 1 to.toNatClampNeg) = (-1) then (fl_u (fl_u M 0 11 1) 80 1 ((M 80 1) + 1)) else (if (i < 0) ∨ (((M 1 r.toNatClampNeg) - n) < i) then (fl_u (fl_u M 0 11 2) 80 2 ((M 80 2) + 1)) else (if (j < 0) ∨ (((M 1 to.toNatClampNeg) - n) < j) then (fl_u (fl_u M 0 11 2) 80 2 ((M 80 2) + 1)) else (fl_y M (fl_ar 2 r.toNatClampNeg) i.toNatClampNeg (fl_ar 2 to.toNatClampNeg) j.toNatClampNeg n.toNatClampNeg)))))))), J) :=
 fl_Co (B := fB8) rfl rfl <|
 fl_td (s' := (1, [.ref 0, .int r, .int i, .int to, .int j, .int n], [.int r], M, J)) (fl_n 1 rfl) <|
 fl_td (s' := (4, [.ref 0, .int r, .int i, .int to, .int j, .int n], [.int (if (r < 0) ∨ (¬ (r < 6)) then 1 else 0)], M, J)) (fl_cs (o := some (.int (if (r < 0) ∨ (¬ (r < 6)) then 1 else 0))) rfl rfl rfl (cc_1 M J r) rfl) <|
 fl_dtwo (fl_if (t := 14) rfl rfl) fl_b1 (fun h1 =>
  fl_td (s' := (15, [.ref 0, .int r, .int i, .int to, .int j, .int n], [.int (-1)], M, J)) (fl_n 1 rfl) <|
  fl_rt rfl (fun _ => rfl) (by first | (simp only [if_pos h1]; done) | rfl)) (fun h1 =>
  fl_td (s' := (8, [.ref 0, .int r, .int i, .int to, .int j, .int n], [.int to], M, J)) (fl_n 1 rfl) <|
  fl_td (s' := (11, [.ref 0, .int r, .int i, .int to, .int j, .int n], [.int (if (to < 0) ∨ (¬ (to < 6)) then 1 else 0)], M, J)) (fl_cs (o := some (.int (if (to < 0) ∨ (¬ (to < 6)) then 1 else 0))) rfl rfl rfl (cc_1 M J to) rfl) <|
  fl_dnot (fl_if (t := 16) rfl rfl) fl_b0 (fun h2 =>
   fl_td (s' := (15, [.ref 0, .int r, .int i, .int to, .int j, .int n], [.int (-1)], M, J)) (fl_n 1 rfl) <|
   fl_rt rfl (fun _ => rfl) (by first | (simp only [if_neg h1, if_pos h2]; done) | rfl)) (fun h2 =>
   fl_td (s' := (18, [.ref 0, .int r, .int i, .int to, .int j, .int n], [.int n], M, J)) (fl_n 1 rfl) <|
   fl_dnot (fl_if (t := 27) rfl rfl) fl_nlt (fun h3 =>
    fl_td (s' := (23, [.ref 0, .int r, .int i, .int to, .int j, .int n], [.int 5, .ref 0], M, J)) (fl_n 2 rfl) <|
    fl_td (s' := (26, [.ref 0, .int r, .int i, .int to, .int j, .int n], [.int (-3)], (fl_u (fl_u M 0 11 5) 80 5 ((M 80 5) + 1)), J)) (fl_cv (o := some (.int (-3))) rfl rfl rfl rfl (cc_2 M J 5) rfl) <|
    fl_rt rfl (fun _ => rfl) (by first | (simp only [if_neg h1, if_neg h2, if_pos h3]; done) | rfl)) (fun h3 =>
    fl_td (s' := (34, [.ref 0, .int r, .int i, .int to, .int j, .int n], [.int (-1), .int (M 1 r.toNatClampNeg)], M, J)) (fl_n 5 rfl) <|
    fl_dtwo (fl_ic (t := 47) rfl rfl) fl_cT (fun h4 =>
     fl_td (s' := (49, [.ref 0, .int r, .int i, .int to, .int j, .int n], [.int 1, .ref 0], M, J)) (fl_n 2 rfl) <|
     fl_td (s' := (52, [.ref 0, .int r, .int i, .int to, .int j, .int n], [.int (-3)], (fl_u (fl_u M 0 11 1) 80 1 ((M 80 1) + 1)), J)) (fl_cv (o := some (.int (-3))) rfl rfl rfl rfl (cc_2 M J 1) rfl) <|
     fl_rt rfl (fun _ => rfl) (by first | (simp only [if_neg h1, if_neg h2, if_neg h3, if_pos h4]; done) | rfl)) (fun h4 =>
     fl_td (s' := (44, [.ref 0, .int r, .int i, .int to, .int j, .int n], [.int (-1), .int (M 1 to.toNatClampNeg)], M, J)) (fl_n 5 rfl) <|
     fl_dnot (fl_ic (t := 53) rfl rfl) fl_cF (fun h5 =>
      fl_td (s' := (49, [.ref 0, .int r, .int i, .int to, .int j, .int n], [.int 1, .ref 0], M, J)) (fl_n 2 rfl) <|
      fl_td (s' := (52, [.ref 0, .int r, .int i, .int to, .int j, .int n], [.int (-3)], (fl_u (fl_u M 0 11 1) 80 1 ((M 80 1) + 1)), J)) (fl_cv (o := some (.int (-3))) rfl rfl rfl rfl (cc_2 M J 1) rfl) <|
      fl_rt rfl (fun _ => rfl) (by first | (simp only [if_neg h1, if_neg h2, if_neg h3, if_neg h4, if_pos h5]; done) | rfl)) (fun h5 =>
      fl_td (s' := (62, [.ref 0, .int r, .int i, .int to, .int j, .int n], [.int (M 1 r.toNatClampNeg), .int n, .int i], M, J)) (fl_n 6 rfl) <|
      fl_td (s' := (65, [.ref 0, .int r, .int i, .int to, .int j, .int n], [.int (if (i < 0) ∨ (((M 1 r.toNatClampNeg) - n) < i) then 1 else 0)], M, J)) (fl_cs (o := some (.int (if (i < 0) ∨ (((M 1 r.toNatClampNeg) - n) < i) then 1 else 0))) rfl rfl rfl (cc_9 M J i n (M 1 r.toNatClampNeg)) rfl) <|
      fl_dtwo (fl_if (t := 84) rfl rfl) fl_b1 (fun h6 =>
       fl_td (s' := (86, [.ref 0, .int r, .int i, .int to, .int j, .int n], [.int 2, .ref 0], M, J)) (fl_n 2 rfl) <|
       fl_td (s' := (89, [.ref 0, .int r, .int i, .int to, .int j, .int n], [.int (-3)], (fl_u (fl_u M 0 11 2) 80 2 ((M 80 2) + 1)), J)) (fl_cv (o := some (.int (-3))) rfl rfl rfl rfl (cc_2 M J 2) rfl) <|
       fl_rt rfl (fun _ => rfl) (by first | (simp only [if_neg h1, if_neg h2, if_neg h3, if_neg h4, if_neg h5, if_pos h6]; done) | rfl)) (fun h6 =>
       fl_td (s' := (78, [.ref 0, .int r, .int i, .int to, .int j, .int n], [.int (M 1 to.toNatClampNeg), .int n, .int j], M, J)) (fl_n 6 rfl) <|
       fl_td (s' := (81, [.ref 0, .int r, .int i, .int to, .int j, .int n], [.int (if (j < 0) ∨ (((M 1 to.toNatClampNeg) - n) < j) then 1 else 0)], M, J)) (fl_cs (o := some (.int (if (j < 0) ∨ (((M 1 to.toNatClampNeg) - n) < j) then 1 else 0))) rfl rfl rfl (cc_9 M J j n (M 1 to.toNatClampNeg)) rfl) <|
       fl_dnot (fl_if (t := 90) rfl rfl) fl_b0 (fun h7 =>
        fl_td (s' := (86, [.ref 0, .int r, .int i, .int to, .int j, .int n], [.int 2, .ref 0], M, J)) (fl_n 2 rfl) <|
        fl_td (s' := (89, [.ref 0, .int r, .int i, .int to, .int j, .int n], [.int (-3)], (fl_u (fl_u M 0 11 2) 80 2 ((M 80 2) + 1)), J)) (fl_cv (o := some (.int (-3))) rfl rfl rfl rfl (cc_2 M J 2) rfl) <|
        fl_rt rfl (fun _ => rfl) (by first | (simp only [if_neg h1, if_neg h2, if_neg h3, if_neg h4, if_neg h5, if_neg h6, if_pos h7]; done) | rfl)) (fun h7 =>
        fl_td (s' := (111, [.ref 0, .int r, .int i, .int to, .int j, .int n], [.int 1], (fl_y M (fl_ar 2 r.toNatClampNeg) i.toNatClampNeg (fl_ar 2 to.toNatClampNeg) j.toNatClampNeg n.toNatClampNeg), J)) (fl_n 13 rfl) <|
        fl_rt rfl (fun _ => rfl) (by first | (simp only [if_neg h1, if_neg h2, if_neg h3, if_neg h4, if_neg h5, if_neg h6, if_neg h7]; done) | rfl))))))))
def fB114 : sm_P := (fun pc => sm_ch sm_t114 pc, sm_Kn 3 4 none, fun x => sm_lk sm_ca3 x, some .boolean)
theorem cc_114 (M : fl_M) (J : fl_J) (r i n : Int32) : fl_C 114 [.ref 81, .int r, .int i, .int n] M J (some (.int (if (¬ (i < 0)) ∧ (¬ (((M 87 r.toNatClampNeg).toInt64) < (i.toInt64 + n.toInt64))) then 1 else 0)), M, J) :=
 fl_Co (B := fB114) rfl rfl <|
 fl_td (s' := (1, [.ref 81, .int r, .int i, .int n], [.int i], M, J)) (fl_n 1 rfl) <|
 fl_dtwo (fl_if (t := 24) rfl rfl) fl_cT (fun h1 =>
  fl_td (s' := (25, [.ref 81, .int r, .int i, .int n], [.int 0], M, J)) (fl_n 1 rfl) <|
  fl_rt rfl (fun _ => rfl) (by simp [h1])) (fun h1 =>
  fl_td (s' := (17, [.ref 81, .int r, .int i, .int n], [.int (lg_cmp (i.toInt64 + n.toInt64) ((M 87 r.toNatClampNeg).toInt64))], M, J)) (fl_n 11 rfl) <|
  fl_dtwo (fl_if (t := 24) rfl rfl) fl_lgt (fun h2 =>
   fl_td (s' := (25, [.ref 81, .int r, .int i, .int n], [.int 0], M, J)) (fl_n 1 rfl) <|
   fl_rt rfl (fun _ => rfl) (by simp [h1, h2])) (fun h2 =>
   fl_td (s' := (25, [.ref 81, .int r, .int i, .int n], [.int 1], M, J)) (fl_n 2 rfl) <|
   fl_rt rfl (fun _ => rfl) (by simp [h1, h2])))
def fB113 : sm_P := (fun pc => sm_ch sm_t113 pc, sm_Kn 3 9 none, fun x => sm_lk sm_ca3 x, some .int)
theorem sg_113f (M : fl_M) (J : fl_J) (r i to j n k : Int32) (v8 : Value) : fl_go fB113 (96, [.ref 81, .int r, .int i, .int to, .int j, .int n, .int 0, .int k, v8], [], M, J) (if k < n then (96, [.ref 81, .int r, .int i, .int to, .int j, .int n, .int 0, .int (k + 1), .int k], [], (fl_u M 88 ((((40 * to) + j) + k).toNatClampNeg) (M 88 ((((40 * r) + i) + k).toNatClampNeg))), J) else (158, [.ref 81, .int r, .int i, .int to, .int j, .int n, .int 0, .int k, v8], [.int 1], M, J)) :=
 fl_tr (s' := (100, [.ref 81, .int r, .int i, .int to, .int j, .int n, .int 0, .int k, v8], [.int n, .int k], M, J)) (fl_n 2 rfl) <|
 fl_not (fl_ic (t := 157) rfl rfl) fl_nlt (fun h1 =>
  fl_tr (s' := (96, [.ref 81, .int r, .int i, .int to, .int j, .int n, .int 0, .int (k + 1), .int k], [], (fl_u M 88 ((((40 * to) + j) + k).toNatClampNeg) (M 88 ((((40 * r) + i) + k).toNatClampNeg))), J)) (fl_n 26 rfl) <|
  fl_rfl) (fun h1 =>
  fl_tr (s' := (158, [.ref 81, .int r, .int i, .int to, .int j, .int n, .int 0, .int k, v8], [.int 1], M, J)) (fl_n 1 rfl) <|
  fl_rfl)
theorem sg_113b (M : fl_M) (J : fl_J) (r i to j n k : Int32) (v8 : Value) : fl_go fB113 (96, [.ref 81, .int r, .int i, .int to, .int j, .int n, .int 1, .int k, v8], [], M, J) (if k < n then (96, [.ref 81, .int r, .int i, .int to, .int j, .int n, .int 1, .int (k + 1), .int ((n - 1) - k)], [], (fl_u M 88 ((((40 * to) + j) + ((n - 1) - k)).toNatClampNeg) (M 88 ((((40 * r) + i) + ((n - 1) - k)).toNatClampNeg))), J) else (158, [.ref 81, .int r, .int i, .int to, .int j, .int n, .int 1, .int k, v8], [.int 1], M, J)) :=
 fl_tr (s' := (100, [.ref 81, .int r, .int i, .int to, .int j, .int n, .int 1, .int k, v8], [.int n, .int k], M, J)) (fl_n 2 rfl) <|
 fl_not (fl_ic (t := 157) rfl rfl) fl_nlt (fun h1 =>
  fl_tr (s' := (96, [.ref 81, .int r, .int i, .int to, .int j, .int n, .int 1, .int (k + 1), .int ((n - 1) - k)], [], (fl_u M 88 ((((40 * to) + j) + ((n - 1) - k)).toNatClampNeg) (M 88 ((((40 * r) + i) + ((n - 1) - k)).toNatClampNeg))), J)) (fl_n 31 rfl) <|
  fl_rfl) (fun h1 =>
  fl_tr (s' := (158, [.ref 81, .int r, .int i, .int to, .int j, .int n, .int 1, .int k, v8], [.int 1], M, J)) (fl_n 1 rfl) <|
  fl_rfl)
theorem lp_113f (M : fl_M) (J : fl_J) (r i to j n : Int32) (h1 : (¬ (r < 0)) ∧ (¬ (5 < r))) (h2 : (¬ (to < 0)) ∧ (¬ (5 < to))) (h3 : ¬ n < 0) (h4 : (¬ (i < 0)) ∧ (¬ ((M 87 r.toNatClampNeg).toInt64 < (i.toInt64 + n.toInt64)))) (h5 : (¬ (j < 0)) ∧ (¬ ((M 87 to.toNatClampNeg).toInt64 < (j.toInt64 + n.toInt64)))) (hc : ∀ q, q < 6 → (M 87 q).toInt ≤ 40) (h6 : ¬ i < j) : fl_dn fB113 (96, [.ref 81, .int r, .int i, .int to, .int j, .int n, .int 0, .int 0, .null], [], M, J) (some (.int 1), fl_k M 88 (40 * r.toNatClampNeg + i.toNatClampNeg) (40 * to.toNatClampNeg + j.toNatClampNeg) 0 n.toNatClampNeg, J) := by
  have r1 := fi_ge.mp h1.1
  have r2 := fi_ge.mp h1.2
  have t1 := fi_ge.mp h2.1
  have t2 := fi_ge.mp h2.2
  have n1 := fi_ge.mp h3
  have i1 := fi_ge.mp h4.1
  have j1 := fi_ge.mp h5.1
  have i2 := h4.2
  have j2 := h5.2
  rw [fi_span] at i2 j2
  rw [fi_i0] at r1 t1 n1 i1 j1
  rw [fi_i5] at r2 t2
  have cr := fi_cl r
  have ct := fi_cl to
  have ci := fi_cl i
  have cj := fi_cl j
  have cn := fi_cl n
  have s1 := hc r.toNatClampNeg (by omega)
  have s2 := hc to.toNatClampNeg (by omega)
  have hb := fi_bd n
  have g1 := fi_ge.mp h6
  refine fl_itd (S := fun m => (96, [.ref 81, .int r, .int i, .int to, .int j, .int n, .int 0, .int (Int32.ofNat m), (match m with | 0 => .null | m + 1 => .int (Int32.ofNat m))], [], fl_k M 88 (40 * r.toNatClampNeg + i.toNatClampNeg) (40 * to.toNatClampNeg + j.toNatClampNeg) 0 m, J)) n.toNatClampNeg (fun m hm => ?_) ?_ ?_
  · refine fl_ge (sg_113f _ J r i to j n (Int32.ofNat m) _) ?_
    have e := fi_ti (m := m) (by omega)
    have ea := fi_at (m := m) (by omega)
    rw [if_pos ((fi_lt (by omega)).mpr hm), fi_40b r1 r2 i1 (by omega) (by omega) (by omega), fi_40b t1 t2 j1 (by omega) (by omega) (by omega), ea, fi_s, fl_kf _ _ _ _ _ (by omega)]
  · rw [fl_k0]
    rfl
  · refine fl_td (sg_113f _ J r i to j n _ _) ?_
    rw [if_neg (fun z => absurd ((fi_lt (by omega)).mp z) (by omega))]
    exact fl_rt rfl (fun _ => rfl) rfl
theorem lp_113b (M : fl_M) (J : fl_J) (r i to j n : Int32) (h1 : (¬ (r < 0)) ∧ (¬ (5 < r))) (h2 : (¬ (to < 0)) ∧ (¬ (5 < to))) (h3 : ¬ n < 0) (h4 : (¬ (i < 0)) ∧ (¬ ((M 87 r.toNatClampNeg).toInt64 < (i.toInt64 + n.toInt64)))) (h5 : (¬ (j < 0)) ∧ (¬ ((M 87 to.toNatClampNeg).toInt64 < (j.toInt64 + n.toInt64)))) (hc : ∀ q, q < 6 → (M 87 q).toInt ≤ 40) (h6 : i < j) : fl_dn fB113 (96, [.ref 81, .int r, .int i, .int to, .int j, .int n, .int 1, .int 0, .null], [], M, J) (some (.int 1), fl_k M 88 (40 * r.toNatClampNeg + i.toNatClampNeg) (40 * to.toNatClampNeg + j.toNatClampNeg) 0 n.toNatClampNeg, J) := by
  have r1 := fi_ge.mp h1.1
  have r2 := fi_ge.mp h1.2
  have t1 := fi_ge.mp h2.1
  have t2 := fi_ge.mp h2.2
  have n1 := fi_ge.mp h3
  have i1 := fi_ge.mp h4.1
  have j1 := fi_ge.mp h5.1
  have i2 := h4.2
  have j2 := h5.2
  rw [fi_span] at i2 j2
  rw [fi_i0] at r1 t1 n1 i1 j1
  rw [fi_i5] at r2 t2
  have cr := fi_cl r
  have ct := fi_cl to
  have ci := fi_cl i
  have cj := fi_cl j
  have cn := fi_cl n
  have s1 := hc r.toNatClampNeg (by omega)
  have s2 := hc to.toNatClampNeg (by omega)
  have hb := fi_bd n
  have g1 := fi_l.mp h6
  refine fl_itd (S := fun m => (96, [.ref 81, .int r, .int i, .int to, .int j, .int n, .int 1, .int (Int32.ofNat m), (match m with | 0 => .null | m + 1 => .int (n - 1 - Int32.ofNat m))], [], fl_k M 88 (40 * r.toNatClampNeg + i.toNatClampNeg) (40 * to.toNatClampNeg + j.toNatClampNeg) (n.toNatClampNeg - m) n.toNatClampNeg, J)) n.toNatClampNeg (fun m hm => ?_) ?_ ?_
  · refine fl_ge (sg_113b _ J r i to j n (Int32.ofNat m) _) ?_
    have e := fi_ti (m := m) (by omega)
    have ea := fi_at (m := m) (by omega)
    have e1 : (n - 1).toInt = n.toInt - 1 := by
      rw [fi_sub (by rw [fi_i1]; omega) (by rw [fi_i1]; omega), fi_i1]
    have e2 : (n - 1 - Int32.ofNat m).toInt = n.toInt - 1 - m := by
      rw [fi_sub (by omega) (by omega), e1, e]
    have e3 : (n - 1 - Int32.ofNat m).toNatClampNeg = n.toNatClampNeg - (m + 1) := by
      rw [fi_cl, e2]
      omega
    have e4 : n.toNatClampNeg - m = n.toNatClampNeg - (m + 1) + 1 := by omega
    rw [if_pos ((fi_lt (by omega)).mpr hm), fi_40b r1 r2 i1 (by omega) (by omega) (by omega), fi_40b t1 t2 j1 (by omega) (by omega) (by omega), e3, e4, fi_s, fl_kb _ _ _ _ _ _ (by omega) (by omega)]
  · rw [show n.toNatClampNeg - 0 = n.toNatClampNeg from rfl, fl_k0]
    rfl
  · refine fl_td (sg_113b _ J r i to j n _ _) ?_
    rw [if_neg (fun z => absurd ((fi_lt (by omega)).mp z) (by omega)), Nat.sub_self]
    exact fl_rt rfl (fun _ => rfl) rfl
theorem cc_113 (M : fl_M) (J : fl_J) (r i to j n : Int32) (hc : ∀ q, q < 6 → (M 87 q).toInt ≤ 40) : fl_C 113 [.ref 81, .int r, .int i, .int to, .int j, .int n] M J (some (.int (if (¬ (r < 0)) ∧ (¬ (5 < r)) then (if (¬ (to < 0)) ∧ (¬ (5 < to)) then (if n < 0 then (-3) else (if (M 87 r.toNatClampNeg) < 0 then (-3) else (if (M 87 to.toNatClampNeg) < 0 then (-3) else (if (¬ (i < 0)) ∧ (¬ (((M 87 r.toNatClampNeg).toInt64) < (i.toInt64 + n.toInt64))) then (if (¬ (j < 0)) ∧ (¬ (((M 87 to.toNatClampNeg).toInt64) < (j.toInt64 + n.toInt64))) then (if i < j then 1 else 1) else (-3)) else (-3))))) else (-1)) else (-1))), (if (¬ (r < 0)) ∧ (¬ (5 < r)) then (if (¬ (to < 0)) ∧ (¬ (5 < to)) then (if n < 0 then (fl_u (fl_u M 81 14 5) 91 5 ((M 91 5) + 1)) else (if (M 87 r.toNatClampNeg) < 0 then (fl_u (fl_u M 81 14 1) 91 1 ((M 91 1) + 1)) else (if (M 87 to.toNatClampNeg) < 0 then (fl_u (fl_u M 81 14 1) 91 1 ((M 91 1) + 1)) else (if (¬ (i < 0)) ∧ (¬ (((M 87 r.toNatClampNeg).toInt64) < (i.toInt64 + n.toInt64))) then (if (¬ (j < 0)) ∧ (¬ (((M 87 to.toNatClampNeg).toInt64) < (j.toInt64 + n.toInt64))) then (fl_k M 88 (40 * r.toNatClampNeg + i.toNatClampNeg) (40 * to.toNatClampNeg + j.toNatClampNeg) 0 n.toNatClampNeg) else (fl_u (fl_u M 81 14 2) 91 2 ((M 91 2) + 1))) else (fl_u (fl_u M 81 14 2) 91 2 ((M 91 2) + 1)))))) else M) else M), J) :=
 fl_Co (B := fB113) rfl rfl <|
 fl_td (s' := (1, [.ref 81, .int r, .int i, .int to, .int j, .int n, .null, .null, .null], [.int r], M, J)) (fl_n 1 rfl) <|
 fl_td (s' := (4, [.ref 81, .int r, .int i, .int to, .int j, .int n, .null, .null, .null], [.int (if (¬ (r < 0)) ∧ (¬ (5 < r)) then 1 else 0)], M, J)) (fl_cs (o := some (.int (if (¬ (r < 0)) ∧ (¬ (5 < r)) then 1 else 0))) rfl rfl rfl (cc_104 M J r) rfl) <|
 fl_dnot (fl_if (t := 14) rfl rfl) fl_b0 (fun h1 =>
  fl_td (s' := (8, [.ref 81, .int r, .int i, .int to, .int j, .int n, .null, .null, .null], [.int to], M, J)) (fl_n 1 rfl) <|
  fl_td (s' := (11, [.ref 81, .int r, .int i, .int to, .int j, .int n, .null, .null, .null], [.int (if (¬ (to < 0)) ∧ (¬ (5 < to)) then 1 else 0)], M, J)) (fl_cs (o := some (.int (if (¬ (to < 0)) ∧ (¬ (5 < to)) then 1 else 0))) rfl rfl rfl (cc_104 M J to) rfl) <|
  fl_dtwo (fl_if (t := 16) rfl rfl) fl_b1 (fun h2 =>
   fl_td (s' := (18, [.ref 81, .int r, .int i, .int to, .int j, .int n, .null, .null, .null], [.int n], M, J)) (fl_n 1 rfl) <|
   fl_dnot (fl_if (t := 27) rfl rfl) fl_nlt (fun h3 =>
    fl_td (s' := (23, [.ref 81, .int r, .int i, .int to, .int j, .int n, .null, .null, .null], [.int 5, .ref 81], M, J)) (fl_n 2 rfl) <|
    fl_td (s' := (26, [.ref 81, .int r, .int i, .int to, .int j, .int n, .null, .null, .null], [.int (-3)], (fl_u (fl_u M 81 14 5) 91 5 ((M 91 5) + 1)), J)) (fl_cv (o := some (.int (-3))) rfl rfl rfl rfl (cc_106 M J 5) rfl) <|
    fl_rt rfl (fun _ => rfl) (by first | (simp only [if_pos h1, if_pos h2, if_pos h3]; done) | rfl)) (fun h3 =>
    fl_td (s' := (33, [.ref 81, .int r, .int i, .int to, .int j, .int n, .null, .null, .null], [.int (M 87 r.toNatClampNeg)], M, J)) (fl_n 4 rfl) <|
    fl_dtwo (fl_if (t := 45) rfl rfl) fl_cT (fun h4 =>
     fl_td (s' := (47, [.ref 81, .int r, .int i, .int to, .int j, .int n, .null, .null, .null], [.int 1, .ref 81], M, J)) (fl_n 2 rfl) <|
     fl_td (s' := (50, [.ref 81, .int r, .int i, .int to, .int j, .int n, .null, .null, .null], [.int (-3)], (fl_u (fl_u M 81 14 1) 91 1 ((M 91 1) + 1)), J)) (fl_cv (o := some (.int (-3))) rfl rfl rfl rfl (cc_106 M J 1) rfl) <|
     fl_rt rfl (fun _ => rfl) (by first | (simp only [if_pos h1, if_pos h2, if_neg h3, if_pos h4]; done) | rfl)) (fun h4 =>
     fl_td (s' := (42, [.ref 81, .int r, .int i, .int to, .int j, .int n, .null, .null, .null], [.int (M 87 to.toNatClampNeg)], M, J)) (fl_n 4 rfl) <|
     fl_dnot (fl_if (t := 51) rfl rfl) fl_nlt (fun h5 =>
      fl_td (s' := (47, [.ref 81, .int r, .int i, .int to, .int j, .int n, .null, .null, .null], [.int 1, .ref 81], M, J)) (fl_n 2 rfl) <|
      fl_td (s' := (50, [.ref 81, .int r, .int i, .int to, .int j, .int n, .null, .null, .null], [.int (-3)], (fl_u (fl_u M 81 14 1) 91 1 ((M 91 1) + 1)), J)) (fl_cv (o := some (.int (-3))) rfl rfl rfl rfl (cc_106 M J 1) rfl) <|
      fl_rt rfl (fun _ => rfl) (by first | (simp only [if_pos h1, if_pos h2, if_neg h3, if_neg h4, if_pos h5]; done) | rfl)) (fun h5 =>
      fl_td (s' := (56, [.ref 81, .int r, .int i, .int to, .int j, .int n, .null, .null, .null], [.int n, .int i, .int r, .ref 81], M, J)) (fl_n 4 rfl) <|
      fl_td (s' := (59, [.ref 81, .int r, .int i, .int to, .int j, .int n, .null, .null, .null], [.int (if (¬ (i < 0)) ∧ (¬ (((M 87 r.toNatClampNeg).toInt64) < (i.toInt64 + n.toInt64))) then 1 else 0)], M, J)) (fl_cv (o := some (.int (if (¬ (i < 0)) ∧ (¬ (((M 87 r.toNatClampNeg).toInt64) < (i.toInt64 + n.toInt64))) then 1 else 0))) rfl rfl rfl rfl (cc_114 M J r i n) rfl) <|
      fl_dnot (fl_if (t := 74) rfl rfl) fl_b0 (fun h6 =>
       fl_td (s' := (68, [.ref 81, .int r, .int i, .int to, .int j, .int n, .null, .null, .null], [.int n, .int j, .int to, .ref 81], M, J)) (fl_n 4 rfl) <|
       fl_td (s' := (71, [.ref 81, .int r, .int i, .int to, .int j, .int n, .null, .null, .null], [.int (if (¬ (j < 0)) ∧ (¬ (((M 87 to.toNatClampNeg).toInt64) < (j.toInt64 + n.toInt64))) then 1 else 0)], M, J)) (fl_cv (o := some (.int (if (¬ (j < 0)) ∧ (¬ (((M 87 to.toNatClampNeg).toInt64) < (j.toInt64 + n.toInt64))) then 1 else 0))) rfl rfl rfl rfl (cc_114 M J to j n) rfl) <|
       fl_dtwo (fl_if (t := 80) rfl rfl) fl_b1 (fun h7 =>
        fl_td (s' := (83, [.ref 81, .int r, .int i, .int to, .int j, .int n, .null, .null, .null], [.int j, .int i], M, J)) (fl_n 2 rfl) <|
        fl_dnot (fl_ic (t := 90) rfl rfl) fl_nlt (fun h8 =>
         fl_td (s' := (96, [.ref 81, .int r, .int i, .int to, .int j, .int n, .int 1, .int 0, .null], [], M, J)) (fl_n 5 rfl) <|
         fl_de (lp_113b M J r i to j n (by assumption) (by assumption) (by assumption) (by assumption) (by assumption) hc (by assumption)) (by first | (simp only [if_pos h1, if_pos h2, if_neg h3, if_neg h4, if_neg h5, if_pos h6, if_pos h7, if_pos h8]; done) | rfl)) (fun h8 =>
         fl_td (s' := (96, [.ref 81, .int r, .int i, .int to, .int j, .int n, .int 0, .int 0, .null], [], M, J)) (fl_n 4 rfl) <|
         fl_de (lp_113f M J r i to j n (by assumption) (by assumption) (by assumption) (by assumption) (by assumption) hc (by assumption)) (by first | (simp only [if_pos h1, if_pos h2, if_neg h3, if_neg h4, if_neg h5, if_pos h6, if_pos h7, if_neg h8]; done) | rfl))) (fun h7 =>
        fl_td (s' := (76, [.ref 81, .int r, .int i, .int to, .int j, .int n, .null, .null, .null], [.int 2, .ref 81], M, J)) (fl_n 2 rfl) <|
        fl_td (s' := (79, [.ref 81, .int r, .int i, .int to, .int j, .int n, .null, .null, .null], [.int (-3)], (fl_u (fl_u M 81 14 2) 91 2 ((M 91 2) + 1)), J)) (fl_cv (o := some (.int (-3))) rfl rfl rfl rfl (cc_106 M J 2) rfl) <|
        fl_rt rfl (fun _ => rfl) (by first | (simp only [if_pos h1, if_pos h2, if_neg h3, if_neg h4, if_neg h5, if_pos h6, if_neg h7]; done) | rfl))) (fun h6 =>
       fl_td (s' := (76, [.ref 81, .int r, .int i, .int to, .int j, .int n, .null, .null, .null], [.int 2, .ref 81], M, J)) (fl_n 2 rfl) <|
       fl_td (s' := (79, [.ref 81, .int r, .int i, .int to, .int j, .int n, .null, .null, .null], [.int (-3)], (fl_u (fl_u M 81 14 2) 91 2 ((M 91 2) + 1)), J)) (fl_cv (o := some (.int (-3))) rfl rfl rfl rfl (cc_106 M J 2) rfl) <|
       fl_rt rfl (fun _ => rfl) (by first | (simp only [if_pos h1, if_pos h2, if_neg h3, if_neg h4, if_neg h5, if_neg h6]; done) | rfl)))))) (fun h2 =>
   fl_td (s' := (15, [.ref 81, .int r, .int i, .int to, .int j, .int n, .null, .null, .null], [.int (-1)], M, J)) (fl_n 1 rfl) <|
   fl_rt rfl (fun _ => rfl) (by first | (simp only [if_pos h1, if_neg h2]; done) | rfl))) (fun h1 =>
  fl_td (s' := (15, [.ref 81, .int r, .int i, .int to, .int j, .int n, .null, .null, .null], [.int (-1)], M, J)) (fl_n 1 rfl) <|
  fl_rt rfl (fun _ => rfl) (by first | (simp only [if_neg h1]; done) | rfl))
/-! Both sides tied: rows and texts, sizes and places. -/
def ft_r (M : fl_M) : Prop := ∀ j, j < 6 → M 1 j = M 87 j ∧ ∀ i : Nat, (i : Int) < (M 1 j).toInt → M (3 + j) i = M 88 (40 * j + i)
def ft_t (M : fl_M) : Prop := ∀ j, j < 4 → M 9 j = M 89 j ∧ ∀ i : Nat, (i : Int) < (M 9 j).toInt → M (11 + j) i = M 90 (60 * j + i)
def ft (M : fl_M) : Prop := ft_r M ∧ ft_t M
def ft_g (M : fl_M) : Prop := (∀ j, j < 6 → -1 ≤ (M 1 j).toInt ∧ (M 1 j).toInt ≤ 40) ∧ (∀ j, j < 4 → -1 ≤ (M 9 j).toInt ∧ (M 9 j).toInt ≤ 60) ∧ (∀ j, j < 6 → -1 ≤ (M 87 j).toInt ∧ (M 87 j).toInt ≤ 40) ∧ (∀ j, j < 4 → -1 ≤ (M 89 j).toInt ∧ (M 89 j).toInt ≤ 60)
def ft_d (a : Nat) : Prop := a = 1 ∨ (3 ≤ a ∧ a ≤ 9) ∨ (11 ≤ a ∧ a ≤ 14) ∨ (87 ≤ a ∧ a ≤ 90)
theorem ft_cong {M M' : fl_M} (h : ∀ a, ft_d a → M' a = M a) (hT : ft M) : ft M' := by
  refine ⟨fun j hj => ?_, fun j hj => ?_⟩
  · rw [h 1 (by unfold ft_d; omega), h 87 (by unfold ft_d; omega), h (3 + j) (by unfold ft_d; omega), h 88 (by unfold ft_d; omega)]
    exact hT.1 j hj
  · rw [h 9 (by unfold ft_d; omega), h 89 (by unfold ft_d; omega), h (11 + j) (by unfold ft_d; omega), h 90 (by unfold ft_d; omega)]
    exact hT.2 j hj
theorem fl_un {M : fl_M} {a i c : Nat} {v : Int32} (h : c ≠ a) : fl_u M a i v c = M c := by
  funext j
  unfold fl_u
  rw [if_neg (fun z => h z.1)]
theorem fl_fn {M : fl_M} {a n c : Nat} {v : Int32} (h : c ≠ a) : fl_f M a n v c = M c := by
  funext j
  unfold fl_f
  rw [if_neg (fun z => h z.1)]
theorem fl_gn {M : fl_M} {a lo n c : Nat} {v : Int32} (h : c ≠ a) : fl_g M a lo n v c = M c := by
  funext j
  unfold fl_g
  rw [if_neg (fun z => h z.1)]
theorem fl_ar2 (j : Nat) : fl_ar 2 j = 3 + j := by
  unfold fl_ar
  rw [if_neg (by decide)]
theorem fl_ar10 (j : Nat) : fl_ar 10 j = 11 + j := by
  unfold fl_ar
  rw [if_neg (by decide)]
/-- refusals change nothing of it -/
theorem ft_ref {M M1 M2 : fl_M} {f g : Nat} {v w x y : Int32} (e1 : M1 = fl_u (fl_u M 0 11 v) 80 f w) (e2 : M2 = fl_u (fl_u M1 81 14 x) 91 g y) (hT : ft M) : ft M2 := by
  refine ft_cong (fun a ha => ?_) hT
  unfold ft_d at ha
  rw [e2, fl_un (by omega), fl_un (by omega), e1, fl_un (by omega), fl_un (by omega)]
theorem ft_A {r : Int32} : ((¬ (r < 0)) ∧ (¬ (5 < r))) ↔ ¬ ((r < 0) ∨ (¬ (r < 6))) := by
  rw [fi_l, fi_l, fi_l, fi_i0, fi_i5, fi_i6]
  omega
theorem ft_A3 {r : Int32} : ((¬ (r < 0)) ∧ (¬ (3 < r))) ↔ ¬ ((r < 0) ∨ (¬ (r < 4))) := by
  rw [fi_l, fi_l, fi_l, fi_i0, fi_i3, fi_i4]
  omega
theorem ft_B {s : Int32} (h : -1 ≤ s.toInt) : s < 0 ↔ s = -1 := by
  rw [fi_l, fi_e, fi_i0, fi_m1]
  omega
theorem ft_D {i s : Int32} (h : -1 ≤ s.toInt) (h2 : s.toInt ≤ 60) : ((¬ (i < 0)) ∧ (¬ (s - 1 < i))) ↔ (¬ i < 0 ∧ i < s) := by
  rw [fi_l, fi_l, fi_l, fi_sub (by rw [fi_i1]; omega) (by rw [fi_i1]; omega), fi_i0, fi_i1]
  omega
theorem ft_R {r : Int32} (h : ¬ ((r < 0) ∨ (¬ (r < 6)))) : 0 ≤ r.toInt ∧ r.toInt ≤ 5 ∧ r.toNatClampNeg < 6 := by
  rw [fi_l, fi_l, fi_i0, fi_i6] at h
  rw [fi_cl]
  omega
theorem ft_R4 {r : Int32} (h : ¬ ((r < 0) ∨ (¬ (r < 4)))) : 0 ≤ r.toInt ∧ r.toInt ≤ 3 ∧ r.toNatClampNeg < 4 := by
  rw [fi_l, fi_l, fi_i0, fi_i4] at h
  rw [fi_cl]
  omega
/-- what is asked of a pair: the class' answer and memory, the reference's -/
def ft_P (fa : fl_M → Int32) (fM : fl_M → fl_M) (ga : fl_M → Int32) (gM : fl_M → fl_M) : Prop := ∀ M M1 M2 : fl_M, ft M → ft_g M → M1 = fM M → M2 = gM M1 → (∀ a, 81 ≤ a → M1 a = M a) → (∀ a, a < 81 → M2 a = M1 a) → fa M = ga M1 ∧ ft M2
/-- a place of a row: refused by both, or by none -/
theorem ft_place {r i : Int32} {x y : fl_M → Int32} {F G : fl_M → fl_M} (hx : ∀ M M1 M2 : fl_M, ft M → ft_g M → ¬ ((r < 0) ∨ (¬ (r < 6))) → ¬ i < 0 → i < M 1 r.toNatClampNeg → M1 = F M → M2 = G M1 → (∀ a, 81 ≤ a → M1 a = M a) → (∀ a, a < 81 → M2 a = M1 a) → x M = y M1 ∧ ft M2) :
    ft_P (fun M => if (r < 0) ∨ (¬ (r < 6)) then (-1) else (if (M 1 r.toNatClampNeg) = (-1) then (-3) else (if i < 0 then (-3) else (if i < (M 1 r.toNatClampNeg) then x M else (-3)))))
      (fun M => if (r < 0) ∨ (¬ (r < 6)) then M else (if (M 1 r.toNatClampNeg) = (-1) then (fl_u (fl_u M 0 11 1) 80 1 ((M 80 1) + 1)) else (if i < 0 then (fl_u (fl_u M 0 11 2) 80 2 ((M 80 2) + 1)) else (if i < (M 1 r.toNatClampNeg) then F M else (fl_u (fl_u M 0 11 2) 80 2 ((M 80 2) + 1))))))
      (fun M => if (¬ (r < 0)) ∧ (¬ (5 < r)) then (if (M 87 r.toNatClampNeg) < 0 then (-3) else (if (¬ (i < 0)) ∧ (¬ ((M 87 r.toNatClampNeg) - 1 < i)) then y M else (-3))) else (-1))
      (fun M => if (¬ (r < 0)) ∧ (¬ (5 < r)) then (if (M 87 r.toNatClampNeg) < 0 then (fl_u (fl_u M 81 14 1) 91 1 ((M 91 1) + 1)) else (if (¬ (i < 0)) ∧ (¬ ((M 87 r.toNatClampNeg) - 1 < i)) then G M else (fl_u (fl_u M 81 14 2) 91 2 ((M 91 2) + 1)))) else M) := by
  intro M M1 M2 hT hg e1 e2 lo hi
  dsimp only at e1 e2 ⊢
  by_cases hA : (r < 0) ∨ (¬ (r < 6))
  · rw [if_pos hA] at e1
    rw [if_neg (fun z => ft_A.mp z hA)] at e2
    rw [if_pos hA, if_neg (fun z => ft_A.mp z hA)]
    exact ⟨rfl, by rw [e2, e1]; exact hT⟩
  · obtain ⟨r1, r2, r3⟩ := ft_R hA
    have g1 := hg.1 _ r3
    have es : M1 87 r.toNatClampNeg = M 1 r.toNatClampNeg := by rw [lo 87 (by decide), (hT.1 _ r3).1]
    rw [if_neg hA] at e1
    rw [if_pos (ft_A.mpr hA), es] at e2
    rw [if_neg hA, if_pos (ft_A.mpr hA), es]
    by_cases hB : M 1 r.toNatClampNeg = -1
    · rw [if_pos hB] at e1
      rw [if_pos ((ft_B g1.1).mpr hB)] at e2
      rw [if_pos hB, if_pos ((ft_B g1.1).mpr hB)]
      exact ⟨rfl, ft_ref e1 e2 hT⟩
    · rw [if_neg hB] at e1
      rw [if_neg (fun z => hB ((ft_B g1.1).mp z))] at e2
      rw [if_neg hB, if_neg (fun z => hB ((ft_B g1.1).mp z))]
      have hD := ft_D (i := i) g1.1 (by omega)
      by_cases hC : i < 0
      · rw [if_pos hC] at e1
        rw [if_neg (fun z => z.1 hC)] at e2
        rw [if_pos hC, if_neg (fun z => z.1 hC)]
        exact ⟨rfl, ft_ref e1 e2 hT⟩
      · rw [if_neg hC] at e1
        rw [if_neg hC]
        by_cases hE : i < M 1 r.toNatClampNeg
        · rw [if_pos hE] at e1
          rw [if_pos (hD.mpr ⟨hC, hE⟩)] at e2
          rw [if_pos hE, if_pos (hD.mpr ⟨hC, hE⟩)]
          exact hx M M1 M2 hT hg hA hC hE e1 e2 lo hi
        · rw [if_neg hE] at e1
          rw [if_neg (fun z => hE (hD.mp z).2)] at e2
          rw [if_neg hE, if_neg (fun z => hE (hD.mp z).2)]
          exact ⟨rfl, ft_ref e1 e2 hT⟩
/-- a place written on both sides -/
theorem ft_lay {M M1 M2 : fl_M} {R I : Nat} {v x y : Int32} (hT : ft M) (hg : ft_g M) (hR : R < 6) (hI : (I : Int) < (M 1 R).toInt) (e1 : M1 = fl_u (fl_u M (3 + R) I v) 0 12 x) (e2 : M2 = fl_u (fl_u M1 88 (40 * R + I) v) 81 11 y) (lo : ∀ a, 81 ≤ a → M1 a = M a) (hi : ∀ a, a < 81 → M2 a = M1 a) : ft M2 := by
  refine ⟨fun j hj => ?_, ?_⟩
  · have g1 := hg.1 j hj
    have g2 := hg.1 R hR
    have c1 : M1 1 = M 1 := by rw [e1, fl_un (by decide), fl_un (by omega)]
    have c87 : M2 87 = M 87 := by rw [e2, fl_un (by decide), fl_un (by decide), lo 87 (by decide)]
    rw [hi 1 (by decide), c1, c87]
    refine ⟨(hT.1 j hj).1, fun q hq => ?_⟩
    have h2 := (hT.1 j hj).2 q hq
    have a1 : M1 (3 + j) = fl_u M (3 + R) I v (3 + j) := by rw [e1, fl_un (by omega)]
    have a2 : M2 88 = fl_u M1 88 (40 * R + I) v 88 := by rw [e2, fl_un (by decide)]
    rw [hi (3 + j) (by omega), a1, a2]
    unfold fl_u
    rw [lo 88 (by decide), ← h2]
    by_cases h : j = R ∧ q = I
    · rw [if_pos ⟨by omega, h.2⟩, if_pos ⟨rfl, by omega⟩]
    · rw [if_neg (by omega), if_neg (by omega)]
  · have k : ∀ a, (a = 9 ∨ (11 ≤ a ∧ a ≤ 14) ∨ (89 ≤ a ∧ a ≤ 90)) → M2 a = M a := by
      intro a ha
      rcases Nat.lt_or_ge a 81 with h | h
      · rw [hi a h, e1, fl_un (by omega), fl_un (by omega)]
      · rw [e2, fl_un (by omega), fl_un (by omega), lo a h]
    intro j hj
    rw [k 9 (by omega), k 89 (by omega), k (11 + j) (by omega), k 90 (by omega)]
    exact hT.2 j hj
theorem ft_layP (r i v : Int32) : ft_P (fun M => if (r < 0) ∨ (¬ (r < 6)) then (-1) else (if (M 1 r.toNatClampNeg) = (-1) then (-3) else (if i < 0 then (-3) else (if i < (M 1 r.toNatClampNeg) then 1 else (-3)))))
      (fun M => if (r < 0) ∨ (¬ (r < 6)) then M else (if (M 1 r.toNatClampNeg) = (-1) then (fl_u (fl_u M 0 11 1) 80 1 ((M 80 1) + 1)) else (if i < 0 then (fl_u (fl_u M 0 11 2) 80 2 ((M 80 2) + 1)) else (if i < (M 1 r.toNatClampNeg) then (fl_u (fl_u M (fl_ar 2 r.toNatClampNeg) i.toNatClampNeg v) 0 12 (M (fl_ar 2 r.toNatClampNeg) i.toNatClampNeg)) else (fl_u (fl_u M 0 11 2) 80 2 ((M 80 2) + 1))))))
      (fun M => if (¬ (r < 0)) ∧ (¬ (5 < r)) then (if (M 87 r.toNatClampNeg) < 0 then (-3) else (if (¬ (i < 0)) ∧ (¬ ((M 87 r.toNatClampNeg) - 1 < i)) then 1 else (-3))) else (-1))
      (fun M => if (¬ (r < 0)) ∧ (¬ (5 < r)) then (if (M 87 r.toNatClampNeg) < 0 then (fl_u (fl_u M 81 14 1) 91 1 ((M 91 1) + 1)) else (if (¬ (i < 0)) ∧ (¬ ((M 87 r.toNatClampNeg) - 1 < i)) then (fl_u (fl_u M 88 (((40 * r) + i).toNatClampNeg) v) 81 11 (M 88 (((40 * r) + i).toNatClampNeg))) else (fl_u (fl_u M 81 14 2) 91 2 ((M 91 2) + 1)))) else M) := by
  refine ft_place (x := fun _ => 1) (y := fun _ => 1) (fun M M1 M2 hT hg hA hC hE e1 e2 lo hi => ⟨rfl, ?_⟩)
  obtain ⟨r1, r2, r3⟩ := ft_R hA
  have g1 := hg.1 _ r3
  have c1 := fi_ge.mp hC
  have c2 := fi_l.mp hE
  rw [fi_i0] at c1
  have c3 := fi_cl i
  rw [fi_40 r1 r2 c1 (by omega)] at e2
  rw [fl_ar2] at e1
  exact ft_lay hT hg r3 (by omega) e1 e2 lo hi
theorem ft_atP (r i : Int32) : ft_P (fun M => if (r < 0) ∨ (¬ (r < 6)) then (-1) else (if (M 1 r.toNatClampNeg) = (-1) then (-3) else (if i < 0 then (-3) else (if i < (M 1 r.toNatClampNeg) then 1 else (-3)))))
      (fun M => if (r < 0) ∨ (¬ (r < 6)) then M else (if (M 1 r.toNatClampNeg) = (-1) then (fl_u (fl_u M 0 11 1) 80 1 ((M 80 1) + 1)) else (if i < 0 then (fl_u (fl_u M 0 11 2) 80 2 ((M 80 2) + 1)) else (if i < (M 1 r.toNatClampNeg) then (fl_u M 0 12 (M (fl_ar 2 r.toNatClampNeg) i.toNatClampNeg)) else (fl_u (fl_u M 0 11 2) 80 2 ((M 80 2) + 1))))))
      (fun M => if (¬ (r < 0)) ∧ (¬ (5 < r)) then (if (M 87 r.toNatClampNeg) < 0 then (-3) else (if (¬ (i < 0)) ∧ (¬ ((M 87 r.toNatClampNeg) - 1 < i)) then 1 else (-3))) else (-1))
      (fun M => if (¬ (r < 0)) ∧ (¬ (5 < r)) then (if (M 87 r.toNatClampNeg) < 0 then (fl_u (fl_u M 81 14 1) 91 1 ((M 91 1) + 1)) else (if (¬ (i < 0)) ∧ (¬ ((M 87 r.toNatClampNeg) - 1 < i)) then (fl_u M 81 11 (M 88 (((40 * r) + i).toNatClampNeg))) else (fl_u (fl_u M 81 14 2) 91 2 ((M 91 2) + 1)))) else M) := by
  refine ft_place (x := fun _ => 1) (y := fun _ => 1) (fun M M1 M2 hT hg hA hC hE e1 e2 lo hi => ⟨rfl, ?_⟩)
  refine ft_cong (fun a ha => ?_) hT
  unfold ft_d at ha
  rw [e2, fl_un (by omega), e1, fl_un (by omega)]
/-- a row's size written on both sides; the row is filled with v as far as n -/
theorem ft_size {M M1 M2 : fl_M} {R : Nat} {n v : Int32} (hT : ft M) (hR : R < 6) (h1 : n.toInt ≤ 40) (e1 : ∀ a, a ≠ 1 → a ≠ 3 + R → M1 a = M a) (s1 : ∀ j, M1 1 j = if j = R then n else M 1 j) (f1 : ∀ q : Nat, (q : Int) < n.toInt → M1 (3 + R) q = v)
    (e2 : ∀ a, 81 ≤ a → a ≠ 87 → a ≠ 88 → M2 a = M1 a) (s2 : ∀ j, M2 87 j = if j = R then n else M1 87 j) (f2 : ∀ q : Nat, (q : Int) < n.toInt → M2 88 (40 * R + q) = v) (g2 : ∀ q, ¬ (40 * R ≤ q ∧ q < 40 * R + 40) → M2 88 q = M1 88 q) (lo : ∀ a, 81 ≤ a → M1 a = M a) (hi : ∀ a, a < 81 → M2 a = M1 a) (hg : ft_g M) : ft M2 := by
  refine ⟨fun j hj => ?_, fun j hj => ?_⟩
  · have hs := hT.1 j hj
    have g1 := hg.1 j hj
    rw [hi 1 (by decide), s1, s2, lo 87 (by decide)]
    by_cases hjR : j = R
    · subst hjR
      rw [if_pos rfl, if_pos rfl]
      refine ⟨rfl, fun q hq => ?_⟩
      rw [hi (3 + j) (by omega), f1 q hq, f2 q hq]
    · rw [if_neg hjR, if_neg hjR]
      refine ⟨hs.1, fun q hq => ?_⟩
      rw [hi (3 + j) (by omega), e1 (3 + j) (by omega) (by omega), g2 _ (by omega), lo 88 (by decide)]
      exact hs.2 q hq
  · rw [hi 9 (by decide), e1 9 (by decide) (by omega), e2 89 (by decide) (by decide) (by decide), lo 89 (by decide), hi (11 + j) (by omega), e1 (11 + j) (by omega) (by omega), e2 90 (by decide) (by decide) (by decide), lo 90 (by decide)]
    exact hT.2 j hj
theorem ft_tearP (r : Int32) : ft_P (fun M => if (r < 0) ∨ (¬ (r < 6)) then (-1) else (if (M 1 r.toNatClampNeg) = (-1) then (-3) else 1))
      (fun M => if (r < 0) ∨ (¬ (r < 6)) then M else (if (M 1 r.toNatClampNeg) = (-1) then (fl_u (fl_u M 0 11 1) 80 1 ((M 80 1) + 1)) else (fl_u M 1 r.toNatClampNeg (-1))))
      (fun M => if (¬ (r < 0)) ∧ (¬ (5 < r)) then (if (M 87 r.toNatClampNeg) < 0 then (-3) else 1) else (-1))
      (fun M => if (¬ (r < 0)) ∧ (¬ (5 < r)) then (if (M 87 r.toNatClampNeg) < 0 then (fl_u (fl_u M 81 14 1) 91 1 ((M 91 1) + 1)) else (fl_u M 87 r.toNatClampNeg (-1))) else M) := by
  intro M M1 M2 hT hg e1 e2 lo hi
  dsimp only at e1 e2 ⊢
  by_cases hA : (r < 0) ∨ (¬ (r < 6))
  · rw [if_pos hA] at e1
    rw [if_neg (fun z => ft_A.mp z hA)] at e2
    rw [if_pos hA, if_neg (fun z => ft_A.mp z hA)]
    exact ⟨rfl, by rw [e2, e1]; exact hT⟩
  · obtain ⟨r1, r2, r3⟩ := ft_R hA
    have g1 := hg.1 _ r3
    have es : M1 87 r.toNatClampNeg = M 1 r.toNatClampNeg := by rw [lo 87 (by decide), (hT.1 _ r3).1]
    rw [if_neg hA] at e1
    rw [if_pos (ft_A.mpr hA), es] at e2
    rw [if_neg hA, if_pos (ft_A.mpr hA), es]
    by_cases hB : M 1 r.toNatClampNeg = -1
    · rw [if_pos hB] at e1
      rw [if_pos ((ft_B g1.1).mpr hB)] at e2
      rw [if_pos hB, if_pos ((ft_B g1.1).mpr hB)]
      exact ⟨rfl, ft_ref e1 e2 hT⟩
    · rw [if_neg hB] at e1
      rw [if_neg (fun z => hB ((ft_B g1.1).mp z))] at e2
      rw [if_neg hB, if_neg (fun z => hB ((ft_B g1.1).mp z))]
      refine ⟨rfl, ft_size (n := -1) (v := 0) hT r3 (by rw [fi_m1]; decide) (fun a h1 _ => by rw [e1, fl_un h1]) (fun j => by rw [e1]; unfold fl_u; simp) (fun q hq => by rw [fi_m1] at hq; omega) (fun a _ h1 _ => by rw [e2, fl_un h1]) (fun j => by rw [e2]; unfold fl_u; simp) (fun q hq => by rw [fi_m1] at hq; omega) (fun q _ => by rw [e2, fl_un (by decide)]) lo hi hg⟩
theorem ft_rowP (r n : Int32) : ft_P (fun M => if (r < 0) ∨ (¬ (r < 6)) then (-1) else (if 40 < n then (-1) else (if n < 0 then (-3) else n)))
      (fun M => if (r < 0) ∨ (¬ (r < 6)) then M else (if 40 < n then M else (if n < 0 then (fl_u (fl_u M 0 11 5) 80 5 ((M 80 5) + 1)) else (fl_u (fl_f M (fl_ar 2 r.toNatClampNeg) n.toNatClampNeg 0) 1 r.toNatClampNeg n))))
      (fun M => if (¬ (r < 0)) ∧ (¬ (5 < r)) then (if 40 < n then (-1) else (if n < 0 then (-3) else n)) else (-1))
      (fun M => if (¬ (r < 0)) ∧ (¬ (5 < r)) then (if 40 < n then M else (if n < 0 then (fl_u (fl_u M 81 14 5) 91 5 ((M 91 5) + 1)) else (fl_g (fl_u M 87 r.toNatClampNeg n) 88 (40 * r.toNatClampNeg) 40 0))) else M) := by
  intro M M1 M2 hT hg e1 e2 lo hi
  dsimp only at e1 e2 ⊢
  by_cases hA : (r < 0) ∨ (¬ (r < 6))
  · rw [if_pos hA] at e1
    rw [if_neg (fun z => ft_A.mp z hA)] at e2
    rw [if_pos hA, if_neg (fun z => ft_A.mp z hA)]
    exact ⟨rfl, by rw [e2, e1]; exact hT⟩
  · obtain ⟨r1, r2, r3⟩ := ft_R hA
    rw [if_neg hA] at e1
    rw [if_pos (ft_A.mpr hA)] at e2
    rw [if_neg hA, if_pos (ft_A.mpr hA)]
    refine ⟨rfl, ?_⟩
    by_cases hB : 40 < n
    · rw [if_pos hB] at e1 e2
      rw [e2, e1]
      exact hT
    · rw [if_neg hB] at e1 e2
      by_cases hC : n < 0
      · rw [if_pos hC] at e1 e2
        exact ft_ref e1 e2 hT
      · rw [if_neg hC] at e1 e2
        have b1 := fi_ge.mp hB
        have b2 := fi_ge.mp hC
        rw [fi_i40] at b1
        rw [fi_i0] at b2
        have b3 := fi_cl n
        rw [fl_ar2] at e1
        refine ft_size (n := n) (v := 0) hT r3 b1 (fun a h1 h2 => by rw [e1, fl_un h1, fl_fn h2]) (fun j => by rw [e1]; unfold fl_u; rw [fl_fn (show 1 ≠ 3 + r.toNatClampNeg by omega)]; simp) (fun q hq => by rw [e1, fl_un (by omega)]; unfold fl_f; rw [if_pos ⟨rfl, by omega⟩]) (fun a _ h1 h2 => by rw [e2, fl_gn h2, fl_un h1]) (fun j => by rw [e2, fl_gn (by decide)]; unfold fl_u; simp) (fun q hq => by rw [e2]; unfold fl_g; rw [if_pos ⟨rfl, by omega⟩]) (fun q hq => by rw [e2]; unfold fl_g; rw [if_neg (fun z => hq z.2), fl_un (by decide)]) lo hi hg
/-- a text's size written on both sides; the row is filled with v as far as n -/
theorem ft_sizeT {M M1 M2 : fl_M} {R : Nat} {n v : Int32} (hT : ft M) (hR : R < 4) (h1 : n.toInt ≤ 60) (e1 : ∀ a, a ≠ 9 → a ≠ 11 + R → M1 a = M a) (s1 : ∀ j, M1 9 j = if j = R then n else M 9 j) (f1 : ∀ q : Nat, (q : Int) < n.toInt → M1 (11 + R) q = v)
    (e2 : ∀ a, 81 ≤ a → a ≠ 89 → a ≠ 90 → M2 a = M1 a) (s2 : ∀ j, M2 89 j = if j = R then n else M1 89 j) (f2 : ∀ q : Nat, (q : Int) < n.toInt → M2 90 (60 * R + q) = v) (g2 : ∀ q, ¬ (60 * R ≤ q ∧ q < 60 * R + 60) → M2 90 q = M1 90 q) (lo : ∀ a, 81 ≤ a → M1 a = M a) (hi : ∀ a, a < 81 → M2 a = M1 a) (hg : ft_g M) : ft M2 := by
  refine ⟨fun j hj => ?_, fun j hj => ?_⟩
  · rw [hi 1 (by decide), e1 1 (by decide) (by omega), e2 87 (by decide) (by decide) (by decide), lo 87 (by decide), hi (3 + j) (by omega), e1 (3 + j) (by omega) (by omega), e2 88 (by decide) (by decide) (by decide), lo 88 (by decide)]
    exact hT.1 j hj
  · have hs := hT.2 j hj
    have g1 := hg.2.1 j hj
    rw [hi 9 (by decide), s1, s2, lo 89 (by decide)]
    by_cases hjR : j = R
    · subst hjR
      rw [if_pos rfl, if_pos rfl]
      refine ⟨rfl, fun q hq => ?_⟩
      rw [hi (11 + j) (by omega), f1 q hq, f2 q hq]
    · rw [if_neg hjR, if_neg hjR]
      refine ⟨hs.1, fun q hq => ?_⟩
      rw [hi (11 + j) (by omega), e1 (11 + j) (by omega) (by omega), g2 _ (by omega), lo 90 (by decide)]
      exact hs.2 q hq
theorem ft_textP (r n : Int32) : ft_P (fun M => if (r < 0) ∨ (¬ (r < 4)) then (-1) else (if 60 < n then (-1) else (if n < 0 then (-3) else n)))
      (fun M => if (r < 0) ∨ (¬ (r < 4)) then M else (if 60 < n then M else (if n < 0 then (fl_u (fl_u M 0 11 5) 80 5 ((M 80 5) + 1)) else (fl_u (fl_f M (fl_ar 10 r.toNatClampNeg) n.toNatClampNeg 32) 9 r.toNatClampNeg n))))
      (fun M => if (¬ (r < 0)) ∧ (¬ (3 < r)) then (if 60 < n then (-1) else (if n < 0 then (-3) else n)) else (-1))
      (fun M => if (¬ (r < 0)) ∧ (¬ (3 < r)) then (if 60 < n then M else (if n < 0 then (fl_u (fl_u M 81 14 5) 91 5 ((M 91 5) + 1)) else (fl_g (fl_u M 89 r.toNatClampNeg n) 90 (60 * r.toNatClampNeg) 60 32))) else M) := by
  intro M M1 M2 hT hg e1 e2 lo hi
  dsimp only at e1 e2 ⊢
  by_cases hA : (r < 0) ∨ (¬ (r < 4))
  · rw [if_pos hA] at e1
    rw [if_neg (fun z => ft_A3.mp z hA)] at e2
    rw [if_pos hA, if_neg (fun z => ft_A3.mp z hA)]
    exact ⟨rfl, by rw [e2, e1]; exact hT⟩
  · obtain ⟨r1, r2, r3⟩ := ft_R4 hA
    rw [if_neg hA] at e1
    rw [if_pos (ft_A3.mpr hA)] at e2
    rw [if_neg hA, if_pos (ft_A3.mpr hA)]
    refine ⟨rfl, ?_⟩
    by_cases hB : 60 < n
    · rw [if_pos hB] at e1 e2
      rw [e2, e1]
      exact hT
    · rw [if_neg hB] at e1 e2
      by_cases hC : n < 0
      · rw [if_pos hC] at e1 e2
        exact ft_ref e1 e2 hT
      · rw [if_neg hC] at e1 e2
        have b1 := fi_ge.mp hB
        have b2 := fi_ge.mp hC
        rw [fi_i60] at b1
        rw [fi_i0] at b2
        have b3 := fi_cl n
        rw [fl_ar10] at e1
        refine ft_sizeT (n := n) (v := 32) hT r3 b1 (fun a h1 h2 => by rw [e1, fl_un h1, fl_fn h2]) (fun j => by rw [e1]; unfold fl_u; rw [fl_fn (show 9 ≠ 11 + r.toNatClampNeg by omega)]; simp) (fun q hq => by rw [e1, fl_un (by omega)]; unfold fl_f; rw [if_pos ⟨rfl, by omega⟩]) (fun a _ h1 h2 => by rw [e2, fl_gn h2, fl_un h1]) (fun j => by rw [e2, fl_gn (by decide)]; unfold fl_u; simp) (fun q hq => by rw [e2]; unfold fl_g; rw [if_pos ⟨rfl, by omega⟩]) (fun q hq => by rw [e2]; unfold fl_g; rw [if_neg (fun z => hq z.2), fl_un (by decide)]) lo hi hg
theorem ft_nar (v : Int32) : vp_nar .byte v.toInt8.toInt32 = v.toInt8.toInt32 := by
  show v.toInt8.toInt32.toInt8.toInt32 = _
  rw [Int8.toInt8_toInt32]
/-- put -/
theorem ft_putP (t i v : Int32) : ft_P (fun M => if (t < 0) ∨ (¬ (t < 4)) then (-1) else (if (M 9 t.toNatClampNeg) = (-1) then (-3) else (if i < 0 then (-3) else (if i < (M 9 t.toNatClampNeg) then (M (fl_ar 10 t.toNatClampNeg) i.toNatClampNeg) + 1000 else (-3)))))
      (fun M => if (t < 0) ∨ (¬ (t < 4)) then M else (if (M 9 t.toNatClampNeg) = (-1) then (fl_u (fl_u M 0 11 1) 80 1 ((M 80 1) + 1)) else (if i < 0 then (fl_u (fl_u M 0 11 2) 80 2 ((M 80 2) + 1)) else (if i < (M 9 t.toNatClampNeg) then (fl_u M (fl_ar 10 t.toNatClampNeg) i.toNatClampNeg (vp_nar .byte v.toInt8.toInt32)) else (fl_u (fl_u M 0 11 2) 80 2 ((M 80 2) + 1))))))
      (fun M => if (¬ (t < 0)) ∧ (¬ (3 < t)) then (if (M 89 t.toNatClampNeg) < 0 then (-3) else (if (¬ (i < 0)) ∧ (¬ ((M 89 t.toNatClampNeg) - 1 < i)) then (M 90 (((60 * t) + i).toNatClampNeg)) + 1000 else (-3))) else (-1))
      (fun M => if (¬ (t < 0)) ∧ (¬ (3 < t)) then (if (M 89 t.toNatClampNeg) < 0 then (fl_u (fl_u M 81 14 1) 91 1 ((M 91 1) + 1)) else (if (¬ (i < 0)) ∧ (¬ ((M 89 t.toNatClampNeg) - 1 < i)) then (fl_u M 90 (((60 * t) + i).toNatClampNeg) v.toInt8.toInt32) else (fl_u (fl_u M 81 14 2) 91 2 ((M 91 2) + 1)))) else M) := by
  intro M M1 M2 hT hg e1 e2 lo hi
  dsimp only at e1 e2 ⊢
  by_cases hA : (t < 0) ∨ (¬ (t < 4))
  · rw [if_pos hA] at e1
    rw [if_neg (fun z => ft_A3.mp z hA)] at e2
    rw [if_pos hA, if_neg (fun z => ft_A3.mp z hA)]
    exact ⟨rfl, by rw [e2, e1]; exact hT⟩
  · obtain ⟨r1, r2, r3⟩ := ft_R4 hA
    have g1 := hg.2.1 _ r3
    have es : M1 89 t.toNatClampNeg = M 9 t.toNatClampNeg := by rw [lo 89 (by decide), (hT.2 _ r3).1]
    rw [if_neg hA] at e1
    rw [if_pos (ft_A3.mpr hA), es] at e2
    rw [if_neg hA, if_pos (ft_A3.mpr hA), es]
    by_cases hB : M 9 t.toNatClampNeg = -1
    · rw [if_pos hB] at e1
      rw [if_pos ((ft_B g1.1).mpr hB)] at e2
      rw [if_pos hB, if_pos ((ft_B g1.1).mpr hB)]
      exact ⟨rfl, ft_ref e1 e2 hT⟩
    · rw [if_neg hB] at e1
      rw [if_neg (fun z => hB ((ft_B g1.1).mp z))] at e2
      rw [if_neg hB, if_neg (fun z => hB ((ft_B g1.1).mp z))]
      have hD := ft_D (i := i) g1.1 (by omega)
      by_cases hC : i < 0
      · rw [if_pos hC] at e1
        rw [if_neg (fun z => z.1 hC)] at e2
        rw [if_pos hC, if_neg (fun z => z.1 hC)]
        exact ⟨rfl, ft_ref e1 e2 hT⟩
      · rw [if_neg hC] at e1
        rw [if_neg hC]
        by_cases hE : i < M 9 t.toNatClampNeg
        · rw [if_pos hE] at e1
          rw [if_pos (hD.mpr ⟨hC, hE⟩)] at e2
          rw [if_pos hE, if_pos (hD.mpr ⟨hC, hE⟩)]
          have c1 := fi_ge.mp hC
          have c2 := fi_l.mp hE
          rw [fi_i0] at c1
          have c3 := fi_cl i
          have ix := fi_60 (k := i) r1 r2 c1 (by omega)
          rw [ix] at e2 ⊢
          rw [fl_ar10] at e1 ⊢
          rw [ft_nar] at e1
          refine ⟨by rw [lo 90 (by decide), (hT.2 _ r3).2 i.toNatClampNeg (by omega)], ?_⟩
          have k : ∀ a, (a = 1 ∨ (3 ≤ a ∧ a ≤ 9) ∨ (87 ≤ a ∧ a ≤ 89)) → M2 a = M a := by
            intro a ha
            rcases Nat.lt_or_ge a 81 with h | h
            · rw [hi a h, e1, fl_un (by omega)]
            · rw [e2, fl_un (by omega), lo a h]
          refine ⟨fun j hj => ?_, fun j hj => ?_⟩
          · rw [k 1 (by omega), k 87 (by omega), k (3 + j) (by omega), k 88 (by omega)]
            exact hT.1 j hj
          · have g2 := hg.2.1 j hj
            rw [k 9 (by omega), k 89 (by omega)]
            refine ⟨(hT.2 j hj).1, fun q hq => ?_⟩
            have h2 := (hT.2 j hj).2 q hq
            rw [hi (11 + j) (by omega), e1, e2]
            unfold fl_u
            rw [lo 90 (by decide), ← h2]
            by_cases h : j = t.toNatClampNeg ∧ q = i.toNatClampNeg
            · rw [if_pos ⟨by omega, h.2⟩, if_pos ⟨rfl, by omega⟩]
            · rw [if_neg (by omega), if_neg (by omega)]
        · rw [if_neg hE] at e1
          rw [if_neg (fun z => hE (hD.mp z).2)] at e2
          rw [if_neg hE, if_neg (fun z => hE (hD.mp z).2)]
          exact ⟨rfl, ft_ref e1 e2 hT⟩
/-- mean: nothing of the rows changes -/
theorem ft_meanP (r : Int32) : ft_P (fun M => if (r < 0) ∨ (¬ (r < 6)) then (-1) else (if (M 1 r.toNatClampNeg) = (-1) then (-3) else (if 0 < (M 1 r.toNatClampNeg) then 1 else (-3))))
      (fun M => if (r < 0) ∨ (¬ (r < 6)) then M else (if (M 1 r.toNatClampNeg) = (-1) then (fl_u (fl_u M 0 11 1) 80 1 ((M 80 1) + 1)) else (if 0 < (M 1 r.toNatClampNeg) then (fl_u M 0 12 (fl_sm (M (fl_ar 2 r.toNatClampNeg)) (M 1 r.toNatClampNeg).toNatClampNeg / (M 1 r.toNatClampNeg).toInt64).toInt32) else (fl_u (fl_u M 0 11 4) 80 4 ((M 80 4) + 1)))))
      (fun M => if (¬ (r < 0)) ∧ (¬ (5 < r)) then (if (M 87 r.toNatClampNeg) < 0 then (-3) else (if (M 87 r.toNatClampNeg) = 0 then (-3) else 1)) else (-1))
      (fun M => if (¬ (r < 0)) ∧ (¬ (5 < r)) then (if (M 87 r.toNatClampNeg) < 0 then (fl_u (fl_u M 81 14 1) 91 1 ((M 91 1) + 1)) else (if (M 87 r.toNatClampNeg) = 0 then (fl_u (fl_u M 81 14 4) 91 4 ((M 91 4) + 1)) else (fl_u M 81 11 (fl_sm (fun k => M 88 (40 * r.toNatClampNeg + k)) (M 87 r.toNatClampNeg).toNatClampNeg / (M 87 r.toNatClampNeg).toInt64).toInt32))) else M) := by
  intro M M1 M2 hT hg e1 e2 lo hi
  dsimp only at e1 e2 ⊢
  by_cases hA : (r < 0) ∨ (¬ (r < 6))
  · rw [if_pos hA] at e1
    rw [if_neg (fun z => ft_A.mp z hA)] at e2
    rw [if_pos hA, if_neg (fun z => ft_A.mp z hA)]
    exact ⟨rfl, by rw [e2, e1]; exact hT⟩
  · obtain ⟨r1, r2, r3⟩ := ft_R hA
    have g1 := hg.1 _ r3
    have es : M1 87 r.toNatClampNeg = M 1 r.toNatClampNeg := by rw [lo 87 (by decide), (hT.1 _ r3).1]
    rw [if_neg hA] at e1
    rw [if_pos (ft_A.mpr hA), es] at e2
    rw [if_neg hA, if_pos (ft_A.mpr hA), es]
    by_cases hB : M 1 r.toNatClampNeg = -1
    · rw [if_pos hB] at e1
      rw [if_pos ((ft_B g1.1).mpr hB)] at e2
      rw [if_pos hB, if_pos ((ft_B g1.1).mpr hB)]
      exact ⟨rfl, ft_ref e1 e2 hT⟩
    · rw [if_neg hB] at e1
      rw [if_neg (fun z => hB ((ft_B g1.1).mp z))] at e2
      rw [if_neg hB, if_neg (fun z => hB ((ft_B g1.1).mp z))]
      have h0 : M 1 r.toNatClampNeg = 0 ↔ ¬ 0 < M 1 r.toNatClampNeg := by
        rw [fi_e, fi_m1] at hB
        rw [fi_e, fi_l, fi_i0]
        omega
      by_cases hC : 0 < M 1 r.toNatClampNeg
      · rw [if_pos hC] at e1
        rw [if_neg (fun z => h0.mp z hC)] at e2
        rw [if_pos hC, if_neg (fun z => h0.mp z hC)]
        refine ⟨rfl, ft_cong (fun a ha => ?_) hT⟩
        unfold ft_d at ha
        rw [e2, fl_un (by omega), e1, fl_un (by omega)]
      · rw [if_neg hC] at e1
        rw [if_pos (h0.mpr hC)] at e2
        rw [if_neg hC, if_pos (h0.mpr hC)]
        exact ⟨rfl, ft_ref e1 e2 hT⟩
theorem ft_S {i n s : Int32} (h : -1 ≤ s.toInt) (h2 : s.toInt ≤ 60) (hn : ¬ n < 0) : ((¬ (i < 0)) ∧ (¬ ((s.toInt64) < (i.toInt64 + n.toInt64)))) ↔ ¬ ((i < 0) ∨ ((s - n) < i)) := by
  have n1 := fi_ge.mp hn
  rw [fi_i0] at n1
  have n2 := n.toInt_lt
  rw [fi_span, fi_l, fi_l, fi_sub (by omega) (by omega), fi_i0]
  omega
/-- a stretch copied on both sides -/
theorem ft_cpy {M M1 M2 : fl_M} {R T I K N : Nat} (hT : ft M) (hg : ft_g M) (hR : R < 6) (hTo : T < 6) (hI : (I : Int) + N ≤ (M 1 R).toInt) (hK : (K : Int) + N ≤ (M 1 T).toInt) (e1 : M1 = fl_y M (3 + R) I (3 + T) K N) (e2 : M2 = fl_k M1 88 (40 * R + I) (40 * T + K) 0 N) (lo : ∀ a, 81 ≤ a → M1 a = M a) (hi : ∀ a, a < 81 → M2 a = M1 a) : ft M2 := by
  have gR := hg.1 R hR
  have gT := hg.1 T hTo
  have n1 : ∀ a, a ≠ 3 + T → M1 a = M a := by
    intro a ha
    rw [e1]
    funext q
    unfold fl_y
    rw [if_neg (fun z => ha z.1)]
  have n2 : ∀ a, 81 ≤ a → a ≠ 88 → M2 a = M a := by
    intro a h1 ha
    rw [← lo a h1, e2]
    funext q
    unfold fl_k
    rw [if_neg (fun z => ha z.1)]
  refine ⟨fun j hj => ?_, fun j hj => ?_⟩
  · have gj := hg.1 j hj
    rw [hi 1 (by decide), n1 1 (by omega), n2 87 (by decide) (by decide)]
    refine ⟨(hT.1 j hj).1, fun q hq => ?_⟩
    have h2 := (hT.1 j hj).2 q hq
    have l88 := lo 88 (by decide)
    rw [hi (3 + j) (by omega), e2, e1]
    unfold fl_k
    rw [← e1, l88, e1]
    unfold fl_y
    by_cases h : j = T ∧ K ≤ q ∧ q < K + N
    · rw [if_pos ⟨by omega, h.2⟩, if_pos ⟨rfl, by omega⟩]
      have h3 := (hT.1 R hR).2 (I + (q - K)) (by omega)
      rw [h3]
      congr 1
      omega
    · rw [if_neg (by omega), if_neg (by omega)]
      exact h2
  · rw [hi 9 (by decide), n1 9 (by omega), n2 89 (by decide) (by decide), hi (11 + j) (by omega), n1 (11 + j) (by omega), n2 90 (by decide) (by decide)]
    exact hT.2 j hj
theorem ft_copyP (r i to j n : Int32) : ft_P (fun M => if (r < 0) ∨ (¬ (r < 6)) then (-1) else (if (to < 0) ∨ (¬ (to < 6)) then (-1) else (if n < 0 then (-3) else (if (M 1 r.toNatClampNeg) = (-1) then (-3) else (if (M 1 to.toNatClampNeg) = (-1) then (-3) else (if (i < 0) ∨ (((M 1 r.toNatClampNeg) - n) < i) then (-3) else (if (j < 0) ∨ (((M 1 to.toNatClampNeg) - n) < j) then (-3) else 1)))))))
    (fun M => if (r < 0) ∨ (¬ (r < 6)) then M else (if (to < 0) ∨ (¬ (to < 6)) then M else (if n < 0 then (fl_u (fl_u M 0 11 5) 80 5 ((M 80 5) + 1)) else (if (M 1 r.toNatClampNeg) = (-1) then (fl_u (fl_u M 0 11 1) 80 1 ((M 80 1) + 1)) else (if (M 1 to.toNatClampNeg) = (-1) then (fl_u (fl_u M 0 11 1) 80 1 ((M 80 1) + 1)) else (if (i < 0) ∨ (((M 1 r.toNatClampNeg) - n) < i) then (fl_u (fl_u M 0 11 2) 80 2 ((M 80 2) + 1)) else (if (j < 0) ∨ (((M 1 to.toNatClampNeg) - n) < j) then (fl_u (fl_u M 0 11 2) 80 2 ((M 80 2) + 1)) else (fl_y M (fl_ar 2 r.toNatClampNeg) i.toNatClampNeg (fl_ar 2 to.toNatClampNeg) j.toNatClampNeg n.toNatClampNeg))))))))
    (fun M => if (¬ (r < 0)) ∧ (¬ (5 < r)) then (if (¬ (to < 0)) ∧ (¬ (5 < to)) then (if n < 0 then (-3) else (if (M 87 r.toNatClampNeg) < 0 then (-3) else (if (M 87 to.toNatClampNeg) < 0 then (-3) else (if (¬ (i < 0)) ∧ (¬ (((M 87 r.toNatClampNeg).toInt64) < (i.toInt64 + n.toInt64))) then (if (¬ (j < 0)) ∧ (¬ (((M 87 to.toNatClampNeg).toInt64) < (j.toInt64 + n.toInt64))) then (if i < j then 1 else 1) else (-3)) else (-3))))) else (-1)) else (-1))
    (fun M => if (¬ (r < 0)) ∧ (¬ (5 < r)) then (if (¬ (to < 0)) ∧ (¬ (5 < to)) then (if n < 0 then (fl_u (fl_u M 81 14 5) 91 5 ((M 91 5) + 1)) else (if (M 87 r.toNatClampNeg) < 0 then (fl_u (fl_u M 81 14 1) 91 1 ((M 91 1) + 1)) else (if (M 87 to.toNatClampNeg) < 0 then (fl_u (fl_u M 81 14 1) 91 1 ((M 91 1) + 1)) else (if (¬ (i < 0)) ∧ (¬ (((M 87 r.toNatClampNeg).toInt64) < (i.toInt64 + n.toInt64))) then (if (¬ (j < 0)) ∧ (¬ (((M 87 to.toNatClampNeg).toInt64) < (j.toInt64 + n.toInt64))) then (fl_k M 88 (40 * r.toNatClampNeg + i.toNatClampNeg) (40 * to.toNatClampNeg + j.toNatClampNeg) 0 n.toNatClampNeg) else (fl_u (fl_u M 81 14 2) 91 2 ((M 91 2) + 1))) else (fl_u (fl_u M 81 14 2) 91 2 ((M 91 2) + 1)))))) else M) else M) := by
  intro M M1 M2 hT hg e1 e2 lo hi
  dsimp only at e1 e2 ⊢
  have hM : ∀ {M2 : fl_M}, M2 = M1 → M1 = M → ft M2 := fun a b => by rw [a, b]; exact hT
  by_cases hA : (r < 0) ∨ (¬ (r < 6))
  · rw [if_pos hA] at e1
    rw [if_neg (fun z => ft_A.mp z hA)] at e2
    rw [if_pos hA, if_neg (fun z => ft_A.mp z hA)]
    exact ⟨rfl, hM e2 e1⟩
  by_cases hA' : (to < 0) ∨ (¬ (to < 6))
  · rw [if_neg hA, if_pos hA'] at e1
    rw [if_pos (ft_A.mpr hA), if_neg (fun z => ft_A.mp z hA')] at e2
    rw [if_neg hA, if_pos hA', if_pos (ft_A.mpr hA), if_neg (fun z => ft_A.mp z hA')]
    exact ⟨rfl, hM e2 e1⟩
  obtain ⟨r1, r2, r3⟩ := ft_R hA
  obtain ⟨t1, t2, t3⟩ := ft_R hA'
  have g1 := hg.1 _ r3
  have g2 := hg.1 _ t3
  have es : M1 87 r.toNatClampNeg = M 1 r.toNatClampNeg := by rw [lo 87 (by decide), (hT.1 _ r3).1]
  have et : M1 87 to.toNatClampNeg = M 1 to.toNatClampNeg := by rw [lo 87 (by decide), (hT.1 _ t3).1]
  rw [if_neg hA, if_neg hA'] at e1
  rw [if_pos (ft_A.mpr hA), if_pos (ft_A.mpr hA'), es, et] at e2
  rw [if_neg hA, if_neg hA', if_pos (ft_A.mpr hA), if_pos (ft_A.mpr hA'), es, et]
  by_cases hN : n < 0
  · rw [if_pos hN] at e1 e2
    rw [if_pos hN, if_pos hN]
    exact ⟨rfl, ft_ref e1 e2 hT⟩
  rw [if_neg hN] at e1 e2
  rw [if_neg hN, if_neg hN]
  by_cases hB : M 1 r.toNatClampNeg = -1
  · rw [if_pos hB] at e1
    rw [if_pos ((ft_B g1.1).mpr hB)] at e2
    rw [if_pos hB, if_pos ((ft_B g1.1).mpr hB)]
    exact ⟨rfl, ft_ref e1 e2 hT⟩
  rw [if_neg hB] at e1
  rw [if_neg (fun z => hB ((ft_B g1.1).mp z))] at e2
  rw [if_neg hB, if_neg (fun z => hB ((ft_B g1.1).mp z))]
  by_cases hB' : M 1 to.toNatClampNeg = -1
  · rw [if_pos hB'] at e1
    rw [if_pos ((ft_B g2.1).mpr hB')] at e2
    rw [if_pos hB', if_pos ((ft_B g2.1).mpr hB')]
    exact ⟨rfl, ft_ref e1 e2 hT⟩
  rw [if_neg hB'] at e1
  rw [if_neg (fun z => hB' ((ft_B g2.1).mp z))] at e2
  rw [if_neg hB', if_neg (fun z => hB' ((ft_B g2.1).mp z))]
  have hS := ft_S (i := i) g1.1 (by omega) hN
  have hS' := ft_S (i := j) g2.1 (by omega) hN
  by_cases hC : (i < 0) ∨ (((M 1 r.toNatClampNeg) - n) < i)
  · rw [if_pos hC] at e1
    rw [if_neg (fun z => hS.mp z hC)] at e2
    rw [if_pos hC, if_neg (fun z => hS.mp z hC)]
    exact ⟨rfl, ft_ref e1 e2 hT⟩
  rw [if_neg hC] at e1
  rw [if_pos (hS.mpr hC)] at e2
  rw [if_neg hC, if_pos (hS.mpr hC)]
  by_cases hC' : (j < 0) ∨ (((M 1 to.toNatClampNeg) - n) < j)
  · rw [if_pos hC'] at e1
    rw [if_neg (fun z => hS'.mp z hC')] at e2
    rw [if_pos hC', if_neg (fun z => hS'.mp z hC')]
    exact ⟨rfl, ft_ref e1 e2 hT⟩
  rw [if_neg hC'] at e1
  rw [if_pos (hS'.mpr hC')] at e2
  rw [if_neg hC', if_pos (hS'.mpr hC')]
  refine ⟨by split <;> rfl, ?_⟩
  have a1 := hS.mpr hC
  have a2 := hS'.mpr hC'
  rw [fi_span] at a1 a2
  have b1 := fi_ge.mp a1.1
  have b2 := fi_ge.mp a2.1
  have b3 := fi_ge.mp hN
  rw [fi_i0] at b1 b2 b3
  have c1 := fi_cl i
  have c2 := fi_cl j
  have c3 := fi_cl n
  rw [fl_ar2, fl_ar2] at e1
  exact ft_cpy hT hg r3 t3 (by omega) (by omega) e1 e2 lo hi
/-! Both sides one after the other, tied. -/
theorem ex_le {d d' k : Nat} {vs : List Value} {h h' : List va_E} {o : Option Value} (hd : d ≤ d') (x : sm_Ex 200 sm_ML sm_B d k vs h o h') : sm_Ex 200 sm_ML sm_B d' k vs h o h' := by
  induction hd with
  | refl => exact x
  | step _ ih => exact sm_Ex_succ _ _ _ _ _ _ ih
theorem fm_same {h h' : List va_E} {a : Nat} (e : h'[a]? = h[a]?) : fm_i h' a = fm_i h a := by
  funext i
  unfold fm_i
  rw [e]
def lw_T (h : List va_E) : Prop := lw_I h ∧ fl_sh h ∧ ft (fm_i h)
theorem ft_rng {H : aw_H} {h : List va_E} (hh : fl_sh h) (hw : aw_h H h) {c n : Nat} {lo hi : Int} {m : Nat} (hc : (c, .inr (.inl (0, n, [(0, m, [(lo, hi)])], []))) ∈ H) : ∀ j, j < m + 1 → lo ≤ (fm_i h c j).toInt ∧ (fm_i h c j).toInt ≤ hi := by
  intro j hj
  obtain ⟨e, he, f, rfl, h1, -⟩ := hw _ hc
  have g := h1 _ (List.mem_singleton.mpr rfl) j (Nat.zero_le _) (show j ≤ m by omega)
  rw [fm_i_arr hh he]
  exact ar_1 g
theorem ft_gI {h : List va_E} (hI : lw_I h) (hh : fl_sh h) : ft_g (fm_i h) := by
  obtain ⟨hp, hk, m, hm, hw⟩ := hI
  have hG := ah_sub_s (mwm_G m hm) hw
  exact ⟨ft_rng hh hk (c := 1) (n := 6) (lo := -1) (hi := 40) (m := 5) (by unfold kw; simp), ft_rng hh hk (c := 9) (n := 4) (lo := -1) (hi := 60) (m := 3) (by unfold kw; simp), ft_rng hh hG (c := 87) (n := 6) (lo := -1) (hi := 40) (m := 5) (by unfold mwG mw; simp), ft_rng hh hG (c := 89) (n := 4) (lo := -1) (hi := 60) (m := 3) (by unfold mwG mw; simp)⟩
def pr_c (b : Bool) (w1 w2 : Value) : Prop := w1.category = (if b then 2 else 1) ∧ w2.category = (if b then 2 else 1)
def pr_e (w1 w2 : Value) : Prop := ∃ x : Int32, w1 = .int x ∧ w2 = .int x
def pr_ok (P : Value → Value → Prop) (kc km : Nat) (vs : List Value) : Prop := ∀ h, lw_T h → ∃ w1 h1 w2 h2, sm_Ex 200 sm_ML sm_B 12 kc (.ref 0 :: vs) h (some w1) h1 ∧ sm_Ex 200 sm_ML sm_B 12 km (.ref 81 :: vs) h1 (some w2) h2 ∧ P w1 w2 ∧ (∀ a, 81 ≤ a → h1[a]? = h[a]?) ∧ ps_h h1 ∧ lw_T h2
theorem pr_ec {kc km : Nat} {vs : List Value} (h : pr_ok pr_e kc km vs) : pr_ok (pr_c false) kc km vs := by
  intro H hT
  obtain ⟨w1, h1, w2, h2, x1, x2, ⟨v, rfl, rfl⟩, x4, x5, x6⟩ := h H hT
  exact ⟨_, h1, _, h2, x1, x2, ⟨rfl, rfl⟩, x4, x5, x6⟩
/-- a pair whose answers and memory are known -/
theorem pf_ok {kc km : Nat} {vs : List Value} {Sc Sm : List Nat} {fa ga : fl_M → Int32} {fM gM : fl_M → fl_M} (hk : kd_ok false kc Sc (.ref 0 :: vs)) (hm : md_ok false km Sm (.ref 81 :: vs)) (hP : ft_P fa fM ga gM) (hF : ∀ (M : fl_M) (J : fl_J), ft_g M → fl_C kc (.ref 0 :: vs) M J (some (.int (fa M)), fM M, J)) (hG : ∀ (M : fl_M) (J : fl_J), ft_g M → fl_C km (.ref 81 :: vs) M J (some (.int (ga M)), gM M, J)) : pr_ok pr_e kc km vs := by
  intro h hT
  obtain ⟨hI, hs, ht⟩ := hT
  have hg := ft_gI hI hs
  obtain ⟨hp, hkw, m, hm5, hmw⟩ := hI
  obtain ⟨o1, h1, x1, x2, x3, x4, w1, rfl, c1⟩ := hk h hkw hp
  have lo : ∀ a, 81 ≤ a → h1[a]? = h[a]? := fun a ha => x3 a (Or.inl ha)
  have hmw1 := mw_same hmw lo
  obtain ⟨o2, h2, y1, y2, y3, y4, w2, rfl, c2⟩ := hm m h1 hm5 hmw1 x2
  have hi : ∀ a, a < 81 → h2[a]? = h1[a]? := fun a ha => y3 a (Or.inl ha)
  obtain ⟨s1, a1, m1, -⟩ := fl_use x1 hs (hF _ _ hg)
  have hg1 : ft_g (fm_i h1) := ft_gI ⟨x2, x4, m, hm5, hmw1⟩ s1
  obtain ⟨s2, a2, m2, -⟩ := fl_use y1 s1 (hG _ _ hg1)
  obtain ⟨e, t2⟩ := hP (fm_i h) (fm_i h1) (fm_i h2) ht hg m1 m2 (fun a ha => fm_same (lo a ha)) (fun a ha => fm_same (hi a ha))
  cases a1
  cases a2
  exact ⟨_, h1, _, h2, x1, y1, ⟨_, rfl, by rw [e]⟩, lo, x2, ⟨y2, kw_same x4 hi, y4⟩, s2, t2⟩
/-- a pair that leaves all of it alone -/
theorem pr_d {b : Bool} {kc km : Nat} {vs : List Value} {Sc Sm : List Nat} (hk : kd_ok b kc Sc (.ref 0 :: vs)) (hm : md_ok b km Sm (.ref 81 :: vs)) (sc : ∀ a ∈ ([1, 3, 4, 5, 6, 7, 8, 9, 11, 12, 13, 14] : List Nat), a ∈ Sc) (sm : ∀ a ∈ ([87, 88, 89, 90] : List Nat), a ∈ Sm) : pr_ok (pr_c b) kc km vs := by
  intro h hT
  obtain ⟨⟨hp, hkw, m, hm5, hmw⟩, hs, ht⟩ := hT
  obtain ⟨o1, h1, x1, x2, x3, x4, w1, rfl, c1⟩ := hk h hkw hp
  have lo : ∀ a, 81 ≤ a → h1[a]? = h[a]? := fun a ha => x3 a (Or.inl ha)
  have hmw1 := mw_same hmw lo
  obtain ⟨o2, h2, y1, y2, y3, y4, w2, rfl, c2⟩ := hm m h1 hm5 hmw1 x2
  have hi : ∀ a, a < 81 → h2[a]? = h1[a]? := fun a ha => y3 a (Or.inl ha)
  obtain ⟨s1, -⟩ := fl_all 12 _ _ _ _ _ x1 hs
  obtain ⟨s2, -⟩ := fl_all 12 _ _ _ _ _ y1 s1
  refine ⟨w1, h1, w2, h2, x1, y1, ⟨c1, c2⟩, lo, x2, ⟨y2, kw_same x4 hi, y4⟩, s2, ft_cong (fun a ha => ?_) ht⟩
  unfold ft_d at ha
  rcases Nat.lt_or_ge a 81 with h81 | h81
  · refine fm_same ((hi a h81).trans (x3 a (Or.inr (sc a ?_))))
    simp only [List.mem_cons, List.not_mem_nil, or_false]
    omega
  · refine fm_same ((y3 a (Or.inr (sm a ?_))).trans (lo a h81))
    simp only [List.mem_cons, List.not_mem_nil, or_false]
    omega
section PRS
variable {xs : Nat → Int32} {i : Nat}
theorem pr_rowE : pr_ok pr_e 0 103 (la_vs xs i 2 1) := pf_ok kd0 md0 (ft_rowP (xs (i + 1)) (xs (i + 2))) (fun M J _ => cc_0 M J _ _) (fun M J _ => cc_103 M J _ _)
theorem pr_layE : pr_ok pr_e 3 108 (la_vs xs i 3 1) := pf_ok kd1 md1 (ft_layP (xs (i + 1)) (xs (i + 2)) (xs (i + 3))) (fun M J _ => cc_3 M J _ _ _) (fun M J _ => cc_108 M J _ _ _)
theorem pr_atE : pr_ok pr_e 6 111 (la_vs xs i 2 1) := pf_ok kd2 md2 (ft_atP (xs (i + 1)) (xs (i + 2))) (fun M J _ => cc_6 M J _ _) (fun M J _ => cc_111 M J _ _)
theorem pr_tearE : pr_ok pr_e 7 112 (la_vs xs i 1 1) := pf_ok kd3 md3 (ft_tearP (xs (i + 1))) (fun M J _ => cc_7 M J _) (fun M J _ => cc_112 M J _)
theorem pr_copyE : pr_ok pr_e 8 113 (la_vs xs i 5 1) := pf_ok kd4 md4 (ft_copyP (xs (i + 1)) (xs (i + 2)) (xs (i + 3)) (xs (i + 4)) (xs (i + 5))) (fun M J _ => cc_8 M J _ _ _ _ _) (fun M J g => cc_113 M J _ _ _ _ _ (fun q hq => (g.2.2.1 q hq).2))
theorem pr_meanE : pr_ok pr_e 10 115 (la_vs xs i 1 1) := pf_ok kd5 md5 (ft_meanP (xs (i + 1))) (fun M J _ => cc_10 M J _) (fun M J g => cc_115 M J _ (fun q hq => (g.2.2.1 q hq).2))
theorem pr_textE : pr_ok pr_e 11 116 (la_vs xs i 2 1) := pf_ok kd6 md6 (ft_textP (xs (i + 1)) (xs (i + 2))) (fun M J _ => cc_11 M J _ _) (fun M J _ => cc_116 M J _ _)
theorem pr_putE : pr_ok pr_e 13 118 (la_vs xs i 3 1) := pf_ok kd7 md7 (ft_putP (xs (i + 1)) (xs (i + 2)) (xs (i + 3))) (fun M J _ => cc_13 M J _ _ _) (fun M J _ => cc_118 M J _ _ _)
end PRS
