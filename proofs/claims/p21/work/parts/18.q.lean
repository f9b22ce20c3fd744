/-! Chances. -/
theorem ix_c {α γ : Type} {f : Nat → α → γ ⊕ α} (hf : ∀ m q, f m q = f 0 q) (n : Nat) (a : α) : fx_ix f (n + 1) a = match f 0 a with
    | .inl c => .inl c
    | .inr b => fx_ix f n b := by
  induction n with
  | zero =>
    have e : fx_ix f 1 a = f 0 a := ix_s1 (m := 0) (b := a) rfl rfl
    rw [e]
    cases f 0 a <;> rfl
  | succ n ih =>
    cases h0 : f 0 a with
    | inl c =>
      rw [h0] at ih
      exact ix_l ih (Nat.le_succ _)
    | inr b =>
      rw [h0] at ih
      have ih : fx_ix f (n + 1) a = fx_ix f n b := ih
      show fx_ix f (n + 1 + 1) a = fx_ix f (n + 1) b
      cases h1 : fx_ix f n b with
      | inl c =>
        rw [h1] at ih
        rw [ix_l ih (Nat.le_succ _), ix_l h1 (Nat.le_succ _)]
      | inr d =>
        rw [h1] at ih
        rw [ix_s1 ih rfl, ix_s1 h1 rfl, hf (n + 1), hf n]
theorem i64_z {x : Int64} : x = 0 ↔ x.toInt = 0 := by
  rw [← Int64.toInt_inj]
  rfl
theorem eu_f : ∀ (n m : Nat) (x y : Int64), 0 ≤ x.toInt → 0 ≤ y.toInt → y.toInt < n → y.toInt < m → eu n x y = eu m x y := by
  intro n
  induction n with
  | zero => intro m x y _ h1 h2; omega
  | succ n ih =>
    intro m x y hx hy h1 h2
    cases m with
    | zero => omega
    | succ m =>
      unfold eu
      by_cases c : y = 0
      · rw [if_pos c, if_pos c]
      · rw [if_neg c, if_neg c]
        have y0 : y.toInt ≠ 0 := fun z => c (i64_z.mpr z)
        have e := eu_rem hx (show 0 < y.toInt by omega)
        have e1 := Int.emod_nonneg x.toInt y0
        have e2 := Int.emod_lt_of_pos x.toInt (show 0 < y.toInt by omega)
        exact ih m _ _ hy (by omega) (by omega) (by omega)
theorem eg_0 {x y : Int64} (h : y = 0) : eg x y = x := by
  unfold eg eu
  rw [if_pos h]
theorem eg_s {x y : Int64} (hx : 0 ≤ x.toInt) (hy : 0 < y.toInt) : eg x y = eg y (x - x / y * y) := by
  have e := eu_rem hx hy
  have e1 := Int.emod_nonneg x.toInt (show y.toInt ≠ 0 by omega)
  have e2 := Int.emod_lt_of_pos x.toInt hy
  unfold eg
  rw [show eu (y.toInt.toNat + 1) x y = eu y.toInt.toNat y (x - x / y * y) by
    conv => lhs; unfold eu
    rw [if_neg (fun z => by rw [i64_z] at z; omega)]]
  exact eu_f _ _ _ _ (by omega) (by omega) (by omega) (by omega)
theorem eg_p : ∀ (n : Nat) (x y : Int64), 0 ≤ x.toInt → 0 ≤ y.toInt → 0 < x.toInt + y.toInt → y.toInt < n → 0 < (eg x y).toInt := by
  intro n
  induction n with
  | zero => intro x y _ h1 _ h2; omega
  | succ n ih =>
    intro x y hx hy hs hn
    by_cases c : y = 0
    · have y0 := i64_z.mp c
      rw [eg_0 c]
      omega
    · have y0 : y.toInt ≠ 0 := fun z => c (i64_z.mpr z)
      have e := eu_rem hx (show 0 < y.toInt by omega)
      have e1 := Int.emod_nonneg x.toInt y0
      have e2 := Int.emod_lt_of_pos x.toInt (show 0 < y.toInt by omega)
      rw [eg_s hx (by omega)]
      exact ih _ _ hy (by omega) (by omega) (by omega)
theorem l79_0 (q : Int64 × Int64) (m : Nat) : ls_79_9 m q = ls_79_9 0 q := rfl
/-- the class' divisions are enough: each two of them halve the rest -/
theorem l79_e : ∀ (k : Nat) (x y : Int64) (n : Nat), 0 ≤ x.toInt → 0 ≤ y.toInt → y.toInt < 2 ^ k → 2 * k + 1 ≤ n → ∃ z, fx_ix ls_79_9 n (x, y) = .inl z ∧ z.1 = eg x y := by
  intro k
  induction k with
  | zero =>
    intro x y n hx hy hk hn
    have y0 : y = 0 := i64_z.mpr (by omega)
    obtain ⟨n', rfl⟩ : ∃ n', n = n' + 1 := ⟨n - 1, by omega⟩
    have f0 : ls_79_9 0 (x, y) = .inl (x, y) := by
      unfold ls_79_9
      rw [if_neg (fun z => by rw [Int64.lt_iff_toInt_lt] at z; have : (0 : Int64).toInt = 0 := rfl; have : (x, y).2.toInt = y.toInt := rfl; omega)]
    refine ⟨(x, y), ?_, (eg_0 y0).symm⟩
    rw [ix_c (fun m q => l79_0 q m), f0]
  | succ k ih =>
    intro x y n hx hy hk hn
    obtain ⟨n', rfl⟩ : ∃ n', n = n' + 1 := ⟨n - 1, by omega⟩
    by_cases c : y = 0
    · have f0 : ls_79_9 0 (x, y) = .inl (x, y) := by
        unfold ls_79_9
        rw [if_neg (fun z => by rw [c] at z; exact absurd (show (0 : Int64) < 0 from z) (by decide))]
      exact ⟨(x, y), by rw [ix_c (fun m q => l79_0 q m), f0], (eg_0 c).symm⟩
    · have y0 : y.toInt ≠ 0 := fun z => c (i64_z.mpr z)
      have yp : 0 < y := by rw [Int64.lt_iff_toInt_lt]; have : (0 : Int64).toInt = 0 := rfl; omega
      have f0 : ls_79_9 0 (x, y) = .inr (y, x - x / y * y) := by
        unfold ls_79_9
        rw [if_pos yp]
      have e := eu_rem hx (show 0 < y.toInt by omega)
      have e1 := Int.emod_nonneg x.toInt y0
      have e2 := Int.emod_lt_of_pos x.toInt (show 0 < y.toInt by omega)
      rw [ix_c (fun m q => l79_0 q m), f0, eg_s hx (by omega)]
      dsimp only
      generalize x - x / y * y = r at *
      obtain ⟨n2, rfl⟩ : ∃ n2, n' = n2 + 1 := ⟨n' - 1, by omega⟩
      by_cases c2 : r = 0
      · have f1 : ls_79_9 0 (y, r) = .inl (y, r) := by
          unfold ls_79_9
          rw [if_neg (fun z => by rw [c2] at z; exact absurd (show (0 : Int64) < 0 from z) (by decide))]
        exact ⟨(y, r), by rw [ix_c (fun m q => l79_0 q m), f1], (eg_0 c2).symm⟩
      · have r0 : r.toInt ≠ 0 := fun z => c2 (i64_z.mpr z)
        have rp : 0 < r := by rw [Int64.lt_iff_toInt_lt]; have : (0 : Int64).toInt = 0 := rfl; omega
        have f1 : ls_79_9 0 (y, r) = .inr (r, y - y / r * r) := by
          unfold ls_79_9
          rw [if_pos rp]
        have g := eu_rem hy (show 0 < r.toInt by omega)
        have g1 := Int.emod_nonneg y.toInt r0
        have g2 := Int.emod_lt_of_pos y.toInt (show 0 < r.toInt by omega)
        have g3 : 2 * (y.toInt % r.toInt) ≤ y.toInt := by
          have d := Int.emod_def y.toInt r.toInt
          have dq : 1 ≤ y.toInt / r.toInt := by
            rw [Int.le_ediv_iff_mul_le (by omega)]
            omega
          have dm : r.toInt * 1 ≤ r.toInt * (y.toInt / r.toInt) := Int.mul_le_mul_of_nonneg_left dq (by omega)
          omega
        have k2 : (2 : Int) ^ (k + 1) = 2 * 2 ^ k := by rw [Int.pow_succ, Int.mul_comm]
        rw [ix_c (fun m q => l79_0 q m), f1, eg_s hy (by omega)]
        exact ih r _ n2 (by omega) (by omega) (by omega) (by omega)
theorem l79_eg {x y : Int64} (hx : 0 ≤ x.toInt) (hy : 0 ≤ y.toInt) (h9 : y.toInt ≤ 20736) : (lr_79_9 x y).1 = eg x y := by
  obtain ⟨z, e, e2⟩ := l79_e 15 x y 100 hx hy (by omega) (by decide)
  unfold lr_79_9 lq_79_9
  rw [e]
  exact e2
/-- parts told alike -/
theorem tp_e {x y : Int64} (hx : 0 ≤ x.toInt) (hy : 0 < y.toInt) (h9 : y.toInt ≤ 20736) {J J' : fl_J} : jd (j_78 x y J) (fl_w (fl_w J' 81 12 (x / eg x y)) 81 13 (y / eg x y)) := by
  have e := l79_eg hx (by omega) h9
  have p := eg_p (y.toInt.toNat + 1) x y hx (by omega) (by omega) (by omega)
  unfold j_78
  rw [e, if_pos (by rw [Int64.lt_iff_toInt_lt]; exact p)]
  unfold jd
  rw [fl_wo (Or.inr (by decide)), fl_ws, fl_ws, fl_wo (Or.inr (by decide)), fl_ws, fl_ws]
  exact ⟨rfl, rfl⟩
/-- a set's weight, and that of all -/
def wt (k : Nat) (p s : Int32) : Int64 := fx_it (ls_85_5 s p) k 1
def wa (k : Nat) : Int64 := fx_it ls_86_4 k 1
theorem wt_b : ∀ k, k < 5 → ∀ p, p < 13 → ∀ s, s < 16 → 0 ≤ (wt k (Int32.ofNat p) (Int32.ofNat s)).toInt ∧ (wt k (Int32.ofNat p) (Int32.ofNat s)).toInt ≤ 20736 := by decide +kernel
theorem wt_s : ∀ k, k < 5 → ∀ p, p < 13 → fx_it (fun m q => q + wt k (Int32.ofNat p) (Int32.ofNat m)) (2 ^ k) 0 = wa k ∧ 0 < (wa k).toInt ∧ (wa k).toInt ≤ 20736 := by decide +kernel
