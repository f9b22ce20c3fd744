/-! What was done, and done again: the class does the deeds anew, the reference keeps what was. -/
/-- the past is kept -/
theorem kp_eq {R : fl_M} {n : Nat} (hn : (R 82 0).toInt = n) (h4 : n < 40) : ∀ c j, lr_149_2 R c j = if c = 82 ∧ 24 + 23 * n ≤ j ∧ j < 24 + 23 * n + 23 then R 82 (1 + (j - (24 + 23 * n))) else R c j := by
  unfold lr_149_2 lq_149_2
  refine cp_it (fun m q hm hq => ?_) (Or.inr (by omega))
  have en := fi_at (m := m) (by omega)
  have em := fi_ti (m := m) (by omega)
  have e0 : q 82 0 = R 82 0 := hq 0 (by omega)
  have e1 : (23 * (R 82 0) : Int32).toInt = ((23 * n : Nat) : Int) := by
    rw [fi_mul (by rw [hn, show (23 : Int32).toInt = 23 from rfl]; omega) (by rw [hn, show (23 : Int32).toInt = 23 from rfl]; omega), hn, show (23 : Int32).toInt = 23 from rfl]
    omega
  have e2 := fj_pa (x := 24) (y := 23 * (R 82 0)) (a := 24) (c := 23 * n) rfl e1 (by omega)
  have e3 := fj_pa (x := 24 + 23 * (R 82 0)) (y := Int32.ofNat m) e2 em (by omega)
  have e4 := fj_pa (x := 1) (y := Int32.ofNat m) (a := 1) (c := m) rfl em (by omega)
  unfold ls_149_2
  rw [e0, fj_nn e3, fj_nn e4]
/-- where what was behind n deeds of sz lies -/
def hb (b sz n : Nat) : Nat := if n < sz then b + 23 + 23 * n else b
/-- from one deed to the next -/
def ch_w (D b : Nat) (C R : fl_M) (sz : Nat) : Prop :=
  (∀ n, n < sz → ∀ M : fl_M, tr 15 (hb b sz n) M R → tr 15 (hb b sz (n + 1)) (m_45 (C (D + 1) n) (C (D + 2) n) (C (D + 3) n) 15 M) R)
/-- the first of all: the lines whole, the mice where they began -/
def ch_f (x : Nat) (C R : fl_M) : Prop := R 82 (x + 1) = 0 ∧ R 82 (x + 2) = -9 ∧ R 82 (x + 3) = 0 ∧
  (∀ l, l < (C 15 0).toNatClampNeg → R 82 (x + 4 + l) = R 84 l ∧ 0 ≤ (R 84 l).toInt ∧ (R 84 l).toInt ≤ 40) ∧ (∀ l, l < 8 → R 82 (x + 12 + l) = 0) ∧
  (∀ i, i < (C 15 1).toNatClampNeg → R 82 (x + 20 + i) = C 22 i ∧ 0 ≤ (C 22 i).toInt ∧ (C 22 i).toInt < (C 15 0).toInt)
def ch (D b : Nat) (C R : fl_M) (sz : Nat) : Prop := ch_w D b C R sz ∧ ch_f (hb b sz 0) C R
/-- what is read of the reference's row, moved -/
theorem ch_mv {D b D' b' sz : Nat} {C R C' R' : fl_M} (h : ch D b C R sz) (h4 : sz ≤ 40) (h8 : (C 15 0).toNatClampNeg ≤ 8 ∧ (C 15 1).toNatClampNeg ≤ 4) (r1 : R' 81 1 = R 81 1) (r4 : R' 81 4 = R 81 4) (eR : ∀ k, (83 ≤ k ∧ k ≤ 86) → R' k = R k) (hbb : ∀ j, 1 ≤ j → j < 944 → R' 82 (b' + j) = R 82 (b + j)) (hD : ∀ n, n < sz → C' (D' + 1) n = C (D + 1) n ∧ C' (D' + 2) n = C (D + 2) n ∧ C' (D' + 3) n = C (D + 3) n) (e0 : C' 15 0 = C 15 0) (e1 : C' 15 1 = C 15 1) (e22 : C' 22 = C 22) : ch D' b' C' R' sz := by
  have hx : ∀ n k, 1 ≤ k → k < 24 → R' 82 (hb b' sz n + k) = R 82 (hb b sz n + k) := by
    intro n k h1 h2
    unfold hb
    by_cases hn : n < sz
    · rw [if_pos hn, if_pos hn]
      have a := hbb (23 + 23 * n + k) (by omega) (by omega)
      rw [show b' + 23 + 23 * n + k = b' + (23 + 23 * n + k) by omega, a, show b + 23 + 23 * n + k = b + (23 + 23 * n + k) by omega]
    · rw [if_neg hn, if_neg hn]
      exact hbb k h1 (by omega)
  obtain ⟨hw, f1, f2, f3, f4, f5, f6⟩ := h
  refine ⟨fun n hn M hM => ?_, ?_⟩
  · obtain ⟨d1, d2, d3⟩ := hD n hn
    rw [d1, d2, d3]
    have g1 : tr 15 (hb b sz n) M R := tr_rc hM r1.symm r4.symm (fun k hk => (eR k hk).symm) (fun k h1 h2 => (hx n k h1 h2).symm)
    exact tr_rc (hw n hn M g1) r1 r4 eR (fun k h1 h2 => hx (n + 1) k h1 h2)
  · have y := hx 0
    unfold ch_f
    rw [e0, e1, e22, y 1 (by omega) (by omega), y 2 (by omega) (by omega), y 3 (by omega) (by omega), eR 84 (by omega)]
    refine ⟨f1, f2, f3, fun l hl => ?_, fun l hl => ?_, fun i hi => ?_⟩
    · have a1 := y (4 + l) (by omega) (by omega)
      rw [← Nat.add_assoc, ← Nat.add_assoc] at a1
      rw [a1]
      exact f4 l hl
    · have a1 := y (12 + l) (by omega) (by omega)
      rw [← Nat.add_assoc, ← Nat.add_assoc] at a1
      rw [a1]
      exact f5 l hl
    · have a1 := y (20 + i) (by omega) (by omega)
      rw [← Nat.add_assoc, ← Nat.add_assoc] at a1
      rw [a1]
      exact f6 i hi
/-- one deed more -/
theorem ch_add {wh li am : Int32} {n : Nat} {C R C' R1 R' : fl_M} (h : ch 42 0 C R n) (hn : n < 40) (h8 : (C 15 0).toNatClampNeg ≤ 8 ∧ (C 15 1).toNatClampNeg ≤ 4)
    (k1 : ∀ c, c ≠ 82 → R1 c = R c) (k2 : ∀ j, 1 ≤ j → j < 944 → R1 82 j = if 24 + 23 * n ≤ j ∧ j < 24 + 23 * n + 23 then R 82 (1 + (j - (24 + 23 * n))) else R 82 j)
    (r1 : ∀ c, c ≠ 82 → c ≤ 86 → R' c = R1 c) (r2 : ∀ j, 24 ≤ j → j < 944 → R' 82 j = R1 82 j)
    (hop : ∀ M, tr 15 0 M R1 → tr 15 0 (m_45 wh li am 15 M) R')
    (hD : ∀ m, m < n → C' (42 + 1) m = C (42 + 1) m ∧ C' (42 + 2) m = C (42 + 2) m ∧ C' (42 + 3) m = C (42 + 3) m) (d1 : C' (42 + 1) n = wh) (d2 : C' (42 + 2) n = li) (d3 : C' (42 + 3) n = am)
    (e0 : C' 15 0 = C 15 0) (e1 : C' 15 1 = C 15 1) (e22 : C' 22 = C 22) : ch 42 0 C' R' (n + 1) := by
  have q : ∀ c, c ≠ 82 → c ≤ 86 → R' c = R c := fun c h1 h2 => by rw [r1 c h1 h2, k1 c h1]
  have s1 : R' 81 1 = R 81 1 := by rw [q 81 (by omega) (by omega)]
  have s4 : R' 81 4 = R 81 4 := by rw [q 81 (by omega) (by omega)]
  have sR : ∀ k, (83 ≤ k ∧ k ≤ 86) → R' k = R k := fun k hk => q k (by omega) (by omega)
  have hx : ∀ m k, m ≤ n → 1 ≤ k → k < 24 → R' 82 (hb 0 (n + 1) m + k) = R 82 (hb 0 n m + k) := by
    intro m k hm h1 h2
    unfold hb
    rw [if_pos (show m < n + 1 by omega), r2 _ (by omega) (by omega), k2 _ (by omega) (by omega)]
    by_cases hmn : m < n
    · rw [if_pos hmn, if_neg (by omega)]
    · have e : m = n := by omega
      subst e
      rw [if_neg hmn, if_pos (by omega)]
      congr 1
      omega
  obtain ⟨hw, f1, f2, f3, f4, f5, f6⟩ := h
  refine ⟨fun m hm M hM => ?_, ?_⟩
  · have g1 : tr 15 (hb 0 n m) M R := tr_rc hM s1.symm s4.symm (fun k hk => (sR k hk).symm) (fun k h1 h2 => (hx m k (by omega) h1 h2).symm)
    by_cases hmn : m < n
    · obtain ⟨a1, a2, a3⟩ := hD m hmn
      rw [a1, a2, a3]
      exact tr_rc (hw m hmn M g1) s1 s4 sR (fun k h1 h2 => hx (m + 1) k (by omega) h1 h2)
    · have e : m = n := by omega
      subst e
      rw [d1, d2, d3]
      have e0 : hb 0 m m = 0 := if_neg (by omega)
      have e1 : hb 0 (m + 1) (m + 1) = 0 := if_neg (by omega)
      rw [e0] at g1
      rw [e1]
      refine hop M (tr_rc g1 (by rw [k1 81 (by omega)]) (by rw [k1 81 (by omega)]) (fun k hk => k1 k (by omega)) (fun k h1 h2 => ?_))
      rw [Nat.zero_add, k2 k h1 (by omega), if_neg (by omega)]
  · have y := fun k => hx 0 k (Nat.zero_le _)
    unfold ch_f
    rw [e0, e1, e22, y 1 (by omega) (by omega), y 2 (by omega) (by omega), y 3 (by omega) (by omega), sR 84 (by omega)]
    refine ⟨f1, f2, f3, fun l hl => ?_, fun l hl => ?_, fun i hi => ?_⟩
    · have a1 := y (4 + l) (by omega) (by omega)
      rw [← Nat.add_assoc, ← Nat.add_assoc] at a1
      rw [a1]
      exact f4 l hl
    · have a1 := y (12 + l) (by omega) (by omega)
      rw [← Nat.add_assoc, ← Nat.add_assoc] at a1
      rw [a1]
      exact f5 l hl
    · have a1 := y (20 + i) (by omega) (by omega)
      rw [← Nat.add_assoc, ← Nat.add_assoc] at a1
      rw [a1]
      exact f6 i hi
/-- what a year and a deed leave alone -/
theorem st_46_4 {s e : Int32} {T c j : Nat} {M : fl_M} (h3 : ¬ c = T + 3) (h8 : ¬ c = T + 8) : (lr_46_4 s e T M).2 c j = M c j := by
  unfold lr_46_4 lq_46_4
  refine it_k (fun q : Int32 × fl_M => q.2 c j = M c j) rfl (fun m q hq => ?_)
  unfold ls_46_4
  (try repeat' split) <;> first | with_reducible exact hq | (simp [fl_u, h3, h8, hq]; done)
theorem st_46_100 {T c j : Nat} {M : fl_M} (h4 : ¬ c = T + 4) : (lr_46_100 T M) c j = M c j := by
  unfold lr_46_100 lq_46_100
  refine it_k (fun q : fl_M => q c j = M c j) rfl (fun m q hq => ?_)
  unfold ls_46_100
  simp [fl_u, h4, hq]
theorem st_46 {s : Int32} {T c j : Nat} {M : fl_M} (h3 : ¬ c = T + 3) (h4 : ¬ c = T + 4) (h8 : ¬ c = T + 8) (h2 : ¬ (c = T ∧ j = 2)) : m_46 s T M c j = M c j := by
  unfold m_46
  rw [fl_uo (by omega), st_46_100 h4, st_46_4 h3 h8]
theorem st_45 {wh li am : Int32} {T c j : Nat} {M : fl_M} (h3 : ¬ c = T + 3) (h4 : ¬ c = T + 4) (h8 : ¬ c = T + 8) (h2 : ¬ (c = T ∧ 2 ≤ j ∧ j ≤ 4)) : m_45 wh li am T M c j = M c j := by
  unfold m_45
  split
  · rw [fl_uo (by omega)]
  · split
    · rw [fl_uo (by omega)]
    · split
      · rw [fl_uo (by omega)]
      · rw [st_46 h3 h4 h8 (by omega)]
/-- a deed set down -/
theorem m44_eq {wh li am : Int32} {D n : Nat} {C : fl_M} (hn : (C D 0).toInt = n) (h4 : n < 40) : m_44 wh li am D C = fl_u (fl_u (fl_u (fl_u C (D + 1) n wh) (D + 2) n li) (D + 3) n am) D 0 (C D 0 + 1) := by
  have e := fj_nn hn
  unfold m_44
  rw [if_neg (fun z => by rw [fi_l, fi_i0] at z; omega), if_pos (by rw [fi_l, hn, fi_i40]; omega)]
  have a1 : ∀ (X : fl_M) (i : Nat) (v : Int32), fl_u X (D + 1) i v D = X D := fun X i v => fl_un (by omega)
  have a2 : ∀ (X : fl_M) (i : Nat) (v : Int32), fl_u X (D + 2) i v D = X D := fun X i v => fl_un (by omega)
  have a3 : ∀ (X : fl_M) (i : Nat) (v : Int32), fl_u X (D + 3) i v D = X D := fun X i v => fl_un (by omega)
  simp only [a1, a2, a3, e]
theorem tr_cc {T b : Nat} {C C' R : fl_M} (h : tr T b C R) (e : ∀ k, k < 9 → C' (T + k) = C (T + k)) : tr T b C' R := by
  have e0 := e 0 (by omega)
  rw [Nat.add_zero] at e0
  have e3 := e 3 (by omega)
  have e4 := e 4 (by omega)
  have e8 := e 8 (by omega)
  refine ⟨tr_sc h.1 (by rw [e0]) (by rw [e0]) (fun k hk => e k (by omega)) rfl rfl (fun _ _ => rfl), ?_⟩
  unfold tr_d
  rw [e0, e3, e4, e8]
  exact h.2
