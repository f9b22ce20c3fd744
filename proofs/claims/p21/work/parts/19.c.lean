/-! Look: the year with the fewest at one place, sought alike. -/
/-- counts by year and place -/
def nb (C R : fl_M) (m : Int) : Prop := ∀ y l, y < 20 → l < 8 → C (60 + y) l = R 95 (8 * (1 + y) + l) ∧ 0 ≤ (C (60 + y) l).toInt ∧ (C (60 + y) l).toInt ≤ m
theorem ka_59 (j : Nat) : fl_ar 59 j = 60 + j := by
  unfold fl_ar
  rw [if_neg (by decide)]
section NB
variable {C R : fl_M} {k : Int}
/-- the most at one place in a year -/
theorem mx_e (h : nb C R k) (h0 : 0 ≤ k) {y : Nat} (hy : y < 20) : lr_75_4 (Int32.ofNat y) 0 C = lr_174_76 (Int32.ofNat (1 + y)) 0 R ∧ (lr_75_4 (Int32.ofNat y) 0 C).toInt ≤ k := by
  have en := fi_at (m := y) (by omega)
  have e1 := fi_ti (m := 1 + y) (by omega)
  have e8 : (8 * Int32.ofNat (1 + y)).toInt = ((8 * (1 + y) : Nat) : Int) := by
    rw [fi_mul (by rw [e1, fj_8]; omega) (by rw [e1, fj_8]; omega), e1, fj_8]
    omega
  unfold lr_75_4 lr_174_76 lq_75_4 lq_174_76
  refine it_r (f := ls_75_4 (Int32.ofNat y) C) (g := ls_174_76 (Int32.ofNat (1 + y)) R) (fun _ x z => x = z ∧ x.toInt ≤ k) ⟨rfl, by rw [fi_i0]; exact h0⟩ (fun m x z hm hR => ?_)
  obtain ⟨t1, t2'⟩ := hR
  have t1 : x = z := t1
  subst t1
  have em := fi_at (m := m) (by omega)
  have e := fj_nn (fj_pa (x := 8 * Int32.ofNat (1 + y)) (y := Int32.ofNat m) e8 (fi_ti (m := m) (by omega)) (by omega))
  obtain ⟨q1, q2, q3⟩ := h y m hy hm
  unfold ls_75_4 ls_174_76
  rw [en, em, e, ka_59, ← q1]
  by_cases c : x < C (60 + y) m
  · rw [if_pos c]
    exact ⟨rfl, q3⟩
  · rw [if_neg c]
    exact ⟨rfl, t2'⟩
theorem sk_e (h : nb C R k) (h0 : 0 ≤ k) (h6 : k ≤ 6) : lr_72_46 0 7 C = lr_174_63 (-9) 99999 R := by
  have key := it_r (f := ls_72_46 C) (g := ls_174_63 R) (n := 20) (a := ((0 : Int32), (7 : Int32))) (b := ((-9 : Int32), (99999 : Int32))) (fun m x z => (m = 0 → x = ((0 : Int32), (7 : Int32)) ∧ z = ((-9 : Int32), (99999 : Int32))) ∧ (m ≠ 0 → x = z)) ⟨fun _ => ⟨rfl, rfl⟩, fun z => absurd rfl z⟩ (fun m x z hm hR => ?_)
  · exact key.2 (by decide)
  · refine ⟨fun z => absurd z (by omega), fun _ => ?_⟩
    obtain ⟨w1, w2⟩ := mx_e h h0 (y := m) hm
    have es : Int32.ofNat m + 1 = Int32.ofNat (1 + m) := by
      rw [fi_e, fi_p1 (by rw [fi_ti (by omega)]; omega), fi_ti (by omega), fi_ti (by omega)]
      omega
    unfold ls_72_46 ls_174_63
    rw [← w1, es]
    by_cases hz : m = 0
    · obtain ⟨x1, z1⟩ := hR.1 hz
      rw [x1, z1]
      have c1 : lr_75_4 (Int32.ofNat m) 0 C < 7 := by
        rw [fi_l, show (7 : Int32).toInt = 7 from rfl]
        omega
      have c2 : lr_75_4 (Int32.ofNat m) 0 C < 99999 := by
        rw [fi_l, show (99999 : Int32).toInt = 99999 from rfl]
        omega
      rw [if_pos c1, if_pos c2]
    · rw [hR.2 hz]
end NB
