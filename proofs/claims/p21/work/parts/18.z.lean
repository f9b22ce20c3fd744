/-! Register: what is read is tied, and in bounds. -/
theorem ra_ps {C R : fl_M} {t : Int32} (hf : f2 C R) (hK : C 999 = sm_kl) (h0 : 0 ≤ t.toInt) (h3 : t.toInt ≤ 3) (hs : ¬ C 9 t.toNatClampNeg = (-1)) (z : ra_v C t = (-9)) : ps (11 + t.toNatClampNeg) (C 9 t.toNatClampNeg) t (C (11 + t.toNatClampNeg)) (ra_M C t) (fo_M R t) := by
  have ct := fi_cl t
  have hT4 : t.toNatClampNeg < 4 := by omega
  obtain ⟨t1, gl, gu, t2⟩ := hf.2 _ hT4
  have g1 := And.intro gl gu
  have s0 := fi_ne hs
  rw [fi_m1] at s0
  have n0 : 0 ≤ (C 9 t.toNatClampNeg).toInt := by omega
  have hb : pb (C 9 t.toNatClampNeg) (C (11 + t.toNatClampNeg)) := ⟨g1.2, fun i hi => (t2 i hi).2⟩
  have hps : ps (11 + t.toNatClampNeg) (C 9 t.toNatClampNeg) t (C (11 + t.toNatClampNeg)) (fl_u (fl_u C 24 0 0) 24 1 0) (fl_u (fl_u (fl_u (fl_u (fl_u R 81 16 (60 * t)) 81 17 0) 81 18 (R 89 t.toNatClampNeg)) 81 19 0) 81 22 0) := by
    refine ⟨by rw [fl_un (by omega), fl_un (by omega)], rfl, ?_, rfl, rfl, cI_0 hK, fun i hi => ?_, fun j hj => ?_, fun j hj => ?_⟩
    · show R 89 t.toNatClampNeg = _
      rw [← t1]
    · rw [fl_un (by decide), fl_un (by decide), fl_un (by decide), fl_un (by decide), fl_un (by decide)]
      exact (t2 i hi).1.symm
    · have hj : (j : Int) < (0 : Int32).toInt := hj
      rw [fi_i0] at hj
      omega
    · have hj : (j : Int) < (0 : Int32).toInt := hj
      rw [fi_i0] at hj
      omega
  have hC : (fl_u (fl_u C 24 0 0) 24 1 0) (11 + t.toNatClampNeg) = C (11 + t.toNatClampNeg) := hps.1
  unfold ra_v at z
  unfold ra_M fo_M
  rw [fl_ar10, hC] at z ⊢
  generalize hE : (fl_u (fl_u (fl_u (fl_u (fl_u R 81 16 (60 * t)) 81 17 0) 81 18 (R 89 t.toNatClampNeg)) 81 19 0) 81 22 0) = E at hps ⊢
  have e17 : E 81 17 = 0 := by rw [← hE]; rfl
  have er := rsk_sk hps ⟨h0, h3⟩ hb 60 E rfl rfl hps.2.2.1 (by rw [e17]; decide)
  rw [e17] at er
  generalize hp : sk (C (11 + t.toNatClampNeg)) (C 9 t.toNatClampNeg) 60 0 = p at er z ⊢
  have pge : 0 ≤ p.toInt := by
    have z := sk_ge (b := C (11 + t.toNatClampNeg)) g1.2 60 0 (by decide)
    rw [fi_i0, hp] at z
    exact z
  have hv : hd_v E = if p < C 9 t.toNatClampNeg then (if C (11 + t.toNatClampNeg) p.toNatClampNeg = 114 then 1 else 0) else 0 := by
    unfold hd_v
    rw [er]
    show (if p < E 81 18 then (if rh (fl_u E 81 17 p) = 114 then (1 : Int32) else 0) else 0) = _
    rw [hps.2.2.1]
    by_cases h1 : p < C 9 t.toNatClampNeg
    · rw [if_pos h1, if_pos h1, (rh_b hps ⟨h0, h3⟩ hb (X := fl_u E 81 17 p) (by rw [fl_un (by decide)]) rfl rfl pge (fi_l.mp h1)).1, fl_us]
    · rw [if_neg h1, if_neg h1]
  have hm0 : hd_v E = 0 → hd_M E 81 17 = p := by
    intro z
    unfold hd_M
    rw [er]
    rw [hv] at z
    show (if p < E 81 18 then (if rh (fl_u E 81 17 p) = 114 then _ else _) else _ : fl_M) 81 17 = p
    rw [hps.2.2.1]
    by_cases h1 : p < C 9 t.toNatClampNeg
    · rw [if_pos h1, (rh_b hps ⟨h0, h3⟩ hb (X := fl_u E 81 17 p) (by rw [fl_un (by decide)]) rfl rfl pge (fi_l.mp h1)).1, fl_us]
      rw [if_pos h1] at z
      by_cases h2 : C (11 + t.toNatClampNeg) p.toNatClampNeg = 114
      · rw [if_pos h2] at z
        exact absurd z (by decide)
      · rw [if_neg h2]
        show p + 0 = p
        exact Int32.add_zero p
    · rw [if_neg h1]
      show p + 0 = p
      exact Int32.add_zero p
  by_cases h1 : p < C 9 t.toNatClampNeg
  · rw [if_pos h1] at z ⊢
    by_cases h2 : C (11 + t.toNatClampNeg) p.toNatClampNeg = 114
    · rw [if_pos h2] at z ⊢
      have v1 : hd_v E = 1 := by rw [hv, if_pos h1, if_pos h2]
      have v0 : ¬ hd_v E = 0 := by rw [v1]; decide
      rw [if_neg v0]
      have z1 := fi_l.mp h1
      have e1 := fi_p1 (p := p) (by omega)
      have hm : hd_M E = fl_u (fl_u E 81 17 p) 81 17 (p + 1) := by
        unfold hd_M
        rw [er]
        show (if p < E 81 18 then (if rh (fl_u E 81 17 p) = 114 then fl_u (fl_u E 81 17 p) 81 17 (p + 1) else _) else _) = _
        rw [hps.2.2.1, if_pos h1, (rh_b hps ⟨h0, h3⟩ hb (X := fl_u E 81 17 p) (by rw [fl_un (by decide)]) rfl rfl pge z1).1, fl_us, if_pos h2]
      have hps2 := ps_mv (x := p + 1) (ps_mv (x := p) hps)
      have er2 := rsk_sk hps2 ⟨h0, h3⟩ hb 60 (fl_u (fl_u E 81 17 p) 81 17 (p + 1)) rfl rfl hps.2.2.1 (show 0 ≤ (p + 1).toInt by omega)
      rw [hm, er2]
      have sg := sk_ge (b := C (11 + t.toNatClampNeg)) g1.2 60 (p + 1) (by omega)
      exact (pa_eq ⟨h0, h3⟩ hb ⟨by omega, by omega⟩ 60 (p + 1) _ _ (hd_v E) 60 (ps_mv hps2) v0 (by omega) (by omega) rfl (by omega) (by
        show (C 9 t.toNatClampNeg).toInt ≤ (sk (C (11 + t.toNatClampNeg)) (C 9 t.toNatClampNeg) 60 (p + 1)).toInt + (60 : Nat)
        omega)).2 z
    · rw [if_neg h2] at z
      rw [z] at pge
      exact absurd pge (by decide)
  · rw [if_neg h1] at z
    rw [z] at pge
    exact absurd pge (by decide)
/-- what is read, in bounds -/
def iv (X : fl_M) : Prop := (∀ j : Nat, (j : Int) < (X 24 0).toInt → 0 ≤ (X 26 j).toInt ∧ (X 26 j).toInt ≤ 40) ∧ (∀ j : Nat, (j : Int) < (X 24 1).toInt → (1 ≤ (X 30 j).toInt ∧ (X 30 j).toInt ≤ 9) ∧ 0 ≤ (X 31 j).toInt ∧ (X 31 j).toInt < (X 24 0).toInt)
theorem fg_b {b : Nat → Int32} {n q lo hi : Int32} (h : fg b n q lo hi = true) : lo.toInt ≤ (b q.toNatClampNeg - 48).toInt ∧ (b q.toNatClampNeg - 48).toInt ≤ hi.toInt := by
  obtain ⟨-, h2⟩ := sm_an h
  obtain ⟨h2, h3⟩ := sm_an h2
  refine ⟨?_, ?_⟩
  · refine Int.not_lt.mp (fun z => ?_)
    rw [decide_eq_true (fi_l.mpr z)] at h2
    cases h2
  · refine Int.not_lt.mp (fun z => ?_)
    rw [decide_eq_true (fi_l.mpr z)] at h3
    cases h3
section IV
variable {X : fl_M}
theorem iv_l (hI : cI X) (h : iv X) {v w : Int32} (c0 : ¬ 0 < X 24 1) (c8 : X 24 0 < 8) (v1 : ¬ v < 1) (v4 : ¬ 40 < v) : iv (fl_u (fl_u (fl_u X 25 (X 24 0).toNatClampNeg w) 26 (X 24 0).toNatClampNeg v) 24 0 (X 24 0 + 1)) := by
  obtain ⟨⟨i1, i2⟩, -, -⟩ := hI
  rw [fi_l, fi_i0] at c0
  rw [fi_l, fj_8] at c8
  rw [fi_l, fi_i1] at v1
  rw [fi_l, show (40 : Int32).toInt = 40 from rfl] at v4
  have e := fi_p1 (p := X 24 0) (by omega)
  have ec := fi_cl (X 24 0)
  refine ⟨fun j hj => ?_, fun j hj => ?_⟩
  · rw [fl_us, e] at hj
    rw [fl_un (c := 26) (a := 24) (by decide)]
    by_cases hn : j = (X 24 0).toNatClampNeg
    · rw [hn, fl_us]
      omega
    · rw [fl_uo (Or.inr hn), fl_un (by decide)]
      exact h.1 j (by omega)
  · rw [fl_uo (Or.inr (by decide)), fl_un (by decide), fl_un (by decide)] at hj
    omega
theorem iv_m (hI : cI X) (h : iv X) {u w k : Int32} (c4 : X 24 1 < 4) (u0 : 0 ≤ u.toInt) (u1 : u.toInt < (X 24 0).toInt) (w1 : 1 ≤ w.toInt) (w9 : w.toInt ≤ 9) : iv (fl_u (fl_u (fl_u (fl_u X 29 (X 24 1).toNatClampNeg k) 31 (X 24 1).toNatClampNeg u) 30 (X 24 1).toNatClampNeg w) 24 1 (X 24 1 + 1)) := by
  obtain ⟨-, ⟨i1, i2⟩, -⟩ := hI
  rw [fi_l, show (4 : Int32).toInt = 4 from rfl] at c4
  have e := fi_p1 (p := X 24 1) (by omega)
  have ec := fi_cl (X 24 1)
  refine ⟨fun j hj => ?_, fun j hj => ?_⟩
  · rw [fl_uo (Or.inr (by decide)), fl_un (by decide), fl_un (by decide), fl_un (by decide)] at hj
    rw [fl_un (by decide), fl_un (by decide), fl_un (by decide), fl_un (by decide)]
    exact h.1 j hj
  · rw [fl_us, e] at hj
    rw [fl_un (c := 30) (a := 24) (by decide), fl_un (c := 31) (a := 24) (by decide), fl_un (c := 31) (a := 30) (by decide), fl_uo (c := 24) (a := 24) (j := 0) (i := 1) (Or.inr (by decide)), fl_un (c := 24) (a := 30) (by decide), fl_un (c := 24) (a := 31) (by decide), fl_un (c := 24) (a := 29) (by decide)]
    by_cases hn : j = (X 24 1).toNatClampNeg
    · rw [hn, fl_us, fl_us]
      exact ⟨⟨w1, w9⟩, u0, u1⟩
    · rw [fl_uo (c := 30) (a := 30) (Or.inr hn), fl_un (c := 30) (a := 31) (by decide), fl_un (c := 30) (a := 29) (by decide), fl_uo (c := 31) (a := 31) (Or.inr hn), fl_un (c := 31) (a := 29) (by decide)]
      exact h.2 j (by omega)
theorem iv_ln (hI : cI X) (h : iv X) {a : Nat} {n p : Int32} : iv (ln_M X a n p) := by
  unfold ln_M
  (repeat' split) <;> first | with_reducible exact h | (refine iv_l hI h ?_ ?_ ?_ ?_ <;> assumption)
theorem iv_mo (hI : cI X) (h : iv X) {a : Nat} (ha : 11 ≤ a ∧ a ≤ 14) {n p : Int32} : iv (mo_M X a n p) := by
  have hx := hI.1
  have e1 : ¬ X 24 0 = 0 → (X 24 0 - 1).toInt = (X 24 0).toInt - 1 := fun _ => by rw [fi_sub (by rw [fi_i1]; omega) (by rw [fi_i1]; omega), fi_i1]
  unfold mo_M
  simp only [fl_un (show a ≠ 29 by omega), fl_un (show a ≠ 31 by omega)]
  split
  · exact h
  split
  · exact h
  rename_i c0
  have e1 := e1 c0
  split
  · rename_i c4
    split
    · rename_i f1
      have f1 := fg_b f1
      split
      · rename_i f2
        have f2 := fg_b f2
        rw [fi_i0, e1] at f1
        rw [fi_i1, show (9 : Int32).toInt = 9 from rfl] at f2
        exact iv_m hI h c4 f1.1 (by omega) f2.1 f2.2
      · exact h
    · exact h
  · exact h
theorem iv_cp {a : Nat} (ha : 11 ≤ a ∧ a ≤ 14) {n : Int32} : ∀ (f : Nat) (p : Int32) (X : fl_M), cI X → iv X → iv (cpar a n f p X).2 := by
  intro f
  induction f with
  | zero =>
    intro p X hI h
    unfold cpar
    exact h
  | succ f ih =>
    intro p X hI h
    unfold cpar
    (repeat' split) <;> (try dsimp only) <;> first | with_reducible exact ih _ _ hI h | with_reducible exact ih _ _ (cI_ln hI) (iv_ln hI h) | with_reducible exact ih _ _ (cI_mo hI) (iv_mo hI h ha) | with_reducible exact h | with_reducible exact iv_ln hI h | with_reducible exact iv_mo hI h ha
theorem iv_ra {C : fl_M} {t : Int32} (hK : C 999 = sm_kl) (h0 : 0 ≤ t.toInt) (h3 : t.toInt ≤ 3) : iv (ra_M C t) := by
  have ct := fi_cl t
  have hz : iv (fl_u (fl_u C 24 0 0) 24 1 0) := by
    refine ⟨fun j hj => ?_, fun j hj => ?_⟩
    · rw [fl_uo (Or.inr (by decide)), fl_us, fi_i0] at hj
      omega
    · rw [fl_us, fi_i0] at hj
      omega
  unfold ra_M
  rw [fl_ar10]
  (repeat' split) <;> first | exact hz | exact iv_cp (by omega) _ _ _ (cI_0 hK) hz
end IV
