/-! Rows and texts leave the registers alone, and tell the same. -/
theorem fl_yn {M : fl_M} {a0 sp a dp n c : Nat} (h : c ≠ a) : fl_y M a0 sp a dp n c = M c := by
  funext j
  unfold fl_y
  rw [if_neg (fun z => h z.1)]
theorem fl_kn {M : fl_M} {a sp dp lo hi c : Nat} (h : c ≠ a) : fl_k M a sp dp lo hi c = M c := by
  funext j
  unfold fl_k
  rw [if_neg (fun z => h z.1)]
section RO
variable {C R : fl_M}
theorem no_1 (h : t2 C R) : t2 (fl_u (fl_u C 0 11 1) 80 1 ((C 80 1) + 1)) (fl_u (fl_u R 81 14 1) 91 1 ((R 91 1) + 1)) := t2_no h 1 (f := 1) (by decide)
theorem no_2 (h : t2 C R) : t2 (fl_u (fl_u C 0 11 2) 80 2 ((C 80 2) + 1)) (fl_u (fl_u R 81 14 2) 91 2 ((R 91 2) + 1)) := t2_no h 2 (f := 2) (by decide)
theorem no_4 (h : t2 C R) : t2 (fl_u (fl_u C 0 11 4) 80 4 ((C 80 4) + 1)) (fl_u (fl_u R 81 14 4) 91 4 ((R 91 4) + 1)) := t2_no h 4 (f := 4) (by decide)
theorem no_5 (h : t2 C R) : t2 (fl_u (fl_u C 0 11 5) 80 5 ((C 80 5) + 1)) (fl_u (fl_u R 81 14 5) 91 5 ((R 91 5) + 1)) := t2_no h 5 (f := 5) (by decide)
theorem ro_0 (h : t2 C R) (hf : f2 C R) (r n : Int32) : t2 (if (r < 0) ∨ (¬ (r < 6)) then C else (if 40 < n then C else (if n < 0 then (fl_u (fl_u C 0 11 5) 80 5 ((C 80 5) + 1)) else (fl_u (fl_f C (fl_ar 2 r.toNatClampNeg) n.toNatClampNeg 0) 1 r.toNatClampNeg n)))) (if (¬ (r < 0)) ∧ (¬ (5 < r)) then (if 40 < n then R else (if n < 0 then (fl_u (fl_u R 81 14 5) 91 5 ((R 91 5) + 1)) else (fl_g (fl_u R 87 r.toNatClampNeg n) 88 (40 * r.toNatClampNeg) 40 0))) else R) := by
  by_cases c1 : (r < 0) ∨ (¬ (r < 6))
  · simp only [if_pos c1, if_neg (fun z => ft_A.mp z c1)]
    exact h
  · simp only [if_neg c1, if_pos (ft_A.mpr c1)]
    obtain ⟨r0, r5, r6⟩ := ft_R c1
    by_cases c2 : 40 < n
    · simp only [if_pos c2]
      exact h
    · simp only [if_neg c2]
      by_cases c3 : n < 0
      · simp only [if_pos c3]
        exact no_5 h
      · simp only [if_neg c3]
        rw [fl_ar2]
        exact t2_c h (fun c hc => by rw [fl_un (by omega), fl_fn (by omega)]) (fun c hc => by rw [fl_gn (by omega), fl_un (by omega)]) (fun j _ => by rw [fl_gn (by decide), fl_un (by decide)])
theorem ro_3 (h : t2 C R) (hf : f2 C R) (r i v : Int32) : t2 (if (r < 0) ∨ (¬ (r < 6)) then C else (if (C 1 r.toNatClampNeg) = (-1) then (fl_u (fl_u C 0 11 1) 80 1 ((C 80 1) + 1)) else (if i < 0 then (fl_u (fl_u C 0 11 2) 80 2 ((C 80 2) + 1)) else (if i < (C 1 r.toNatClampNeg) then (fl_u (fl_u C (fl_ar 2 r.toNatClampNeg) i.toNatClampNeg v) 0 12 (C (fl_ar 2 r.toNatClampNeg) i.toNatClampNeg)) else (fl_u (fl_u C 0 11 2) 80 2 ((C 80 2) + 1)))))) (if (¬ (r < 0)) ∧ (¬ (5 < r)) then (if (R 87 r.toNatClampNeg) < 0 then (fl_u (fl_u R 81 14 1) 91 1 ((R 91 1) + 1)) else (if (¬ (i < 0)) ∧ (¬ ((R 87 r.toNatClampNeg) - 1 < i)) then (fl_u (fl_u R 88 (((40 * r) + i).toNatClampNeg) v) 81 11 (R 88 (((40 * r) + i).toNatClampNeg))) else (fl_u (fl_u R 81 14 2) 91 2 ((R 91 2) + 1)))) else R) := by
  by_cases c1 : (r < 0) ∨ (¬ (r < 6))
  · simp only [if_pos c1, if_neg (fun z => ft_A.mp z c1)]
    exact h
  · simp only [if_neg c1, if_pos (ft_A.mpr c1)]
    obtain ⟨r0, r5, r6⟩ := ft_R c1
    obtain ⟨f1, f3, f4, f5⟩ := hf.1 _ r6
    rw [← f1]
    by_cases c2 : C 1 r.toNatClampNeg = -1
    · simp only [if_pos c2, if_pos ((ft_B f3).mpr c2)]
      exact no_1 h
    · simp only [if_neg c2, if_neg (fun z => c2 ((ft_B f3).mp z))]
      have hD := ft_D (i := i) f3 (by omega)
      by_cases c3 : i < 0
      · simp only [if_pos c3, if_neg (fun z => (hD.mp z).1 c3)]
        exact no_2 h
      · by_cases c4 : i < C 1 r.toNatClampNeg
        · simp only [if_neg c3, if_pos c4, if_pos (hD.mpr ⟨c3, c4⟩)]
          have i0 := fi_ge.mp c3
          have i1 := fi_l.mp c4
          rw [fi_i0] at i0
          rw [fl_ar2, fi_40 r0 r5 i0 (by omega), f5 i.toNatClampNeg (by rw [fi_cl]; omega)]
          refine t2_tell (t2_c h (fun c hc => by rw [fl_un (by omega)]) (fun c hc => by rw [fl_un (by omega)]) (fun j _ => by rw [fl_un (by decide)])) rfl
        · simp only [if_neg c3, if_neg c4, if_neg (fun z => c4 (hD.mp z).2)]
          exact no_2 h
theorem ro_6 (h : t2 C R) (hf : f2 C R) (r i : Int32) : t2 (if (r < 0) ∨ (¬ (r < 6)) then C else (if (C 1 r.toNatClampNeg) = (-1) then (fl_u (fl_u C 0 11 1) 80 1 ((C 80 1) + 1)) else (if i < 0 then (fl_u (fl_u C 0 11 2) 80 2 ((C 80 2) + 1)) else (if i < (C 1 r.toNatClampNeg) then (fl_u C 0 12 (C (fl_ar 2 r.toNatClampNeg) i.toNatClampNeg)) else (fl_u (fl_u C 0 11 2) 80 2 ((C 80 2) + 1)))))) (if (¬ (r < 0)) ∧ (¬ (5 < r)) then (if (R 87 r.toNatClampNeg) < 0 then (fl_u (fl_u R 81 14 1) 91 1 ((R 91 1) + 1)) else (if (¬ (i < 0)) ∧ (¬ ((R 87 r.toNatClampNeg) - 1 < i)) then (fl_u R 81 11 (R 88 (((40 * r) + i).toNatClampNeg))) else (fl_u (fl_u R 81 14 2) 91 2 ((R 91 2) + 1)))) else R) := by
  by_cases c1 : (r < 0) ∨ (¬ (r < 6))
  · simp only [if_pos c1, if_neg (fun z => ft_A.mp z c1)]
    exact h
  · simp only [if_neg c1, if_pos (ft_A.mpr c1)]
    obtain ⟨r0, r5, r6⟩ := ft_R c1
    obtain ⟨f1, f3, f4, f5⟩ := hf.1 _ r6
    rw [← f1]
    by_cases c2 : C 1 r.toNatClampNeg = -1
    · simp only [if_pos c2, if_pos ((ft_B f3).mpr c2)]
      exact no_1 h
    · simp only [if_neg c2, if_neg (fun z => c2 ((ft_B f3).mp z))]
      have hD := ft_D (i := i) f3 (by omega)
      by_cases c3 : i < 0
      · simp only [if_pos c3, if_neg (fun z => (hD.mp z).1 c3)]
        exact no_2 h
      · by_cases c4 : i < C 1 r.toNatClampNeg
        · simp only [if_neg c3, if_pos c4, if_pos (hD.mpr ⟨c3, c4⟩)]
          have i0 := fi_ge.mp c3
          have i1 := fi_l.mp c4
          rw [fi_i0] at i0
          rw [fl_ar2, fi_40 r0 r5 i0 (by omega), f5 i.toNatClampNeg (by rw [fi_cl]; omega)]
          exact t2_tell h rfl
        · simp only [if_neg c3, if_neg c4, if_neg (fun z => c4 (hD.mp z).2)]
          exact no_2 h
theorem ro_7 (h : t2 C R) (hf : f2 C R) (r : Int32) : t2 (if (r < 0) ∨ (¬ (r < 6)) then C else (if (C 1 r.toNatClampNeg) = (-1) then (fl_u (fl_u C 0 11 1) 80 1 ((C 80 1) + 1)) else (fl_u C 1 r.toNatClampNeg (-1)))) (if (¬ (r < 0)) ∧ (¬ (5 < r)) then (if (R 87 r.toNatClampNeg) < 0 then (fl_u (fl_u R 81 14 1) 91 1 ((R 91 1) + 1)) else (fl_u R 87 r.toNatClampNeg (-1))) else R) := by
  by_cases c1 : (r < 0) ∨ (¬ (r < 6))
  · simp only [if_pos c1, if_neg (fun z => ft_A.mp z c1)]
    exact h
  · simp only [if_neg c1, if_pos (ft_A.mpr c1)]
    obtain ⟨r0, r5, r6⟩ := ft_R c1
    obtain ⟨f1, f3, f4, f5⟩ := hf.1 _ r6
    rw [← f1]
    by_cases c2 : C 1 r.toNatClampNeg = -1
    · simp only [if_pos c2, if_pos ((ft_B f3).mpr c2)]
      exact no_1 h
    · simp only [if_neg c2, if_neg (fun z => c2 ((ft_B f3).mp z))]
      exact t2_c h (fun c hc => by rw [fl_un (by omega)]) (fun c hc => by rw [fl_un (by omega)]) (fun j _ => by rw [fl_un (by decide)])
theorem ro_8 (h : t2 C R) (hf : f2 C R) (r i to j n : Int32) : t2 (if (r < 0) ∨ (¬ (r < 6)) then C else (if (to < 0) ∨ (¬ (to < 6)) then C else (if n < 0 then (fl_u (fl_u C 0 11 5) 80 5 ((C 80 5) + 1)) else (if (C 1 r.toNatClampNeg) = (-1) then (fl_u (fl_u C 0 11 1) 80 1 ((C 80 1) + 1)) else (if (C 1 to.toNatClampNeg) = (-1) then (fl_u (fl_u C 0 11 1) 80 1 ((C 80 1) + 1)) else (if (i < 0) ∨ (((C 1 r.toNatClampNeg) - n) < i) then (fl_u (fl_u C 0 11 2) 80 2 ((C 80 2) + 1)) else (if (j < 0) ∨ (((C 1 to.toNatClampNeg) - n) < j) then (fl_u (fl_u C 0 11 2) 80 2 ((C 80 2) + 1)) else (fl_y C (fl_ar 2 r.toNatClampNeg) i.toNatClampNeg (fl_ar 2 to.toNatClampNeg) j.toNatClampNeg n.toNatClampNeg)))))))) (if (¬ (r < 0)) ∧ (¬ (5 < r)) then (if (¬ (to < 0)) ∧ (¬ (5 < to)) then (if n < 0 then (fl_u (fl_u R 81 14 5) 91 5 ((R 91 5) + 1)) else (if (R 87 r.toNatClampNeg) < 0 then (fl_u (fl_u R 81 14 1) 91 1 ((R 91 1) + 1)) else (if (R 87 to.toNatClampNeg) < 0 then (fl_u (fl_u R 81 14 1) 91 1 ((R 91 1) + 1)) else (if (¬ (i < 0)) ∧ (¬ (((R 87 r.toNatClampNeg).toInt64) < (i.toInt64 + n.toInt64))) then (if (¬ (j < 0)) ∧ (¬ (((R 87 to.toNatClampNeg).toInt64) < (j.toInt64 + n.toInt64))) then (fl_k R 88 (40 * r.toNatClampNeg + i.toNatClampNeg) (40 * to.toNatClampNeg + j.toNatClampNeg) 0 n.toNatClampNeg) else (fl_u (fl_u R 81 14 2) 91 2 ((R 91 2) + 1))) else (fl_u (fl_u R 81 14 2) 91 2 ((R 91 2) + 1)))))) else R) else R) := by
  by_cases c1 : (r < 0) ∨ (¬ (r < 6))
  · simp only [if_pos c1, if_neg (fun z => ft_A.mp z c1)]
    exact h
  · simp only [if_neg c1, if_pos (ft_A.mpr c1)]
    obtain ⟨r0, r5, r6⟩ := ft_R c1
    obtain ⟨f1, f3, f4, -⟩ := hf.1 _ r6
    by_cases c2 : (to < 0) ∨ (¬ (to < 6))
    · simp only [if_pos c2, if_neg (fun z => ft_A.mp z c2)]
      exact h
    · simp only [if_neg c2, if_pos (ft_A.mpr c2)]
      obtain ⟨t0, t5, t6⟩ := ft_R c2
      obtain ⟨g1, g3, g4, -⟩ := hf.1 _ t6
      rw [← f1, ← g1]
      by_cases c3 : n < 0
      · simp only [if_pos c3]
        exact no_5 h
      · simp only [if_neg c3]
        have n0 := fi_ge.mp c3
        rw [fi_i0] at n0
        by_cases c4 : C 1 r.toNatClampNeg = -1
        · simp only [if_pos c4, if_pos ((ft_B f3).mpr c4)]
          exact no_1 h
        · simp only [if_neg c4, if_neg (fun z => c4 ((ft_B f3).mp z))]
          by_cases c5 : C 1 to.toNatClampNeg = -1
          · simp only [if_pos c5, if_pos ((ft_B g3).mpr c5)]
            exact no_1 h
          · simp only [if_neg c5, if_neg (fun z => c5 ((ft_B g3).mp z))]
            have sp : ∀ (s x : Int32), -1 ≤ s.toInt → s.toInt ≤ 40 → (((¬ (x < 0)) ∧ (¬ (s.toInt64 < (x.toInt64 + n.toInt64)))) ↔ ¬ ((x < 0) ∨ ((s - n) < x))) := fun s x h1 h2 => by
              have b := n.toInt_lt
              rw [fi_span, fi_l, fi_l, fi_sub (by omega) (by omega), fi_i0]
              omega
            have s1 := sp (C 1 r.toNatClampNeg) i f3 f4
            have s2 := sp (C 1 to.toNatClampNeg) j g3 g4
            by_cases c6 : (i < 0) ∨ (((C 1 r.toNatClampNeg) - n) < i)
            · simp only [if_pos c6, if_neg (fun z => s1.mp z c6)]
              exact no_2 h
            · simp only [if_neg c6, if_pos (s1.mpr c6)]
              by_cases c7 : (j < 0) ∨ (((C 1 to.toNatClampNeg) - n) < j)
              · simp only [if_pos c7, if_neg (fun z => s2.mp z c7)]
                exact no_2 h
              · simp only [if_neg c7, if_pos (s2.mpr c7)]
                rw [fl_ar2, fl_ar2]
                exact t2_c h (fun c hc => by rw [fl_yn (by omega)]) (fun c hc => by rw [fl_kn (by omega)]) (fun q _ => by rw [fl_kn (by decide)])
theorem ro_10 (h : t2 C R) (hf : f2 C R) (r : Int32) : t2 (if (r < 0) ∨ (¬ (r < 6)) then C else (if (C 1 r.toNatClampNeg) = (-1) then (fl_u (fl_u C 0 11 1) 80 1 ((C 80 1) + 1)) else (if 0 < (C 1 r.toNatClampNeg) then (fl_u C 0 12 (fl_sm (C (fl_ar 2 r.toNatClampNeg)) (C 1 r.toNatClampNeg).toNatClampNeg / (C 1 r.toNatClampNeg).toInt64).toInt32) else (fl_u (fl_u C 0 11 4) 80 4 ((C 80 4) + 1))))) (if (¬ (r < 0)) ∧ (¬ (5 < r)) then (if (R 87 r.toNatClampNeg) < 0 then (fl_u (fl_u R 81 14 1) 91 1 ((R 91 1) + 1)) else (if (R 87 r.toNatClampNeg) = 0 then (fl_u (fl_u R 81 14 4) 91 4 ((R 91 4) + 1)) else (fl_u R 81 11 (fl_sm (fun k => R 88 (40 * r.toNatClampNeg + k)) (R 87 r.toNatClampNeg).toNatClampNeg / (R 87 r.toNatClampNeg).toInt64).toInt32))) else R) := by
  by_cases c1 : (r < 0) ∨ (¬ (r < 6))
  · simp only [if_pos c1, if_neg (fun z => ft_A.mp z c1)]
    exact h
  · simp only [if_neg c1, if_pos (ft_A.mpr c1)]
    obtain ⟨r0, r5, r6⟩ := ft_R c1
    obtain ⟨f1, f3, f4, f5⟩ := hf.1 _ r6
    rw [← f1]
    by_cases c2 : C 1 r.toNatClampNeg = -1
    · simp only [if_pos c2, if_pos ((ft_B f3).mpr c2)]
      exact no_1 h
    · simp only [if_neg c2, if_neg (fun z => c2 ((ft_B f3).mp z))]
      have z2 := fi_ne c2
      rw [fi_m1] at z2
      by_cases c3 : 0 < C 1 r.toNatClampNeg
      · have c4 : ¬ C 1 r.toNatClampNeg = 0 := fun z => by rw [z] at c3; exact absurd c3 (by decide)
        simp only [if_pos c3, if_neg c4]
        have e : fl_sm (C (fl_ar 2 r.toNatClampNeg)) (C 1 r.toNatClampNeg).toNatClampNeg = fl_sm (fun k => R 88 (40 * r.toNatClampNeg + k)) (C 1 r.toNatClampNeg).toNatClampNeg := by
          rw [fl_ar2]
          exact fl_sm_c (fun q hq => f5 q (by rw [fi_cl] at hq; omega))
        rw [e]
        exact t2_tell h rfl
      · have c4 : C 1 r.toNatClampNeg = 0 := by rw [fi_l, fi_i0] at c3; rw [fi_e, fi_i0]; omega
        simp only [if_neg c3, if_pos c4]
        exact no_4 h
theorem ro_11 (h : t2 C R) (hf : f2 C R) (t n : Int32) : t2 (if (t < 0) ∨ (¬ (t < 4)) then C else (if 60 < n then C else (if n < 0 then (fl_u (fl_u C 0 11 5) 80 5 ((C 80 5) + 1)) else (fl_u (fl_f C (fl_ar 10 t.toNatClampNeg) n.toNatClampNeg 32) 9 t.toNatClampNeg n)))) (if (¬ (t < 0)) ∧ (¬ (3 < t)) then (if 60 < n then R else (if n < 0 then (fl_u (fl_u R 81 14 5) 91 5 ((R 91 5) + 1)) else (fl_g (fl_u R 89 t.toNatClampNeg n) 90 (60 * t.toNatClampNeg) 60 32))) else R) := by
  by_cases c1 : (t < 0) ∨ (¬ (t < 4))
  · simp only [if_pos c1, if_neg (fun z => ft_A3.mp z c1)]
    exact h
  · simp only [if_neg c1, if_pos (ft_A3.mpr c1)]
    obtain ⟨r0, r5, r6⟩ := ft_R4 c1
    by_cases c2 : 60 < n
    · simp only [if_pos c2]
      exact h
    · simp only [if_neg c2]
      by_cases c3 : n < 0
      · simp only [if_pos c3]
        exact no_5 h
      · simp only [if_neg c3]
        rw [fl_ar10]
        exact t2_c h (fun c hc => by rw [fl_un (by omega), fl_fn (by omega)]) (fun c hc => by rw [fl_gn (by omega), fl_un (by omega)]) (fun j _ => by rw [fl_gn (by decide), fl_un (by decide)])
theorem ro_13 (h : t2 C R) (hf : f2 C R) (t i v : Int32) : t2 (if (t < 0) ∨ (¬ (t < 4)) then C else (if (C 9 t.toNatClampNeg) = (-1) then (fl_u (fl_u C 0 11 1) 80 1 ((C 80 1) + 1)) else (if i < 0 then (fl_u (fl_u C 0 11 2) 80 2 ((C 80 2) + 1)) else (if i < (C 9 t.toNatClampNeg) then (fl_u C (fl_ar 10 t.toNatClampNeg) i.toNatClampNeg (vp_nar .byte v.toInt8.toInt32)) else (fl_u (fl_u C 0 11 2) 80 2 ((C 80 2) + 1)))))) (if (¬ (t < 0)) ∧ (¬ (3 < t)) then (if (R 89 t.toNatClampNeg) < 0 then (fl_u (fl_u R 81 14 1) 91 1 ((R 91 1) + 1)) else (if (¬ (i < 0)) ∧ (¬ ((R 89 t.toNatClampNeg) - 1 < i)) then (fl_u R 90 (((60 * t) + i).toNatClampNeg) v.toInt8.toInt32) else (fl_u (fl_u R 81 14 2) 91 2 ((R 91 2) + 1)))) else R) := by
  by_cases c1 : (t < 0) ∨ (¬ (t < 4))
  · simp only [if_pos c1, if_neg (fun z => ft_A3.mp z c1)]
    exact h
  · simp only [if_neg c1, if_pos (ft_A3.mpr c1)]
    obtain ⟨r0, r5, r6⟩ := ft_R4 c1
    obtain ⟨f1, f3, f4, f5⟩ := hf.2 _ r6
    rw [← f1]
    by_cases c2 : C 9 t.toNatClampNeg = -1
    · simp only [if_pos c2, if_pos ((ft_B f3).mpr c2)]
      exact no_1 h
    · simp only [if_neg c2, if_neg (fun z => c2 ((ft_B f3).mp z))]
      have hD := ft_D (i := i) f3 (by omega)
      by_cases c3 : i < 0
      · simp only [if_pos c3, if_neg (fun z => (hD.mp z).1 c3)]
        exact no_2 h
      · by_cases c4 : i < C 9 t.toNatClampNeg
        · simp only [if_neg c3, if_pos c4, if_pos (hD.mpr ⟨c3, c4⟩)]
          rw [fl_ar10]
          exact t2_c h (fun c hc => by rw [fl_un (by omega)]) (fun c hc => by rw [fl_un (by omega)]) (fun j _ => by rw [fl_un (by decide)])
        · simp only [if_neg c3, if_neg c4, if_neg (fun z => c4 (hD.mp z).2)]
          exact no_2 h
end RO
