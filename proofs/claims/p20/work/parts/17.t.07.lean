def hd_v (M : fl_M) : Int32 := (if ((rsk 60 M) 81 17) < ((rsk 60 M) 81 18) then (if (rh (rsk 60 M)) = 114 then 1 else 0) else 0)
def hd_M (M : fl_M) : fl_M := (if ((rsk 60 M) 81 17) < ((rsk 60 M) 81 18) then (if (rh (rsk 60 M)) = 114 then (fl_u (rsk 60 M) 81 17 (((rsk 60 M) 81 17) + 1)) else (fl_u (rsk 60 M) 81 17 (((rsk 60 M) 81 17) + 0))) else (fl_u (rsk 60 M) 81 17 (((rsk 60 M) 81 17) + 0)))
def rl_v (M : fl_M) : Int32 := (if (M 81 19) = 8 then 0 else (if 0 < (M 81 22) then 0 else (if rg (fl_u M 81 17 ((M 81 17) + 1)) 0 9 = true then (if rg (fl_u (fl_u M 81 17 ((M 81 17) + 1)) 81 17 (((M 81 17) + 1) + 1)) 0 9 = true then (if rg (fl_u (fl_u (fl_u M 81 17 ((M 81 17) + 1)) 81 17 (((M 81 17) + 1) + 1)) 81 17 ((((M 81 17) + 1) + 1) + 1)) 0 9 = true then (if (¬ ((10 * (rv (fl_u (fl_u M 81 17 ((M 81 17) + 1)) 81 17 (((M 81 17) + 1) + 1)))) + (rv (fl_u (fl_u (fl_u M 81 17 ((M 81 17) + 1)) 81 17 (((M 81 17) + 1) + 1)) 81 17 ((((M 81 17) + 1) + 1) + 1))) < 1)) ∧ (¬ (40 < (10 * (rv (fl_u (fl_u M 81 17 ((M 81 17) + 1)) 81 17 (((M 81 17) + 1) + 1)))) + (rv (fl_u (fl_u (fl_u M 81 17 ((M 81 17) + 1)) 81 17 (((M 81 17) + 1) + 1)) 81 17 ((((M 81 17) + 1) + 1) + 1))))) then 1 else 0) else 0) else 0) else 0)))
def rl_M (M : fl_M) : fl_M := (if (M 81 19) = 8 then M else (if 0 < (M 81 22) then M else (if rg (fl_u M 81 17 ((M 81 17) + 1)) 0 9 = true then (if rg (fl_u (fl_u M 81 17 ((M 81 17) + 1)) 81 17 (((M 81 17) + 1) + 1)) 0 9 = true then (if rg (fl_u (fl_u (fl_u M 81 17 ((M 81 17) + 1)) 81 17 (((M 81 17) + 1) + 1)) 81 17 ((((M 81 17) + 1) + 1) + 1)) 0 9 = true then (if (¬ ((10 * (rv (fl_u (fl_u M 81 17 ((M 81 17) + 1)) 81 17 (((M 81 17) + 1) + 1)))) + (rv (fl_u (fl_u (fl_u M 81 17 ((M 81 17) + 1)) 81 17 (((M 81 17) + 1) + 1)) 81 17 ((((M 81 17) + 1) + 1) + 1))) < 1)) ∧ (¬ (40 < (10 * (rv (fl_u (fl_u M 81 17 ((M 81 17) + 1)) 81 17 (((M 81 17) + 1) + 1)))) + (rv (fl_u (fl_u (fl_u M 81 17 ((M 81 17) + 1)) 81 17 (((M 81 17) + 1) + 1)) 81 17 ((((M 81 17) + 1) + 1) + 1))))) then (fl_u (fl_u (fl_u (fl_u (fl_u (fl_u (fl_u M 81 17 ((M 81 17) + 1)) 81 17 (((M 81 17) + 1) + 1)) 81 17 ((((M 81 17) + 1) + 1) + 1)) 81 17 (((((M 81 17) + 1) + 1) + 1) + 1)) 92 ((M 81 19).toNatClampNeg) (rv (fl_u M 81 17 ((M 81 17) + 1)))) 93 ((M 81 19).toNatClampNeg) ((10 * (rv (fl_u (fl_u M 81 17 ((M 81 17) + 1)) 81 17 (((M 81 17) + 1) + 1)))) + (rv (fl_u (fl_u (fl_u M 81 17 ((M 81 17) + 1)) 81 17 (((M 81 17) + 1) + 1)) 81 17 ((((M 81 17) + 1) + 1) + 1))))) 81 19 ((M 81 19) + 1)) else (fl_u (fl_u (fl_u (fl_u (fl_u M 81 17 ((M 81 17) + 1)) 81 17 (((M 81 17) + 1) + 1)) 81 17 ((((M 81 17) + 1) + 1) + 1)) 81 17 (((((M 81 17) + 1) + 1) + 1) + 1)) 81 17 (((M 81 17) + 1) + 1))) else (fl_u (fl_u (fl_u M 81 17 ((M 81 17) + 1)) 81 17 (((M 81 17) + 1) + 1)) 81 17 ((((M 81 17) + 1) + 1) + 1))) else (fl_u (fl_u M 81 17 ((M 81 17) + 1)) 81 17 (((M 81 17) + 1) + 1))) else (fl_u M 81 17 ((M 81 17) + 1)))))
def rm_v (M : fl_M) : Int32 := (if (fk (rh M)) = (-9) then 0 else (if (M 81 22) = 4 then 0 else (if (M 81 19) = 0 then 0 else (if rg (fl_u M 81 17 ((M 81 17) + 1)) 0 ((M 81 19) - 1) = true then (if rg (fl_u (fl_u M 81 17 ((M 81 17) + 1)) 81 17 (((M 81 17) + 1) + 1)) 1 9 = true then 1 else 0) else 0))))
def rm_M (M : fl_M) : fl_M := (if (fk (rh M)) = (-9) then M else (if (M 81 22) = 4 then M else (if (M 81 19) = 0 then M else (if rg (fl_u M 81 17 ((M 81 17) + 1)) 0 ((M 81 19) - 1) = true then (if rg (fl_u (fl_u M 81 17 ((M 81 17) + 1)) 81 17 (((M 81 17) + 1) + 1)) 1 9 = true then (fl_u (fl_u (fl_u (fl_u (fl_u (fl_u (fl_u M 81 17 ((M 81 17) + 1)) 81 17 (((M 81 17) + 1) + 1)) 81 17 ((((M 81 17) + 1) + 1) + 1)) 94 ((3 * (M 81 22)).toNatClampNeg) (fk (rh M))) 94 (((3 * (M 81 22)) + 1).toNatClampNeg) (rv (fl_u M 81 17 ((M 81 17) + 1)))) 94 (((3 * (M 81 22)) + 2).toNatClampNeg) (rv (fl_u (fl_u M 81 17 ((M 81 17) + 1)) 81 17 (((M 81 17) + 1) + 1)))) 81 22 ((M 81 22) + 1)) else (fl_u (fl_u M 81 17 ((M 81 17) + 1)) 81 17 (((M 81 17) + 1) + 1))) else (fl_u M 81 17 ((M 81 17) + 1))))))
/-- bounds while the reference reads -/
def rI (M : fl_M) : Prop := (0 ≤ (M 81 16).toInt ∧ (M 81 16).toInt ≤ 180) ∧ (0 ≤ (M 81 17).toInt ∧ (M 81 17).toInt ≤ (M 81 18).toInt ∧ (M 81 18).toInt ≤ 60) ∧ (0 ≤ (M 81 19).toInt ∧ (M 81 19).toInt ≤ 8) ∧ (0 ≤ (M 81 22).toInt ∧ (M 81 22).toInt ≤ 4)
theorem rI_rsk {f : Nat} {M : fl_M} (h : rI M) : rI (rsk f M) := by
  obtain ⟨h1, ⟨h2, h3, h4⟩, h5, h6⟩ := h
  obtain ⟨w1, w2, w3, w4⟩ := rsk_f f M h3 h4
  unfold rI
  rw [w1 16 (by decide), w1 18 (by decide), w1 19 (by decide), w1 22 (by decide)]
  exact ⟨h1, ⟨by omega, w4, h4⟩, h5, h6⟩
/-- the place alone moves -/
theorem rI_pl {M : fl_M} {x : Int32} (h : rI M) (h1 : 0 ≤ x.toInt) (h2 : x.toInt ≤ (M 81 18).toInt) : rI (fl_u M 81 17 x) := ⟨h.1, ⟨h1, h2, h.2.1.2.2⟩, h.2.2⟩
theorem fi_8 : (8 : Int32).toInt = 8 := rfl
theorem rI_rl {M : fl_M} (h : rI M) (hQ : (M 81 17).toInt < (M 81 18).toInt) : rI (rl_M M) := by
  obtain ⟨h1, ⟨h2, h3, h4⟩, h5, h6⟩ := h
  have e1 := fi_p1 (p := M 81 17) (by omega)
  have e2 := fi_p1 (p := M 81 17 + 1) (by omega)
  have e3 := fi_p1 (p := M 81 17 + 1 + 1) (by omega)
  have e4 := fi_p1 (p := M 81 17 + 1 + 1 + 1) (by omega)
  unfold rl_M
  split
  · exact ⟨h1, ⟨h2, h3, h4⟩, h5, h6⟩
  rename_i c1
  have c1 := fi_ne c1
  rw [fi_8] at c1
  have el := fi_p1 (p := M 81 19) (by omega)
  split
  · exact ⟨h1, ⟨h2, h3, h4⟩, h5, h6⟩
  split
  · rename_i g1
    have z1 : (M 81 17 + 1).toInt ≠ (M 81 18).toInt := rg_lt g1
    split
    · rename_i g2
      have z2 : (M 81 17 + 1 + 1).toInt ≠ (M 81 18).toInt := rg_lt g2
      split
      · rename_i g3
        have z3 : (M 81 17 + 1 + 1 + 1).toInt ≠ (M 81 18).toInt := rg_lt g3
        split
        · exact ⟨h1, ⟨show 0 ≤ (M 81 17 + 1 + 1 + 1 + 1).toInt by omega, show (M 81 17 + 1 + 1 + 1 + 1).toInt ≤ (M 81 18).toInt by omega, h4⟩, ⟨show 0 ≤ (M 81 19 + 1).toInt by omega, show (M 81 19 + 1).toInt ≤ 8 by omega⟩, h6⟩
        · exact ⟨h1, ⟨show 0 ≤ (M 81 17 + 1 + 1).toInt by omega, show (M 81 17 + 1 + 1).toInt ≤ (M 81 18).toInt by omega, h4⟩, h5, h6⟩
      · exact ⟨h1, ⟨show 0 ≤ (M 81 17 + 1 + 1 + 1).toInt by omega, show (M 81 17 + 1 + 1 + 1).toInt ≤ (M 81 18).toInt by omega, h4⟩, h5, h6⟩
    · exact ⟨h1, ⟨show 0 ≤ (M 81 17 + 1 + 1).toInt by omega, show (M 81 17 + 1 + 1).toInt ≤ (M 81 18).toInt by omega, h4⟩, h5, h6⟩
  · exact ⟨h1, ⟨show 0 ≤ (M 81 17 + 1).toInt by omega, show (M 81 17 + 1).toInt ≤ (M 81 18).toInt by omega, h4⟩, h5, h6⟩
theorem rI_rm {M : fl_M} (h : rI M) (hQ : (M 81 17).toInt < (M 81 18).toInt) : rI (rm_M M) := by
  obtain ⟨h1, ⟨h2, h3, h4⟩, h5, h6⟩ := h
  have e1 := fi_p1 (p := M 81 17) (by omega)
  have e2 := fi_p1 (p := M 81 17 + 1) (by omega)
  have e3 := fi_p1 (p := M 81 17 + 1 + 1) (by omega)
  unfold rm_M
  split
  · exact ⟨h1, ⟨h2, h3, h4⟩, h5, h6⟩
  split
  · exact ⟨h1, ⟨h2, h3, h4⟩, h5, h6⟩
  rename_i c1
  have c1 := fi_ne c1
  rw [fi_i4] at c1
  have el := fi_p1 (p := M 81 22) (by omega)
  split
  · exact ⟨h1, ⟨h2, h3, h4⟩, h5, h6⟩
  split
  · rename_i g1
    have z1 : (M 81 17 + 1).toInt ≠ (M 81 18).toInt := rg_lt g1
    split
    · rename_i g2
      have z2 : (M 81 17 + 1 + 1).toInt ≠ (M 81 18).toInt := rg_lt g2
      exact ⟨h1, ⟨show 0 ≤ (M 81 17 + 1 + 1 + 1).toInt by omega, show (M 81 17 + 1 + 1 + 1).toInt ≤ (M 81 18).toInt by omega, h4⟩, h5, ⟨show 0 ≤ (M 81 22 + 1).toInt by omega, show (M 81 22 + 1).toInt ≤ 4 by omega⟩⟩
    · exact ⟨h1, ⟨show 0 ≤ (M 81 17 + 1 + 1).toInt by omega, show (M 81 17 + 1 + 1).toInt ≤ (M 81 18).toInt by omega, h4⟩, h5, h6⟩
  · exact ⟨h1, ⟨show 0 ≤ (M 81 17 + 1).toInt by omega, show (M 81 17 + 1).toInt ≤ (M 81 18).toInt by omega, h4⟩, h5, h6⟩
theorem rl_pl {M : fl_M} (h : ¬ rl_v M = 0) : rl_M M 81 17 = M 81 17 + 1 + 1 + 1 + 1 ∧ rl_M M 81 18 = M 81 18 := by
  unfold rl_v at h
  unfold rl_M
  repeat' split at h
  all_goals first
    | exact absurd rfl h
    | (simp only [*, if_true, if_false, not_false_eq_true, and_self]; exact ⟨rfl, rfl⟩)
theorem rm_pl {M : fl_M} (h : ¬ rm_v M = 0) : rm_M M 81 17 = M 81 17 + 1 + 1 + 1 ∧ rm_M M 81 18 = M 81 18 := by
  unfold rm_v at h
  unfold rm_M
  repeat' split at h
  all_goals first
    | exact absurd rfl h
    | (simp only [*, if_true, if_false, not_false_eq_true, and_self]; exact ⟨rfl, rfl⟩)
def fB120 : sm_P := (fun pc => sm_ch sm_t120 pc, sm_Kn 3 3 none, fun x => sm_lk sm_ca3 x, some .int)
theorem ts_120 (d : Nat) (M : fl_M) (J : fl_J) (t v : Int32) {r : fl_Q} (hI : rI M) (q1 : (¬ (v = 0)) → ((M 81 17) < (M 81 18)) → ((rh M) = 108) → ((rl_v M) = 0) → tw (d + 4) fB120 (46, [.ref 81, .int t, .int (rl_v M)], [], (rl_M M), J) r) (q2 : (¬ (v = 0)) → ((M 81 17) < (M 81 18)) → ((rh M) = 108) → (¬ ((rl_v M) = 0)) → tw (d + 4) fB120 (46, [.ref 81, .int t, .int (rl_v M)], [], (rsk 60 (rl_M M)), J) r) (q3 : (¬ (v = 0)) → ((M 81 17) < (M 81 18)) → (¬ ((rh M) = 108)) → ((rm_v M) = 0) → tw (d + 4) fB120 (46, [.ref 81, .int t, .int (rm_v M)], [], (rm_M M), J) r) (q4 : (¬ (v = 0)) → ((M 81 17) < (M 81 18)) → (¬ ((rh M) = 108)) → (¬ ((rm_v M) = 0)) → tw (d + 4) fB120 (46, [.ref 81, .int t, .int (rm_v M)], [], (rsk 60 (rm_M M)), J) r) (e1 : (v = 0) → (v = 0) → (some (.int (M 81 17)), M, J) = r) (e2 : (¬ (v = 0)) → (¬ ((M 81 17) < (M 81 18))) → (¬ (v = 0)) → (0 < (M 81 22)) → (some (.int (-9)), M, J) = r) (e3 : (¬ (v = 0)) → (¬ ((M 81 17) < (M 81 18))) → (¬ (v = 0)) → (¬ (0 < (M 81 22))) → (some (.int (M 81 17)), M, J) = r) : tw (d + 4) fB120 (46, [.ref 81, .int t, .int v], [], M, J) r := by
  have hB : fw_B fB120 := fw_sB (k := 120) (by decide)
  obtain ⟨⟨hF, hF2⟩, ⟨hP, hE, hE2⟩, ⟨hL, hL2⟩, ⟨hm, hm2⟩⟩ := id hI
  exact tw_n (s' := (47, [.ref 81, .int t, .int v], [.int v], M, J)) hB 1 rfl <|
  tw_if hB (t := 93) rfl rfl fl_cT (fun h1 =>
   tw_n (s' := (94, [.ref 81, .int t, .int v], [.int v], M, J)) hB 1 rfl <|
   tw_if hB (t := 109) rfl rfl fl_cT (fun h2 =>
    tw_n (s' := (113, [.ref 81, .int t, .int v], [.int (M 81 17)], M, J)) hB 2 rfl <|
    tw_ri rfl rfl (e1 h1 h2)) (fun h2 =>
    absurd h1 h2)) (fun h1 =>
   tw_n (s' := (58, [.ref 81, .int t, .int v], [.int (M 81 18), .int (M 81 17)], M, J)) hB 4 rfl <|
   tw_icN hB (t := 93) rfl rfl fl_nlt (fun h3 =>
    tw_n (s' := (62, [.ref 81, .int t, .int v], [.ref 81], M, J)) hB 1 rfl <|
    tw_cv hB (st0 := []) (o := some (.int (rh M))) rfl rfl rfl rfl rfl (show (0 : Nat) ≤ 8 by decide) rfl (by decide) (cc_123 _ M J (show 0 ≤ (M 81 16).toInt by omega) (show (M 81 16).toInt ≤ 180 by omega) (show 0 ≤ (M 81 17).toInt by omega) (by show (M 81 17).toInt < 60; first | omega | (have z := fi_ne (show ¬ (M 81 17) = (M 81 18) by assumption); omega) | (have z := fi_l.mp (show (M 81 17) < (M 81 18) by assumption); omega))) rfl <|
    tw_sh (s := (65, [.ref 81, .int t, .int v], [.int (rh M)], M, J)) <|
    tw_n (s' := (67, [.ref 81, .int t, .int v], [.int 108, .int (rh M)], M, J)) hB 1 rfl <|
    tw_icN hB (t := 77) rfl rfl fl_cF (fun h4 =>
     tw_n (s' := (71, [.ref 81, .int t, .int v], [.ref 81], M, J)) hB 1 rfl <|
     tw_cv hB (st0 := []) (o := some (.int (rl_v M))) rfl rfl rfl rfl rfl (show (0 : Nat) ≤ 8 by decide) rfl (by decide) (cc_124 _ M J hF hF2 hP hE hE2 hL hL2 (fi_l.mp (by assumption))) rfl <|
     tw_sh (s := (74, [.ref 81, .int t, .int v], [.int (rl_v M)], (rl_M M), J)) <|
     tw_n (s' := (83, [.ref 81, .int t, .int (rl_v M)], [.int (rl_v M)], (rl_M M), J)) hB 3 rfl <|
     tw_if hB (t := 46) rfl rfl fl_cT (fun h5 =>
      (q1 h1 h3 h4 h5)) (fun h5 =>
      tw_n (s' := (87, [.ref 81, .int t, .int (rl_v M)], [.ref 81], (rl_M M), J)) hB 1 rfl <|
      tw_cv hB (st0 := []) (o := none) rfl rfl rfl rfl rfl (show (0 : Nat) ≤ 8 by decide) rfl (by decide) (cc_122 _ (rl_M M) J (rI_rl hI (fi_l.mp (by assumption))).1.1 (rI_rl hI (fi_l.mp (by assumption))).1.2 (rI_rl hI (fi_l.mp (by assumption))).2.1.1 (rI_rl hI (fi_l.mp (by assumption))).2.1.2.1 (rI_rl hI (fi_l.mp (by assumption))).2.1.2.2) rfl <|
      tw_sh (s := (90, [.ref 81, .int t, .int (rl_v M)], [], (rsk 60 (rl_M M)), J)) <|
      tw_n (s' := (46, [.ref 81, .int t, .int (rl_v M)], [], (rsk 60 (rl_M M)), J)) hB 1 rfl <|
      (q2 h1 h3 h4 h5))) (fun h4 =>
     tw_n (s' := (78, [.ref 81, .int t, .int v], [.ref 81], M, J)) hB 1 rfl <|
     tw_cv hB (st0 := []) (o := some (.int (rm_v M))) rfl rfl rfl rfl rfl (show (0 : Nat) ≤ 8 by decide) rfl (by decide) (cc_127 _ M J hF hF2 hP hE hE2 hL hL2 (fi_l.mp (by assumption)) hm hm2) rfl <|
     tw_sh (s := (81, [.ref 81, .int t, .int v], [.int (rm_v M)], (rm_M M), J)) <|
     tw_n (s' := (83, [.ref 81, .int t, .int (rm_v M)], [.int (rm_v M)], (rm_M M), J)) hB 2 rfl <|
     tw_if hB (t := 46) rfl rfl fl_cT (fun h6 =>
      (q3 h1 h3 h4 h6)) (fun h6 =>
      tw_n (s' := (87, [.ref 81, .int t, .int (rm_v M)], [.ref 81], (rm_M M), J)) hB 1 rfl <|
      tw_cv hB (st0 := []) (o := none) rfl rfl rfl rfl rfl (show (0 : Nat) ≤ 8 by decide) rfl (by decide) (cc_122 _ (rm_M M) J (rI_rm hI (fi_l.mp (by assumption))).1.1 (rI_rm hI (fi_l.mp (by assumption))).1.2 (rI_rm hI (fi_l.mp (by assumption))).2.1.1 (rI_rm hI (fi_l.mp (by assumption))).2.1.2.1 (rI_rm hI (fi_l.mp (by assumption))).2.1.2.2) rfl <|
      tw_sh (s := (90, [.ref 81, .int t, .int (rm_v M)], [], (rsk 60 (rm_M M)), J)) <|
      tw_n (s' := (46, [.ref 81, .int t, .int (rm_v M)], [], (rsk 60 (rm_M M)), J)) hB 1 rfl <|
      (q4 h1 h3 h4 h6)))) (fun h3 =>
    tw_n (s' := (94, [.ref 81, .int t, .int v], [.int v], M, J)) hB 1 rfl <|
    tw_if hB (t := 109) rfl rfl fl_cT (fun h7 =>
     absurd h7 h1) (fun h7 =>
     tw_n (s' := (101, [.ref 81, .int t, .int v], [.int (M 81 22)], M, J)) hB 2 rfl <|
     tw_ifN hB (t := 109) rfl rfl fl_nle (fun h8 =>
      tw_n (s' := (113, [.ref 81, .int t, .int v], [.int (-9)], M, J)) hB 2 rfl <|
      tw_ri rfl rfl (e2 h1 h3 h7 h8)) (fun h8 =>
      tw_n (s' := (113, [.ref 81, .int t, .int v], [.int (M 81 17)], M, J)) hB 2 rfl <|
      tw_ri rfl rfl (e3 h1 h3 h7 h8)))))
/-- what the reference reads from where it stands on -/
def rpar : Nat → Int32 → fl_M → Int32 × fl_M
  | 0, v, M => (if v = 0 then M 81 17 else if 0 < M 81 22 then (-9) else M 81 17, M)
  | f + 1, v, M => if v = 0 then (M 81 17, M) else if M 81 17 < M 81 18 then (if rh M = 108 then (if rl_v M = 0 then rpar f (rl_v M) (rl_M M) else rpar f (rl_v M) (rsk 60 (rl_M M))) else (if rm_v M = 0 then rpar f (rm_v M) (rm_M M) else rpar f (rm_v M) (rsk 60 (rm_M M))))
    else (if 0 < M 81 22 then (-9) else M 81 17, M)
theorem lp_120 (d : Nat) (J : fl_J) (t : Int32) : ∀ (f : Nat) (v : Int32) (M : fl_M), rI M → (¬ v = 0 → (M 81 18).toInt ≤ (M 81 17).toInt + f) → tw (d + 4) fB120 (46, [.ref 81, .int t, .int v], [], M, J) (some (.int (rpar f v M).1), (rpar f v M).2, J) := by
  intro f
  induction f with
  | zero =>
    intro v M hI hf
    have no : ¬ v = 0 → ¬ M 81 17 < M 81 18 := fun z1 z2 => by
      have z2 := fi_l.mp z2
      have := hf z1
      omega
    refine ts_120 d M J t v hI (fun z1 z2 => absurd z2 (no z1)) (fun z1 z2 => absurd z2 (no z1)) (fun z1 z2 => absurd z2 (no z1)) (fun z1 z2 => absurd z2 (no z1)) (fun z1 _ => ?_) (fun z1 z2 _ z4 => ?_) (fun z1 z2 _ z4 => ?_)
    · unfold rpar
      rw [if_pos z1]
    · unfold rpar
      rw [if_neg z1, if_pos z4]
    · unfold rpar
      rw [if_neg z1, if_neg z4]
  | succ f ih =>
    intro v M hI hf
    unfold rpar
    have pl : ∀ X : fl_M, rI X → X 81 18 = M 81 18 → (M 81 17).toInt + 1 ≤ (X 81 17).toInt → ¬ v = 0 → (rsk 60 X 81 18).toInt ≤ (rsk 60 X 81 17).toInt + f := by
      intro X hX h1 h2 h3
      obtain ⟨w1, -, w3, -⟩ := rsk_f 60 X hX.2.1.2.1 hX.2.1.2.2
      have := hf h3
      rw [w1 18 (by decide), h1]
      omega
    refine ts_120 d M J t v hI (fun z1 z2 z3 z4 => ?_) (fun z1 z2 z3 z4 => ?_) (fun z1 z2 z3 z4 => ?_) (fun z1 z2 z3 z4 => ?_) (fun z1 _ => ?_) (fun z1 z2 _ z4 => ?_) (fun z1 z2 _ z4 => ?_)
    · rw [if_neg z1, if_pos z2, if_pos z3, if_pos z4]
      exact ih _ _ (rI_rl hI (fi_l.mp z2)) (fun y => absurd z4 y)
    · rw [if_neg z1, if_pos z2, if_pos z3, if_neg z4]
      have hI2 := rI_rl hI (fi_l.mp z2)
      refine ih _ _ (rI_rsk hI2) (fun _ => pl _ hI2 (rl_pl z4).2 ?_ z1)
      have y := fi_l.mp z2
      have b := hI.2.1.2.2
      have e1 := fi_p1 (p := M 81 17) (by omega)
      have e2 := fi_p1 (p := M 81 17 + 1) (by omega)
      have e3 := fi_p1 (p := M 81 17 + 1 + 1) (by omega)
      have e4 := fi_p1 (p := M 81 17 + 1 + 1 + 1) (by omega)
      rw [(rl_pl z4).1]
      omega
    · rw [if_neg z1, if_pos z2, if_neg z3, if_pos z4]
      exact ih _ _ (rI_rm hI (fi_l.mp z2)) (fun y => absurd z4 y)
    · rw [if_neg z1, if_pos z2, if_neg z3, if_neg z4]
      have hI2 := rI_rm hI (fi_l.mp z2)
      refine ih _ _ (rI_rsk hI2) (fun _ => pl _ hI2 (rm_pl z4).2 ?_ z1)
      have y := fi_l.mp z2
      have b := hI.2.1.2.2
      have e1 := fi_p1 (p := M 81 17) (by omega)
      have e2 := fi_p1 (p := M 81 17 + 1) (by omega)
      have e3 := fi_p1 (p := M 81 17 + 1 + 1) (by omega)
      rw [(rm_pl z4).1]
      omega
    · rw [if_pos z1]
    · rw [if_neg z1, if_neg z2, if_pos z4]
    · rw [if_neg z1, if_neg z2, if_neg z4]
theorem rI_hd {M : fl_M} (h : rI M) : rI (hd_M M) := by
  have hX := rI_rsk (f := 60) h
  have e0 : rsk 60 M 81 17 + 0 = rsk 60 M 81 17 := Int32.add_zero _
  unfold hd_M
  rw [e0]
  split
  · rename_i h1
    have h1 := fi_l.mp h1
    have b := hX.2.1.2.2
    have e1 := fi_p1 (p := rsk 60 M 81 17) (by omega)
    split
    · exact rI_pl hX (by have := hX.2.1.1; omega) (by omega)
    · exact rI_pl hX hX.2.1.1 hX.2.1.2.1
  · exact rI_pl hX hX.2.1.1 hX.2.1.2.1
theorem cc_120 (d : Nat) (M : fl_M) (J : fl_J) (t : Int32) (h0 : 0 ≤ t.toInt) (h3 : t.toInt ≤ 3) (hn0 : 0 ≤ (M 89 t.toNatClampNeg).toInt) (hn : (M 89 t.toNatClampNeg).toInt ≤ 60) : tw_C (d + 5) 120 [.ref 81, .int t] M J (some (.int (if (hd_v (fl_u (fl_u (fl_u (fl_u (fl_u M 81 16 (60 * t)) 81 17 0) 81 18 (M 89 t.toNatClampNeg)) 81 19 0) 81 22 0)) = 0 then (rpar 60 (hd_v (fl_u (fl_u (fl_u (fl_u (fl_u M 81 16 (60 * t)) 81 17 0) 81 18 (M 89 t.toNatClampNeg)) 81 19 0) 81 22 0)) (hd_M (fl_u (fl_u (fl_u (fl_u (fl_u M 81 16 (60 * t)) 81 17 0) 81 18 (M 89 t.toNatClampNeg)) 81 19 0) 81 22 0))).1 else (rpar 60 (hd_v (fl_u (fl_u (fl_u (fl_u (fl_u M 81 16 (60 * t)) 81 17 0) 81 18 (M 89 t.toNatClampNeg)) 81 19 0) 81 22 0)) (rsk 60 (hd_M (fl_u (fl_u (fl_u (fl_u (fl_u M 81 16 (60 * t)) 81 17 0) 81 18 (M 89 t.toNatClampNeg)) 81 19 0) 81 22 0)))).1)), (if (hd_v (fl_u (fl_u (fl_u (fl_u (fl_u M 81 16 (60 * t)) 81 17 0) 81 18 (M 89 t.toNatClampNeg)) 81 19 0) 81 22 0)) = 0 then (rpar 60 (hd_v (fl_u (fl_u (fl_u (fl_u (fl_u M 81 16 (60 * t)) 81 17 0) 81 18 (M 89 t.toNatClampNeg)) 81 19 0) 81 22 0)) (hd_M (fl_u (fl_u (fl_u (fl_u (fl_u M 81 16 (60 * t)) 81 17 0) 81 18 (M 89 t.toNatClampNeg)) 81 19 0) 81 22 0))).2 else (rpar 60 (hd_v (fl_u (fl_u (fl_u (fl_u (fl_u M 81 16 (60 * t)) 81 17 0) 81 18 (M 89 t.toNatClampNeg)) 81 19 0) 81 22 0)) (rsk 60 (hd_M (fl_u (fl_u (fl_u (fl_u (fl_u M 81 16 (60 * t)) 81 17 0) 81 18 (M 89 t.toNatClampNeg)) 81 19 0) 81 22 0)))).2), J) := by
  have hB : fw_B fB120 := fw_sB (k := 120) (by decide)
  have et : (60 * t).toInt = 60 * t.toInt := by rw [fi_mul (by rw [fi_i60]; omega) (by rw [fi_i60]; omega), fi_i60]
  have k1 : 0 ≤ (60 * t).toInt := by omega
  have k2 : (60 * t).toInt ≤ 180 := by omega
  have k3 : 0 ≤ (0 : Int32).toInt := by decide
  have k4 : (0 : Int32).toInt ≤ (M 89 t.toNatClampNeg).toInt := by rw [fi_i0]; exact hn0
  have k5 := hn
  have hi1 : rI (fl_u (fl_u (fl_u (fl_u (fl_u M 81 16 (60 * t)) 81 17 0) 81 18 (M 89 t.toNatClampNeg)) 81 19 0) 81 22 0) := ⟨⟨k1, k2⟩, ⟨k3, k4, k5⟩, ⟨k3, show (0 : Int32).toInt ≤ 8 by decide⟩, ⟨k3, show (0 : Int32).toInt ≤ 4 by decide⟩⟩
  have hd_I := rI_hd hi1
  refine tw_Co (d := d + 4) (B := fB120) (by decide) rfl rfl (show (2 : Nat) ≤ 3 by decide) ?_ ?_
  · intro i v hv hn
    match i, hv with
    | 0, hv => cases hv; rfl
    | 1, hv => cases hv; rfl
    | 2, hv => cases hv; exact absurd rfl hn
    | _ + 3, hv => cases hv
  exact tw_n (s' := (19, [.ref 81, .int t, .null], [.int t, .ref 89, .ref 81], (fl_u (fl_u M 81 16 (60 * t)) 81 17 0), J)) hB 12 rfl <|
  tw_ia hB rfl rfl (by decide) h0 (show t.toInt < 4 by omega) <|
  tw_n (s' := (34, [.ref 81, .int t, .null], [.ref 81], (fl_u (fl_u (fl_u (fl_u (fl_u M 81 16 (60 * t)) 81 17 0) 81 18 (M 89 t.toNatClampNeg)) 81 19 0) 81 22 0), J)) hB 8 rfl <|
  tw_cv hB (st0 := []) (o := some (.int (hd_v (fl_u (fl_u (fl_u (fl_u (fl_u M 81 16 (60 * t)) 81 17 0) 81 18 (M 89 t.toNatClampNeg)) 81 19 0) 81 22 0)))) rfl rfl rfl rfl rfl (show (0 : Nat) ≤ 8 by decide) rfl (by decide) (cc_121 _ (fl_u (fl_u (fl_u (fl_u (fl_u M 81 16 (60 * t)) 81 17 0) 81 18 (M 89 t.toNatClampNeg)) 81 19 0) 81 22 0) J k1 k2 k3 k4 k5) rfl <|
  tw_sh (s := (37, [.ref 81, .int t, .null], [.int (hd_v (fl_u (fl_u (fl_u (fl_u (fl_u M 81 16 (60 * t)) 81 17 0) 81 18 (M 89 t.toNatClampNeg)) 81 19 0) 81 22 0))], (hd_M (fl_u (fl_u (fl_u (fl_u (fl_u M 81 16 (60 * t)) 81 17 0) 81 18 (M 89 t.toNatClampNeg)) 81 19 0) 81 22 0)), J)) <|
  tw_n (s' := (39, [.ref 81, .int t, .int (hd_v (fl_u (fl_u (fl_u (fl_u (fl_u M 81 16 (60 * t)) 81 17 0) 81 18 (M 89 t.toNatClampNeg)) 81 19 0) 81 22 0))], [.int (hd_v (fl_u (fl_u (fl_u (fl_u (fl_u M 81 16 (60 * t)) 81 17 0) 81 18 (M 89 t.toNatClampNeg)) 81 19 0) 81 22 0))], (hd_M (fl_u (fl_u (fl_u (fl_u (fl_u M 81 16 (60 * t)) 81 17 0) 81 18 (M 89 t.toNatClampNeg)) 81 19 0) 81 22 0)), J)) hB 2 rfl <|
  tw_if hB (t := 46) rfl rfl fl_cT (fun h1 =>
   tw_de (lp_120 d J t 60 _ _ hd_I (fun _ => by have q1 := hd_I.2.1.1; have q2 := hd_I.2.1.2.2; omega)) (by first | (simp only [if_pos h1]; done) | rfl)) (fun h1 =>
   tw_n (s' := (43, [.ref 81, .int t, .int (hd_v (fl_u (fl_u (fl_u (fl_u (fl_u M 81 16 (60 * t)) 81 17 0) 81 18 (M 89 t.toNatClampNeg)) 81 19 0) 81 22 0))], [.ref 81], (hd_M (fl_u (fl_u (fl_u (fl_u (fl_u M 81 16 (60 * t)) 81 17 0) 81 18 (M 89 t.toNatClampNeg)) 81 19 0) 81 22 0)), J)) hB 1 rfl <|
   tw_cv hB (st0 := []) (o := none) rfl rfl rfl rfl rfl (show (0 : Nat) ≤ 8 by decide) rfl (by decide) (cc_122 _ (hd_M (fl_u (fl_u (fl_u (fl_u (fl_u M 81 16 (60 * t)) 81 17 0) 81 18 (M 89 t.toNatClampNeg)) 81 19 0) 81 22 0)) J hd_I.1.1 hd_I.1.2 hd_I.2.1.1 hd_I.2.1.2.1 hd_I.2.1.2.2) rfl <|
   tw_sh (s := (46, [.ref 81, .int t, .int (hd_v (fl_u (fl_u (fl_u (fl_u (fl_u M 81 16 (60 * t)) 81 17 0) 81 18 (M 89 t.toNatClampNeg)) 81 19 0) 81 22 0))], [], (rsk 60 (hd_M (fl_u (fl_u (fl_u (fl_u (fl_u M 81 16 (60 * t)) 81 17 0) 81 18 (M 89 t.toNatClampNeg)) 81 19 0) 81 22 0))), J)) <|
   tw_de (lp_120 d J t 60 _ _ (rI_rsk (f := 60) hd_I) (fun _ => by have q1 := (rI_rsk (f := 60) hd_I).2.1.1; have q2 := (rI_rsk (f := 60) hd_I).2.1.2.2; omega)) (by first | (simp only [if_neg h1]; done) | rfl))

