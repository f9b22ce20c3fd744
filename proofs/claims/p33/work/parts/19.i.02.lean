theorem ct_23 (d : Nat) (M : fl_M) (J : fl_J) (h8 : (M 24 0).toInt ≤ 8) (h4 : (M 24 1).toInt ≤ 4) : tw_C (d + 1) 23 [.ref 15, .ref 24] M J (none, m_23 15 24 M, J) := by
  refine ⟨fw_Co (d := d) (B := fB23) (by decide) rfl rfl (show (2 : Nat) ≤ 3 by decide) ?_ ?_, cc_23 M J 15 24⟩
  · intro i v hv hn
    match i, hv with
    | 0, hv => cases hv; rfl
    | 1, hv => cases hv; rfl
    | 2, hv => cases hv; exact absurd rfl hn
    | _ + 3, hv => cases hv
  · refine fs_23_0 d M J (fq_23a d J 8 _ _ (by decide) ?_ ?_ (by decide))
    · rw [fl_uo (Or.inr (by decide)), fl_uo (Or.inr (by decide)), fl_uo (Or.inr (by decide)), fl_uo (Or.inr (by decide)), fl_us]
      exact h8
    · rw [fl_uo (Or.inr (by decide)), fl_uo (Or.inr (by decide)), fl_uo (Or.inr (by decide)), fl_us]
      exact h4
theorem fq_21 (d : Nat) (J : fl_J) (t : Int32) : ∀ (n : Nat) (i : Int32) (M : fl_M), 0 ≤ i.toInt → 3 ≤ i.toInt + n → fw d fB21 (66, [.ref 0, .int t, .int i], [], M, J) := by
  intro n
  induction n with
  | zero => intro i M hi hn; exact fs_21_66 d M J t i hi (fun z => by have z : i.toInt < 3 := fi_l.mp z; omega)
  | succ n ih =>
    intro i M hi hn
    refine fs_21_66 d M J t i hi (fun z => ?_)
    have z : i.toInt < 3 := fi_l.mp z
    have e := fi_p1 (p := i) (by omega)
    exact ih _ _ (by omega) (by omega)
theorem fq_129d (d : Nat) (J : fl_J) (t : Int32) : ∀ (n : Nat) (i : Int32) (M : fl_M), 0 ≤ i.toInt → i.toInt ≤ 4 → 4 ≤ i.toInt + n → fw d fB129 (204, [.ref 81, .int t, .int i], [], M, J) := by
  intro n
  induction n with
  | zero => intro i M hi h4 hn; exact fs_129_204 d M J t i hi h4 (fun z => by have z : i.toInt < 4 := fi_l.mp z; omega)
  | succ n ih =>
    intro i M hi h4 hn
    refine fs_129_204 d M J t i hi h4 (fun z => ?_)
    have z : i.toInt < 4 := fi_l.mp z
    have e := fi_p1 (p := i) (by omega)
    exact ih _ _ (by omega) (by omega) (by omega)
theorem fq_129c (d : Nat) (J : fl_J) (t : Int32) : ∀ (n : Nat) (i : Int32) (M : fl_M), 0 ≤ i.toInt → i.toInt ≤ 4 → (M 81 4).toInt ≤ 4 → 4 ≤ i.toInt + n → fw d fB129 (139, [.ref 81, .int t, .int i], [], M, J) := by
  intro n
  induction n with
  | zero => intro i M hi h4 hm hn; exact fs_129_139 d M J t i hi h4 hm (fun z => by have z := fi_l.mp z; omega) (fun _ => fq_129d d J t 4 _ _ (by decide) (by decide) (by decide))
  | succ n ih =>
    intro i M hi h4 hm hn
    refine fs_129_139 d M J t i hi h4 hm (fun z => ?_) (fun _ => fq_129d d J t 4 _ _ (by decide) (by decide) (by decide))
    have z := fi_l.mp z
    have e := fi_p1 (p := i) (by omega)
    exact ih _ _ (by omega) (by omega) (by rw [fl_un (by decide), fl_un (by decide), fl_un (by decide)]; exact hm) (by omega)
theorem fq_129b (d : Nat) (J : fl_J) (t : Int32) : ∀ (n : Nat) (i : Int32) (M : fl_M), 0 ≤ i.toInt → i.toInt ≤ 8 → (M 81 1).toInt ≤ 8 → (M 81 4).toInt ≤ 4 → 8 ≤ i.toInt + n → fw d fB129 (85, [.ref 81, .int t, .int i], [], M, J) := by
  intro n
  induction n with
  | zero => intro i M hi h8 hl hm hn; exact fs_129_85 d M J t i hi h8 hl (fun z => by have z := fi_l.mp z; omega) (fun _ => fq_129c d J t 4 _ _ (by decide) (by decide) hm (by decide))
  | succ n ih =>
    intro i M hi h8 hl hm hn
    refine fs_129_85 d M J t i hi h8 hl (fun z => ?_) (fun _ => fq_129c d J t 4 _ _ (by decide) (by decide) hm (by decide))
    have z := fi_l.mp z
    have e := fi_p1 (p := i) (by omega)
    exact ih _ _ (by omega) (by omega) (by rw [fl_un (by decide), fl_un (by decide), fl_un (by decide)]; exact hl) (by rw [fl_un (by decide), fl_un (by decide), fl_un (by decide)]; exact hm) (by omega)
theorem fq_129a (d : Nat) (J : fl_J) (t : Int32) : ∀ (n : Nat) (i : Int32) (M : fl_M), 0 ≤ i.toInt → (M 81 19).toInt ≤ 8 → (M 81 22).toInt ≤ 4 → 944 ≤ i.toInt + n → fw d fB129 (39, [.ref 81, .int t, .int i], [], M, J) := by
  have out : ∀ (i : Int32) (M : fl_M), (M 81 19).toInt ≤ 8 → (M 81 22).toInt ≤ 4 → fw d fB129 (85, [.ref 81, .int t, .int 0], [], (fl_u (fl_u (fl_u M 82 2 (-9)) 81 1 (M 81 19)) 81 4 (M 81 22)), J) := by
    intro i M hl hm
    refine fq_129b d J t 8 _ _ (by decide) (by decide) ?_ ?_ (by decide)
    · rw [fl_uo (Or.inr (by decide)), fl_us]
      exact hl
    · rw [fl_us]
      exact hm
  intro n
  induction n with
  | zero => intro i M hi hl hm hn; exact fs_129_39 d M J t i hi (fun z => by have z : i.toInt < 944 := fi_l.mp z; omega) (fun _ => out i M hl hm)
  | succ n ih =>
    intro i M hi hl hm hn
    refine fs_129_39 d M J t i hi (fun z => ?_) (fun _ => out i M hl hm)
    have z : i.toInt < 944 := fi_l.mp z
    have e := fi_p1 (p := i) (by omega)
    exact ih _ _ (by omega) (by rw [fl_un (by decide)]; exact hl) (by rw [fl_un (by decide)]; exact hm) (by omega)
set_option maxRecDepth 8000 in
theorem fs_14 (d : Nat) (M : fl_M) (J : fl_J) (t : Int32) (hs : ∀ q, q < 4 → (M 9 q).toInt ≤ 60) (hK : M 999 = sm_kl) : fw (d + 3) fB14 (0, [.ref 0, .int t], [], M, J) := by
  have hB : fw_B fB14 := fw_sB (k := 14) (by decide)
  exact fw_n (s' := (1, [.ref 0, .int t], [.int t], M, J)) hB 1 rfl <|
  fw_cs hB (st0 := []) (o := some (.int (if (t < 0) ∨ (¬ (t < 4)) then 1 else 0))) rfl rfl (by decide) rfl rfl (show (0 : Nat) ≤ 8 by decide) (cu_12 _ M J t) rfl <|
  fw_sh (s := (4, [.ref 0, .int t], [.int (if (t < 0) ∨ (¬ (t < 4)) then 1 else 0)], M, J)) <|
  fw_ifN hB (t := 9) rfl rfl fl_b0 (fun h1 =>
   fw_n (s' := (8, [.ref 0, .int t], [.int (-1)], M, J)) hB 1 rfl <|
   fw_ri rfl rfl) (fun h1 =>
   fw_n (s' := (14, [.ref 0, .int t], [.int t, .ref 9], M, J)) hB 3 rfl <|
   fw_ia hB rfl rfl (by decide) (t4 h1).1 (show t.toInt < 4 from (t4 h1).2) <|
   fw_n (s' := (16, [.ref 0, .int t], [.int (-1), .int (M 9 t.toNatClampNeg)], M, J)) hB 1 rfl <|
   fw_icN hB (t := 25) rfl rfl fl_cF (fun h2 =>
    fw_n (s' := (21, [.ref 0, .int t], [.int 1, .ref 0], M, J)) hB 2 rfl <|
    fw_cv hB (st0 := []) (o := some (.int (-3))) rfl rfl rfl rfl rfl (show (0 : Nat) ≤ 8 by decide) rfl (by decide) (cu_2 _ M J 1 (by decide) (by decide)) rfl <|
    fw_sh (s := (24, [.ref 0, .int t], [.int (-3)], (fl_u (fl_u M 0 11 1) 80 1 ((M 80 1) + 1)), J)) <|
    fw_ri rfl rfl) (fun h2 =>
    fw_n (s' := (27, [.ref 0, .int t], [.int t, .ref 0], M, J)) hB 2 rfl <|
    fw_cv hB (st0 := []) (o := some (.int (ra_v M t))) rfl rfl rfl rfl rfl (show (0 : Nat) ≤ 8 by decide) rfl (by decide) (ct_15 _ M J t (t4 h1).1 (t4 h1).2 hs hK) rfl <|
    fw_sh (s := (30, [.ref 0, .int t], [.int (ra_v M t)], (ra_M M t), J)) <|
    fw_ri rfl rfl))
set_option maxRecDepth 8000 in
theorem fs_21 (d : Nat) (M : fl_M) (J : fl_J) (t : Int32) (hs : ∀ q, q < 4 → (M 9 q).toInt ≤ 60) (hK : M 999 = sm_kl) (cR : 0 ≤ t.toInt ∧ t.toInt < 4 → ((ra_M M t) 24 0).toInt ≤ 8 ∧ ((ra_M M t) 24 1).toInt ≤ 4) (cB : 0 ≤ t.toInt ∧ t.toInt < 4 → ((bgn 24 (ra_M M t)) 24 0).toInt ≤ 8 ∧ ((bgn 24 (ra_M M t)) 24 1).toInt ≤ 4) (q1 : (¬ ((t < 0) ∨ (¬ (t < 4)))) → (¬ ((M 9 t.toNatClampNeg) = (-1))) → ((ra_v M t) = (-9)) → fw (d + 3) fB21 (66, [.ref 0, .int t, .int 0], [], (fl_u (m_23 15 24 (bgn 24 (ra_M M t))) 42 0 0), J)) : fw (d + 3) fB21 (0, [.ref 0, .int t, .null], [], M, J) := by
  have hB : fw_B fB21 := fw_sB (k := 21) (by decide)
  exact fw_n (s' := (1, [.ref 0, .int t, .null], [.int t], M, J)) hB 1 rfl <|
  fw_cs hB (st0 := []) (o := some (.int (if (t < 0) ∨ (¬ (t < 4)) then 1 else 0))) rfl rfl (by decide) rfl rfl (show (0 : Nat) ≤ 8 by decide) (cu_12 _ M J t) rfl <|
  fw_sh (s := (4, [.ref 0, .int t, .null], [.int (if (t < 0) ∨ (¬ (t < 4)) then 1 else 0)], M, J)) <|
  fw_ifN hB (t := 9) rfl rfl fl_b0 (fun h1 =>
   fw_n (s' := (8, [.ref 0, .int t, .null], [.int (-1)], M, J)) hB 1 rfl <|
   fw_ri rfl rfl) (fun h1 =>
   fw_n (s' := (14, [.ref 0, .int t, .null], [.int t, .ref 9], M, J)) hB 3 rfl <|
   fw_ia hB rfl rfl (by decide) (t4 h1).1 (show t.toInt < 4 from (t4 h1).2) <|
   fw_n (s' := (16, [.ref 0, .int t, .null], [.int (-1), .int (M 9 t.toNatClampNeg)], M, J)) hB 1 rfl <|
   fw_icN hB (t := 25) rfl rfl fl_cF (fun h2 =>
    fw_n (s' := (21, [.ref 0, .int t, .null], [.int 1, .ref 0], M, J)) hB 2 rfl <|
    fw_cv hB (st0 := []) (o := some (.int (-3))) rfl rfl rfl rfl rfl (show (0 : Nat) ≤ 8 by decide) rfl (by decide) (cu_2 _ M J 1 (by decide) (by decide)) rfl <|
    fw_sh (s := (24, [.ref 0, .int t, .null], [.int (-3)], (fl_u (fl_u M 0 11 1) 80 1 ((M 80 1) + 1)), J)) <|
    fw_ri rfl rfl) (fun h2 =>
    fw_n (s' := (27, [.ref 0, .int t, .null], [.int t, .ref 0], M, J)) hB 2 rfl <|
    fw_cv hB (st0 := []) (o := some (.int (ra_v M t))) rfl rfl rfl rfl rfl (show (0 : Nat) ≤ 8 by decide) rfl (by decide) (ct_15 _ M J t (t4 h1).1 (t4 h1).2 hs hK) rfl <|
    fw_sh (s := (30, [.ref 0, .int t, .null], [.int (ra_v M t)], (ra_M M t), J)) <|
    fw_n (s' := (32, [.ref 0, .int t, .null], [.int (-9), .int (ra_v M t)], (ra_M M t), J)) hB 1 rfl <|
    fw_ic hB (t := 38) rfl rfl fl_cT (fun h3 =>
     fw_n (s' := (42, [.ref 0, .int t, .null], [.ref 24], (ra_M M t), J)) hB 2 rfl <|
     fw_cv hB (st0 := []) (o := none) rfl rfl rfl rfl rfl (show (0 : Nat) ≤ 8 by decide) rfl (by decide) (ct_22 _ (ra_M M t) J (cR (t4 h1)).1 (cR (t4 h1)).2) rfl <|
     fw_sh (s := (45, [.ref 0, .int t, .null], [], (bgn 24 (ra_M M t)), J)) <|
     fw_n (s' := (53, [.ref 0, .int t, .null], [.ref 24, .ref 15], (bgn 24 (ra_M M t)), J)) hB 4 rfl <|
     fw_cv hB (st0 := []) (o := none) rfl rfl rfl rfl rfl (show (0 : Nat) ≤ 8 by decide) rfl (by decide) (ct_23 _ (bgn 24 (ra_M M t)) J (cB (t4 h1)).1 (cB (t4 h1)).2) rfl <|
     fw_sh (s := (56, [.ref 0, .int t, .null], [], (m_23 15 24 (bgn 24 (ra_M M t))), J)) <|
     fx_gen (p := fun (Y : fl_M) => fw (d + 3) fB21 (56, [.ref 0, .int t, .null], [], Y, J)) (m_23 15 24 (bgn 24 (ra_M M t))) (fun Y eY =>
      fw_n (s' := (66, [.ref 0, .int t, .int 0], [], (fl_u Y 42 0 0), J)) hB 6 rfl <|
      (by subst eY; exact (q1 h1 h2 h3)))) (fun h3 =>
     fw_n (s' := (37, [.ref 0, .int t, .null], [.int (-4)], (ra_M M t), J)) hB 1 rfl <|
     fw_ri rfl rfl)))
set_option maxRecDepth 8000 in
theorem fs_119 (d : Nat) (M : fl_M) (J : fl_J) (t : Int32) (hs : ∀ q, q < 4 → (M 89 q).toInt ≤ 60) : fw (d + 5) fB119 (0, [.ref 81, .int t], [], M, J) := by
  have hB : fw_B fB119 := fw_sB (k := 119) (by decide)
  exact fw_n (s' := (1, [.ref 81, .int t], [.int t], M, J)) hB 1 rfl <|
  fw_cs hB (st0 := []) (o := some (.int (if (¬ (t < 0)) ∧ (¬ (3 < t)) then 1 else 0))) rfl rfl (by decide) rfl rfl (show (0 : Nat) ≤ 8 by decide) (cu_117 _ M J t) rfl <|
  fw_sh (s := (4, [.ref 81, .int t], [.int (if (¬ (t < 0)) ∧ (¬ (3 < t)) then 1 else 0)], M, J)) <|
  fw_if hB (t := 9) rfl rfl fl_b1 (fun h1 =>
   fw_n (s' := (14, [.ref 81, .int t], [.int t, .ref 89], M, J)) hB 3 rfl <|
   fw_ia hB rfl rfl (by decide) (t3 h1).1 (show t.toInt < 4 from (t3 h1).2) <|
   fw_ifN hB (t := 26) rfl rfl fl_nlt (fun h2 =>
    fw_n (s' := (20, [.ref 81, .int t], [.int 1, .ref 81], M, J)) hB 2 rfl <|
    fw_cv hB (st0 := []) (o := some (.int (-3))) rfl rfl rfl rfl rfl (show (0 : Nat) ≤ 8 by decide) rfl (by decide) (cu_106 _ M J 1 (by decide) (by decide)) rfl <|
    fw_sh (s := (23, [.ref 81, .int t], [.int (-3)], (fl_u (fl_u M 81 14 1) 91 1 ((M 91 1) + 1)), J)) <|
    fw_n (s' := (31, [.ref 81, .int t], [.int (-3)], (fl_u (fl_u M 81 14 1) 91 1 ((M 91 1) + 1)), J)) hB 1 rfl <|
    fw_ri rfl rfl) (fun h2 =>
    fw_n (s' := (28, [.ref 81, .int t], [.int t, .ref 81], M, J)) hB 2 rfl <|
    fw_cv hB (st0 := []) (o := some (.int (fo_v M t))) rfl rfl rfl rfl rfl (show (0 : Nat) ≤ 8 by decide) rfl (by decide) (ct_120 _ M J t (t3 h1).1 (t3 h1).2 hs h2) rfl <|
    fw_sh (s := (31, [.ref 81, .int t], [.int (fo_v M t)], (fo_M M t), J)) <|
    fw_ri rfl rfl)) (fun h1 =>
   fw_n (s' := (8, [.ref 81, .int t], [.int (-1)], M, J)) hB 1 rfl <|
   fw_ri rfl rfl)
set_option maxRecDepth 8000 in
theorem fs_129 (d : Nat) (M : fl_M) (J : fl_J) (t : Int32) (hs : ∀ q, q < 4 → (M 89 q).toInt ≤ 60) (q1 : ((¬ (t < 0)) ∧ (¬ (3 < t))) → (¬ ((M 89 t.toNatClampNeg) < 0)) → ((fo_v M t) = (-9)) → fw (d + 5) fB129 (39, [.ref 81, .int t, .int 0], [], (fo_M M t), J)) : fw (d + 5) fB129 (0, [.ref 81, .int t, .null], [], M, J) := by
  have hB : fw_B fB129 := fw_sB (k := 129) (by decide)
  exact fw_n (s' := (1, [.ref 81, .int t, .null], [.int t], M, J)) hB 1 rfl <|
  fw_cs hB (st0 := []) (o := some (.int (if (¬ (t < 0)) ∧ (¬ (3 < t)) then 1 else 0))) rfl rfl (by decide) rfl rfl (show (0 : Nat) ≤ 8 by decide) (cu_117 _ M J t) rfl <|
  fw_sh (s := (4, [.ref 81, .int t, .null], [.int (if (¬ (t < 0)) ∧ (¬ (3 < t)) then 1 else 0)], M, J)) <|
  fw_if hB (t := 9) rfl rfl fl_b1 (fun h1 =>
   fw_n (s' := (14, [.ref 81, .int t, .null], [.int t, .ref 89], M, J)) hB 3 rfl <|
   fw_ia hB rfl rfl (by decide) (t3 h1).1 (show t.toInt < 4 from (t3 h1).2) <|
   fw_ifN hB (t := 24) rfl rfl fl_nlt (fun h2 =>
    fw_n (s' := (20, [.ref 81, .int t, .null], [.int 1, .ref 81], M, J)) hB 2 rfl <|
    fw_cv hB (st0 := []) (o := some (.int (-3))) rfl rfl rfl rfl rfl (show (0 : Nat) ≤ 8 by decide) rfl (by decide) (cu_106 _ M J 1 (by decide) (by decide)) rfl <|
    fw_sh (s := (23, [.ref 81, .int t, .null], [.int (-3)], (fl_u (fl_u M 81 14 1) 91 1 ((M 91 1) + 1)), J)) <|
    fw_ri rfl rfl) (fun h2 =>
    fw_n (s' := (26, [.ref 81, .int t, .null], [.int t, .ref 81], M, J)) hB 2 rfl <|
    fw_cv hB (st0 := []) (o := some (.int (fo_v M t))) rfl rfl rfl rfl rfl (show (0 : Nat) ≤ 8 by decide) rfl (by decide) (ct_120 _ M J t (t3 h1).1 (t3 h1).2 hs h2) rfl <|
    fw_sh (s := (29, [.ref 81, .int t, .null], [.int (fo_v M t)], (fo_M M t), J)) <|
    fw_n (s' := (31, [.ref 81, .int t, .null], [.int (-9), .int (fo_v M t)], (fo_M M t), J)) hB 1 rfl <|
    fw_ic hB (t := 37) rfl rfl fl_cT (fun h3 =>
     fw_n (s' := (39, [.ref 81, .int t, .int 0], [], (fo_M M t), J)) hB 2 rfl <|
     (q1 h1 h2 h3)) (fun h3 =>
     fw_n (s' := (36, [.ref 81, .int t, .null], [.int (-4)], (fo_M M t), J)) hB 1 rfl <|
     fw_ri rfl rfl))) (fun h1 =>
   fw_n (s' := (8, [.ref 81, .int t, .null], [.int (-1)], M, J)) hB 1 rfl <|
   fw_ri rfl rfl)
section FWT
variable (d : Nat) (M : fl_M) (J : fl_J) (t : Int32)
theorem fw_14 (hs : ∀ q, q < 4 → (M 9 q).toInt ≤ 60) (hK : M 999 = sm_kl) : fw_C (d + 4) 14 [.ref 0, .int t] M J := by
  refine fw_Co (d := d + 3) (B := fB14) (by decide) rfl rfl (show (2 : Nat) ≤ 2 by decide) ?_ (fs_14 d M J t hs hK)
  intro i v hv hn
  match i, hv with
  | 0, hv => cases hv; rfl
  | 1, hv => cases hv; rfl
  | _ + 2, hv => cases hv
theorem fw_119 (hs : ∀ q, q < 4 → (M 89 q).toInt ≤ 60) : fw_C (d + 6) 119 [.ref 81, .int t] M J := by
  refine fw_Co (d := d + 5) (B := fB119) (by decide) rfl rfl (show (2 : Nat) ≤ 2 by decide) ?_ (fs_119 d M J t hs)
  intro i v hv hn
  match i, hv with
  | 0, hv => cases hv; rfl
  | 1, hv => cases hv; rfl
  | _ + 2, hv => cases hv
theorem bgn_24 (X : fl_M) : bgn 24 X 24 0 = X 24 0 ∧ bgn 24 X 24 1 = X 24 1 := by
  unfold bgn
  have a : ∀ (Y : fl_M) (j : Nat), lr_22_53 24 Y 24 j = Y 24 j := by
    intro Y j
    unfold lr_22_53 lq_22_53
    generalize (Y 24 1).toNatClampNeg = n
    induction n with
    | zero => rfl
    | succ n ih => rw [fx_it_s]; unfold ls_22_53; rw [fl_un (by decide)]; exact ih
  have b : ∀ (Y : fl_M) (j : Nat), lr_22_18 24 Y 24 j = Y 24 j := by
    intro Y j
    unfold lr_22_18 lq_22_18
    generalize (Y 24 0).toNatClampNeg = n
    induction n with
    | zero => rfl
    | succ n ih => rw [fx_it_s]; unfold ls_22_18; rw [fl_un (by decide), fl_un (by decide)]; exact ih
  exact ⟨by rw [a, b, fl_uo (Or.inr (by decide)), fl_uo (Or.inr (by decide)), fl_uo (Or.inr (by decide))], by rw [a, b, fl_uo (Or.inr (by decide)), fl_uo (Or.inr (by decide)), fl_uo (Or.inr (by decide))]⟩
theorem fw_21 (hs : ∀ q, q < 4 → (M 9 q).toInt ≤ 60) (hK : M 999 = sm_kl) (hr : ∀ j : Nat, j < 4 → 0 ≤ (M 31 j).toInt ∧ (M 31 j).toInt ≤ 7) : fw_C (d + 4) 21 [.ref 0, .int t] M J := by
  have cR : 0 ≤ t.toInt ∧ t.toInt < 4 → ((ra_M M t) 24 0).toInt ≤ 8 ∧ ((ra_M M t) 24 1).toInt ≤ 4 := fun h => by
    have q := (cq_ra hK h.1 (by omega) hr).1
    exact ⟨q.1.2, q.2.1.2⟩
  refine fw_Co (d := d + 3) (B := fB21) (by decide) rfl rfl (show (2 : Nat) ≤ 3 by decide) ?_ (fs_21 d M J t hs hK cR (fun h => ?_) (fun _ _ _ => fq_21 (d + 3) J t 3 _ _ (by decide) (by decide)))
  · intro i v hv hn
    match i, hv with
    | 0, hv => cases hv; rfl
    | 1, hv => cases hv; rfl
    | 2, hv => cases hv; exact absurd rfl hn
    | _ + 3, hv => cases hv
  · rw [(bgn_24 _).1, (bgn_24 _).2]
    exact cR h
theorem fw_129 (hs : ∀ q, q < 4 → (M 89 q).toInt ≤ 60) (hr : ∀ j : Nat, (j = 1 ∨ j = 4 ∨ j = 7 ∨ j = 10) → 0 ≤ (M 94 j).toInt ∧ (M 94 j).toInt ≤ 7) : fw_C (d + 6) 129 [.ref 81, .int t] M J := by
  refine fw_Co (d := d + 5) (B := fB129) (by decide) rfl rfl (show (2 : Nat) ≤ 3 by decide) ?_ (fs_129 d M J t hs (fun h1 h2 _ => ?_))
  · intro i v hv hn
    match i, hv with
    | 0, hv => cases hv; rfl
    | 1, hv => cases hv; rfl
    | 2, hv => cases hv; exact absurd rfl hn
    | _ + 3, hv => cases hv
  · obtain ⟨t0, t1⟩ := t3 h1
    rw [fi_l, fi_i0] at h2
    have q := (rz_fo t0 (by omega) (by omega) (hs _ (tq t0 t1)) hr).1
    exact fq_129a (d + 5) J t 944 _ _ (by decide) q.2.2.1.2 q.2.2.2.2 (by decide)
end FWT

