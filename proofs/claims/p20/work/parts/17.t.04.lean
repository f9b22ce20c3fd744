theorem fi_ne {x y : Int32} (h : ¬ x = y) : x.toInt ≠ y.toInt := fun z => h (fi_e.mpr z)
def rh (M : fl_M) : Int32 := M 90 ((M 81 16) + (M 81 17)).toNatClampNeg
/-- a figure is there -/
def rg (M : fl_M) (lo hi : Int32) : Bool := !decide (M 81 17 = M 81 18) && (!decide (rh M < 48 + lo) && !decide (48 + hi < rh M))
def rv (M : fl_M) : Int32 := rh M - 48
theorem rg_lt {M : fl_M} {lo hi : Int32} (h : rg M lo hi = true) : (M 81 17).toInt ≠ (M 81 18).toInt := by
  obtain ⟨h1, -⟩ := sm_an h
  intro z
  rw [decide_eq_true (fi_e.mpr z)] at h1
  cases h1
theorem rg_ne {M : fl_M} {lo hi : Int32} (h : rg M lo hi = true) (h0 : 0 ≤ lo.toInt) (h1 : lo.toInt ≤ 100) : ¬ rv M = (-9) := by
  obtain ⟨-, h2⟩ := sm_an h
  obtain ⟨h2, -⟩ := sm_an h2
  intro z
  unfold rv at z
  have h3 : ¬ rh M < 48 + lo := fun y => by rw [decide_eq_true y] at h2; cases h2
  have h3 := fi_ge.mp h3
  have e8 : (48 : Int32).toInt = 48 := rfl
  rw [fi_add (by rw [e8]; omega) (by rw [e8]; omega), e8] at h3
  have hh := (rh M).toInt_lt
  have z := fi_e.mp z
  rw [fi_sub (by rw [e8]; omega) (by rw [e8]; omega), e8, show (-9 : Int32).toInt = -9 from rfl] at z
  omega
theorem rg_eq {M : fl_M} {lo hi : Int32} : (rg M lo hi = true) ↔ (¬ (M 81 17 = M 81 18) ∧ ((¬ (rh M < 48 + lo)) ∧ (¬ (48 + hi < rh M)))) := by
  unfold rg
  simp
def fB123 : sm_P := (fun pc => sm_ch sm_t123 pc, sm_Kn 3 1 none, fun x => sm_lk sm_ca3 x, some .int)
theorem cc_123 (d : Nat) (M : fl_M) (J : fl_J) (hF : 0 ≤ (M 81 16).toInt) (hF2 : (M 81 16).toInt ≤ 180) (hP : 0 ≤ (M 81 17).toInt) (hP2 : (M 81 17).toInt < 60) : tw_C (d + 1) 123 [.ref 81] M J (some (.int (M 90 (((M 81 16) + (M 81 17)).toNatClampNeg))), M, J) := by
  have hB : fw_B fB123 := fw_sB (k := 123) (by decide)
  have e : ((M 81 16) + (M 81 17)).toInt = (M 81 16).toInt + (M 81 17).toInt := fi_add (by omega) (by omega)
  refine tw_Co (d := d + 0) (B := fB123) (by decide) rfl rfl (show (1 : Nat) ≤ 1 by decide) ?_ ?_
  · intro i v hv hn
    match i, hv with
    | 0, hv => cases hv; rfl
    | _ + 1, hv => cases hv
  exact tw_n (s' := (13, [.ref 81], [.int ((M 81 16) + (M 81 17)), .ref 90], M, J)) hB 7 rfl <|
  tw_ia hB rfl rfl (by decide) (by omega) (show ((M 81 16) + (M 81 17)).toInt < 240 by omega) <|
  tw_ri rfl rfl (rfl)
theorem ct_105 (d : Nat) (M : fl_M) (J : fl_J) (x a b : Int64) : tw_C (d + 1) 105 [.long x, .long a, .long b] M J (some (.int (if (¬ (x < a)) ∧ (¬ (b < x)) then 1 else 0)), M, J) := by
  have hB : fw_B fB105 := fw_sB (k := 105) (by decide)
  refine tw_Co (d := d + 0) (B := fB105) (by decide) rfl rfl (show (6 : Nat) ≤ 6 by decide) ?_ ?_
  · intro i v hv hn
    match i, hv with
    | 0, hv => cases hv; rfl
    | 1, hv => cases hv; exact absurd rfl hn
    | 2, hv => cases hv; rfl
    | 3, hv => cases hv; exact absurd rfl hn
    | 4, hv => cases hv; rfl
    | 5, hv => cases hv; exact absurd rfl hn
    | _ + 6, hv => cases hv
  exact tw_n (s' := (3, [.long x, .null, .long a, .null, .long b, .null], [.int (lg_cmp x a)], M, J)) hB 3 rfl <|
  tw_if hB (t := 17) rfl rfl fl_llt (fun h1 =>
   tw_n (s' := (18, [.long x, .null, .long a, .null, .long b, .null], [.int 0], M, J)) hB 1 rfl <|
   tw_rb rfl rfl (by first | decide | (split <;> decide)) (by simp [h1])) (fun h1 =>
   tw_n (s' := (10, [.long x, .null, .long a, .null, .long b, .null], [.int (lg_cmp x b)], M, J)) hB 3 rfl <|
   tw_if hB (t := 17) rfl rfl fl_lgt (fun h2 =>
    tw_n (s' := (18, [.long x, .null, .long a, .null, .long b, .null], [.int 0], M, J)) hB 1 rfl <|
    tw_rb rfl rfl (by first | decide | (split <;> decide)) (by simp [h1, h2])) (fun h2 =>
    tw_n (s' := (18, [.long x, .null, .long a, .null, .long b, .null], [.int 1], M, J)) hB 2 rfl <|
    tw_rb rfl rfl (by first | decide | (split <;> decide)) (by simp [h1, h2])))
theorem ct_105i (d : Nat) (M : fl_M) (J : fl_J) (x a b : Int32) : tw_C (d + 1) 105 [.long x.toInt64, .long a.toInt64, .long b.toInt64] M J (some (.int (if (¬ (x < a)) ∧ (¬ (b < x)) then 1 else 0)), M, J) := by
  have h := ct_105 d M J x.toInt64 a.toInt64 b.toInt64
  simp only [fl_64lt] at h
  exact h
def rsk : Nat → fl_M → fl_M
  | 0, M => M
  | f + 1, M => if M 81 17 < M 81 18 then (if rh M = 32 then rsk f (fl_u M 81 17 (M 81 17 + 1)) else M) else M
def fB122 : sm_P := (fun pc => sm_ch sm_t122 pc, sm_Kn 3 1 none, fun x => sm_lk sm_ca3 x, none)
theorem ts_122 (d : Nat) (M : fl_M) (J : fl_J) {r : fl_Q} (hF : 0 ≤ (M 81 16).toInt) (hF2 : (M 81 16).toInt ≤ 180) (hP : 0 ≤ (M 81 17).toInt) (hE : (M 81 17).toInt ≤ (M 81 18).toInt) (hE2 : (M 81 18).toInt ≤ 60) (q1 : ((M 81 17) < (M 81 18)) → ((rh M) = 32) → tw (d + 1) fB122 (0, [.ref 81], [], (fl_u M 81 17 ((M 81 17) + 1)), J) r) (e1 : ((M 81 17) < (M 81 18)) → (¬ ((rh M) = 32)) → (none, M, J) = r) (e2 : (¬ ((M 81 17) < (M 81 18))) → (none, M, J) = r) : tw (d + 1) fB122 (0, [.ref 81], [], M, J) r := by
  have hB : fw_B fB122 := fw_sB (k := 122) (by decide)
  exact tw_n (s' := (8, [.ref 81], [.int (M 81 18), .int (M 81 17)], M, J)) hB 4 rfl <|
  tw_icN hB (t := 33) rfl rfl fl_nlt (fun h1 =>
   tw_n (s' := (12, [.ref 81], [.ref 81], M, J)) hB 1 rfl <|
   tw_cv hB (st0 := []) (o := some (.int (rh M))) rfl rfl rfl rfl rfl (show (0 : Nat) ≤ 8 by decide) rfl (by decide) (cc_123 _ M J (show 0 ≤ (M 81 16).toInt by omega) (show (M 81 16).toInt ≤ 180 by omega) (show 0 ≤ (M 81 17).toInt by omega) (by show (M 81 17).toInt < 60; first | omega | (have z := fi_ne (show ¬ (M 81 17) = (M 81 18) by assumption); omega) | (have z := fi_l.mp (show (M 81 17) < (M 81 18) by assumption); omega))) rfl <|
   tw_sh (s := (15, [.ref 81], [.int (rh M)], M, J)) <|
   tw_n (s' := (17, [.ref 81], [.int 32, .int (rh M)], M, J)) hB 1 rfl <|
   tw_icN hB (t := 33) rfl rfl fl_cF (fun h2 =>
    tw_n (s' := (0, [.ref 81], [], (fl_u M 81 17 ((M 81 17) + 1)), J)) hB 7 rfl <|
    (q1 h1 h2)) (fun h2 =>
    tw_rv rfl rfl (e1 h1 h2))) (fun h1 =>
   tw_rv rfl rfl (e2 h1))
theorem lp_122 (d : Nat) (J : fl_J) : ∀ (f : Nat) (M : fl_M) (hF : 0 ≤ (M 81 16).toInt) (hF2 : (M 81 16).toInt ≤ 180) (hP : 0 ≤ (M 81 17).toInt) (hE : (M 81 17).toInt ≤ (M 81 18).toInt) (hE2 : (M 81 18).toInt ≤ 60), (M 81 18).toInt ≤ (M 81 17).toInt + f → tw (d + 1) fB122 (0, [.ref 81], [], M, J) (none, rsk f M, J) := by
  intro f
  induction f with
  | zero =>
    intro M hF hF2 hP hE hE2 hf
    have hn : ¬ M 81 17 < M 81 18 := fun z => by have z := fi_l.mp z; omega
    exact ts_122 d M J hF hF2 hP hE hE2 (fun z => absurd z hn) (fun z => absurd z hn) (fun _ => rfl)
  | succ f ih =>
    intro M hF hF2 hP hE hE2 hf
    unfold rsk
    refine ts_122 d M J hF hF2 hP hE hE2 (fun z1 z2 => ?_) (fun z1 z2 => ?_) (fun z1 => ?_)
    · rw [if_pos z1, if_pos z2]
      have z1 := fi_l.mp z1
      have e := fi_p1 (p := M 81 17) (by omega)
      exact ih _ hF hF2 (show 0 ≤ (M 81 17 + 1).toInt by omega) (show (M 81 17 + 1).toInt ≤ (M 81 18).toInt by omega) hE2 (show (M 81 18).toInt ≤ (M 81 17 + 1).toInt + f by omega)
    · rw [if_pos z1, if_neg z2]
    · rw [if_neg z1]
theorem cc_122 (d : Nat) (M : fl_M) (J : fl_J) (hF : 0 ≤ (M 81 16).toInt) (hF2 : (M 81 16).toInt ≤ 180) (hP : 0 ≤ (M 81 17).toInt) (hE : (M 81 17).toInt ≤ (M 81 18).toInt) (hE2 : (M 81 18).toInt ≤ 60) : tw_C (d + 2) 122 [.ref 81] M J (none, rsk 60 M, J) := by
  refine tw_Co (d := d + 1) (B := fB122) (by decide) rfl rfl (show (1 : Nat) ≤ 1 by decide) ?_ (lp_122 d J 60 M hF hF2 hP hE hE2 (by omega))
  intro i v hv hn
  match i, hv with
  | 0, hv => cases hv; rfl
  | _ + 1, hv => cases hv
def fB125 : sm_P := (fun pc => sm_ch sm_t125 pc, sm_Kn 3 3 none, fun x => sm_lk sm_ca3 x, some .int)
theorem cr_125 (d : Nat) (M : fl_M) (J : fl_J) (lo hi : Int32) (hF : 0 ≤ (M 81 16).toInt) (hF2 : (M 81 16).toInt ≤ 180) (hP : 0 ≤ (M 81 17).toInt) (hE : (M 81 17).toInt ≤ (M 81 18).toInt) (hE2 : (M 81 18).toInt ≤ 60) : tw_C (d + 2) 125 [.ref 81, .int lo, .int hi] M J (some (.int (if (M 81 17) = (M 81 18) then (-9) else (if (¬ (rh M < 48 + lo)) ∧ (¬ (48 + hi < rh M)) then (M 90 ((((M 81 16) + ((M 81 17) + 1)) - 1).toNatClampNeg)) - 48 else (-9)))), (if (M 81 17) = (M 81 18) then M else (if (¬ (rh M < 48 + lo)) ∧ (¬ (48 + hi < rh M)) then (fl_u M 81 17 ((M 81 17) + 1)) else M)), J) := by
  have hB : fw_B fB125 := fw_sB (k := 125) (by decide)
  have ep : ((M 81 17) + 1).toInt = (M 81 17).toInt + 1 := fi_p1 (by omega)
  have ef : ((M 81 16) + ((M 81 17) + 1)).toInt = (M 81 16).toInt + ((M 81 17).toInt + 1) := by rw [fi_add (by omega) (by omega), ep]
  have eg : (((M 81 16) + ((M 81 17) + 1)) - 1).toInt = (M 81 16).toInt + (M 81 17).toInt := by rw [fi_sub (by rw [fi_i1]; omega) (by rw [fi_i1]; omega), ef, fi_i1]; omega
  refine tw_Co (d := d + 1) (B := fB125) (by decide) rfl rfl (show (3 : Nat) ≤ 3 by decide) ?_ ?_
  · intro i v hv hn
    match i, hv with
    | 0, hv => cases hv; rfl
    | 1, hv => cases hv; rfl
    | 2, hv => cases hv; rfl
    | _ + 3, hv => cases hv
  exact tw_n (s' := (8, [.ref 81, .int lo, .int hi], [.int (M 81 18), .int (M 81 17)], M, J)) hB 4 rfl <|
  tw_ic hB (t := 32) rfl rfl fl_cT (fun h1 =>
   tw_n (s' := (34, [.ref 81, .int lo, .int hi], [.int (-9)], M, J)) hB 1 rfl <|
   tw_ri rfl rfl (by first | (simp only [if_pos h1]; done) | rfl)) (fun h1 =>
   tw_n (s' := (12, [.ref 81, .int lo, .int hi], [.ref 81], M, J)) hB 1 rfl <|
   tw_cv hB (st0 := []) (o := some (.int (rh M))) rfl rfl rfl rfl rfl (show (0 : Nat) ≤ 8 by decide) rfl (by decide) (cc_123 _ M J (show 0 ≤ (M 81 16).toInt by omega) (show (M 81 16).toInt ≤ 180 by omega) (show 0 ≤ (M 81 17).toInt by omega) (by show (M 81 17).toInt < 60; first | omega | (have z := fi_ne (show ¬ (M 81 17) = (M 81 18) by assumption); omega) | (have z := fi_l.mp (show (M 81 17) < (M 81 18) by assumption); omega))) rfl <|
   tw_sh (s := (15, [.ref 81, .int lo, .int hi], [.int (rh M)], M, J)) <|
   tw_n (s' := (26, [.ref 81, .int lo, .int hi], [.long ((48 + hi).toInt64), .long ((48 + lo).toInt64), .long ((rh M).toInt64)], M, J)) hB 9 rfl <|
   tw_cs hB (st0 := []) (o := some (.int (if (¬ (rh M < 48 + lo)) ∧ (¬ (48 + hi < rh M)) then 1 else 0))) rfl rfl (by decide) rfl rfl (show (0 : Nat) ≤ 8 by decide) (ct_105i _ M J (rh M) (48 + lo) (48 + hi)) rfl <|
   tw_sh (s := (29, [.ref 81, .int lo, .int hi], [.int (if (¬ (rh M < 48 + lo)) ∧ (¬ (48 + hi < rh M)) then 1 else 0)], M, J)) <|
   tw_if hB (t := 35) rfl rfl fl_b1 (fun h2 =>
    tw_n (s' := (60, [.ref 81, .int lo, .int hi], [.int (((M 81 16) + ((M 81 17) + 1)) - 1), .ref 90], (fl_u M 81 17 ((M 81 17) + 1)), J)) hB 15 rfl <|
    tw_ia hB rfl rfl (by decide) (by have z := fi_ne h1; omega) (show (((M 81 16) + ((M 81 17) + 1)) - 1).toInt < 240 by have z := fi_ne h1; omega) <|
    tw_n (s' := (64, [.ref 81, .int lo, .int hi], [.int ((M 90 ((((M 81 16) + ((M 81 17) + 1)) - 1).toNatClampNeg)) - 48)], (fl_u M 81 17 ((M 81 17) + 1)), J)) hB 2 rfl <|
    tw_ri rfl rfl (by first | (simp only [if_neg h1, if_pos h2]; done) | rfl)) (fun h2 =>
    tw_n (s' := (34, [.ref 81, .int lo, .int hi], [.int (-9)], M, J)) hB 1 rfl <|
    tw_ri rfl rfl (by first | (simp only [if_neg h1, if_neg h2]; done) | rfl)))
theorem cc_125 (d : Nat) (M : fl_M) (J : fl_J) (lo hi : Int32) (hF : 0 ≤ (M 81 16).toInt) (hF2 : (M 81 16).toInt ≤ 180) (hP : 0 ≤ (M 81 17).toInt) (hE : (M 81 17).toInt ≤ (M 81 18).toInt) (hE2 : (M 81 18).toInt ≤ 60) : tw_C (d + 2) 125 [.ref 81, .int lo, .int hi] M J (some (.int (if rg M lo hi = true then rv M else (-9))), (if rg M lo hi = true then (fl_u M 81 17 ((M 81 17) + 1)) else M), J) := by
  refine tw_Ce (cr_125 d M J lo hi hF hF2 hP hE hE2) ?_
  have e := @rg_eq M lo hi
  by_cases h1 : M 81 17 = M 81 18
  · have h : ¬ (rg M lo hi = true) := fun z => (e.mp z).1 h1
    simp only [if_pos h1, if_neg h]
  · by_cases h2 : (¬ (rh M < 48 + lo)) ∧ (¬ (48 + hi < rh M))
    · have h := e.mpr ⟨h1, h2⟩
      have ep : ((M 81 17) + 1).toInt = (M 81 17).toInt + 1 := fi_p1 (by have := fi_ne h1; omega)
      have ix : ((M 81 16) + ((M 81 17) + 1) - 1).toNatClampNeg = ((M 81 16) + (M 81 17)).toNatClampNeg := by
        have := fi_ne h1
        have ef : ((M 81 16) + ((M 81 17) + 1)).toInt = (M 81 16).toInt + ((M 81 17).toInt + 1) := by rw [fi_add (by omega) (by omega), ep]
        have eg : (((M 81 16) + ((M 81 17) + 1)) - 1).toInt = (M 81 16).toInt + (M 81 17).toInt := by
          rw [fi_sub (by rw [fi_i1]; omega) (by rw [fi_i1]; omega), ef, fi_i1]
          omega
        have eh : ((M 81 16) + (M 81 17)).toInt = (M 81 16).toInt + (M 81 17).toInt := fi_add (by omega) (by omega)
        rw [fi_cl, fi_cl, eg, eh]
      simp only [if_neg h1, if_pos h2, if_pos h]
      rw [ix]
      rfl
    · have h : ¬ (rg M lo hi = true) := fun z => h2 (e.mp z).2
      simp only [if_neg h1, if_neg h2, if_neg h]
theorem tf_ne {x lo hi : Int32} (h : (¬ (x < lo)) ∧ (¬ (hi < x))) (h0 : 0 ≤ lo.toInt) : ¬ x = (-9) := by
  intro z
  have h1 := fi_ge.mp h.1
  rw [z, show (-9 : Int32).toInt = -9 from rfl] at h1
  omega
def fB126 : sm_P := (fun pc => sm_ch sm_t126 pc, sm_Kn 3 6 none, fun x => sm_lk sm_ca3 x, some .int)
theorem cc_126 (d : Nat) (M : fl_M) (J : fl_J) (lo hi : Int32) (hF : 0 ≤ (M 81 16).toInt) (hF2 : (M 81 16).toInt ≤ 180) (hP : 0 ≤ (M 81 17).toInt) (hE : (M 81 17).toInt ≤ (M 81 18).toInt) (hE2 : (M 81 18).toInt ≤ 60) : tw_C (d + 3) 126 [.ref 81, .int lo, .int hi] M J (some (.int (if rg M 0 9 = true then (if rg (fl_u M 81 17 ((M 81 17) + 1)) 0 9 = true then (if (¬ ((10 * (rv M)) + (rv (fl_u M 81 17 ((M 81 17) + 1))) < lo)) ∧ (¬ (hi < (10 * (rv M)) + (rv (fl_u M 81 17 ((M 81 17) + 1))))) then (10 * (rv M)) + (rv (fl_u M 81 17 ((M 81 17) + 1))) else (-9)) else (-9)) else (-9))), (if rg M 0 9 = true then (if rg (fl_u M 81 17 ((M 81 17) + 1)) 0 9 = true then (if (¬ ((10 * (rv M)) + (rv (fl_u M 81 17 ((M 81 17) + 1))) < lo)) ∧ (¬ (hi < (10 * (rv M)) + (rv (fl_u M 81 17 ((M 81 17) + 1))))) then (fl_u (fl_u M 81 17 ((M 81 17) + 1)) 81 17 (((M 81 17) + 1) + 1)) else (fl_u (fl_u (fl_u M 81 17 ((M 81 17) + 1)) 81 17 (((M 81 17) + 1) + 1)) 81 17 (M 81 17))) else (fl_u M 81 17 ((M 81 17) + 1))) else M), J) := by
  have hB : fw_B fB126 := fw_sB (k := 126) (by decide)
  have ep : ((M 81 17) + 1).toInt = (M 81 17).toInt + 1 := fi_p1 (by omega)
  have ep2 : (((M 81 17) + 1) + 1).toInt = (M 81 17).toInt + 2 := by rw [fi_p1 (by omega), ep]; omega
  have ep3 : ((((M 81 17) + 1) + 1) + 1).toInt = (M 81 17).toInt + 3 := by rw [fi_p1 (by omega), ep2]; omega
  refine tw_Co (d := d + 2) (B := fB126) (by decide) rfl rfl (show (3 : Nat) ≤ 6 by decide) ?_ ?_
  · intro i v hv hn
    match i, hv with
    | 0, hv => cases hv; rfl
    | 1, hv => cases hv; rfl
    | 2, hv => cases hv; rfl
    | 3, hv => cases hv; exact absurd rfl hn
    | 4, hv => cases hv; exact absurd rfl hn
    | 5, hv => cases hv; exact absurd rfl hn
    | _ + 6, hv => cases hv
  exact tw_n (s' := (9, [.ref 81, .int lo, .int hi, .int (M 81 17), .null, .null], [.int 9, .int 0, .ref 81], M, J)) hB 6 rfl <|
  tw_dc (c := rg M 0 9 = true) (fun h1 =>
   have z1 : (M 81 17).toInt ≠ (M 81 18).toInt := rg_lt h1; tw_cv hB (st0 := []) (o := some (.int (rv M))) rfl rfl rfl rfl rfl (show (0 : Nat) ≤ 8 by decide) rfl (by decide) (tw_Ce (show tw_C _ 125 [.ref 81, .int 0, .int 9] M J (some (.int (if rg M 0 9 = true then rv M else (-9))), (if rg M 0 9 = true then (fl_u M 81 17 ((M 81 17) + 1)) else M), J) from (cc_125 _ M J 0 9 (show 0 ≤ (M 81 16).toInt by omega) (show (M 81 16).toInt ≤ 180 by omega) (show 0 ≤ (M 81 17).toInt by omega) (show (M 81 17).toInt ≤ (M 81 18).toInt by omega) (show (M 81 18).toInt ≤ 60 by omega))) (by first | (simp only [if_pos h1]; done) | (simp only [if_pos h1]; rfl))) rfl <|
   tw_sh (s := (12, [.ref 81, .int lo, .int hi, .int (M 81 17), .null, .null], [.int (rv M)], (fl_u M 81 17 ((M 81 17) + 1)), J)) <|
   tw_n (s' := (18, [.ref 81, .int lo, .int hi, .int (M 81 17), .int (rv M), .null], [.int (-9), .int (rv M)], (fl_u M 81 17 ((M 81 17) + 1)), J)) hB 3 rfl <|
   tw_icN hB (t := 26) rfl rfl fl_cF (fun h2 =>
    absurd h2 (rg_ne (by assumption) (by decide) (by decide))) (fun h2 =>
    tw_n (s' := (30, [.ref 81, .int lo, .int hi, .int (M 81 17), .int (rv M), .null], [.int 9, .int 0, .ref 81], (fl_u M 81 17 ((M 81 17) + 1)), J)) hB 3 rfl <|
    tw_dc (c := rg (fl_u M 81 17 ((M 81 17) + 1)) 0 9 = true) (fun h3 =>
     have z3 : ((M 81 17) + 1).toInt ≠ (M 81 18).toInt := rg_lt h3; tw_cv hB (st0 := []) (o := some (.int (rv (fl_u M 81 17 ((M 81 17) + 1))))) rfl rfl rfl rfl rfl (show (0 : Nat) ≤ 8 by decide) rfl (by decide) (tw_Ce (show tw_C _ 125 [.ref 81, .int 0, .int 9] (fl_u M 81 17 ((M 81 17) + 1)) J (some (.int (if rg (fl_u M 81 17 ((M 81 17) + 1)) 0 9 = true then rv (fl_u M 81 17 ((M 81 17) + 1)) else (-9))), (if rg (fl_u M 81 17 ((M 81 17) + 1)) 0 9 = true then (fl_u (fl_u M 81 17 ((M 81 17) + 1)) 81 17 (((M 81 17) + 1) + 1)) else (fl_u M 81 17 ((M 81 17) + 1))), J) from (cc_125 _ (fl_u M 81 17 ((M 81 17) + 1)) J 0 9 (show 0 ≤ (M 81 16).toInt by omega) (show (M 81 16).toInt ≤ 180 by omega) (show 0 ≤ ((M 81 17) + 1).toInt by omega) (show ((M 81 17) + 1).toInt ≤ (M 81 18).toInt by omega) (show (M 81 18).toInt ≤ 60 by omega))) (by first | (simp only [if_pos h3]; done) | (simp only [if_pos h3]; rfl))) rfl <|
     tw_sh (s := (33, [.ref 81, .int lo, .int hi, .int (M 81 17), .int (rv M), .null], [.int (rv (fl_u M 81 17 ((M 81 17) + 1)))], (fl_u (fl_u M 81 17 ((M 81 17) + 1)) 81 17 (((M 81 17) + 1) + 1)), J)) <|
     tw_n (s' := (39, [.ref 81, .int lo, .int hi, .int (M 81 17), .int (rv M), .int (rv (fl_u M 81 17 ((M 81 17) + 1)))], [.int (-9), .int (rv (fl_u M 81 17 ((M 81 17) + 1)))], (fl_u (fl_u M 81 17 ((M 81 17) + 1)) 81 17 (((M 81 17) + 1) + 1)), J)) hB 3 rfl <|
     tw_icN hB (t := 45) rfl rfl fl_cF (fun h4 =>
      absurd h4 (rg_ne (by assumption) (by decide) (by decide))) (fun h4 =>
      tw_n (s' := (58, [.ref 81, .int lo, .int hi, .int (M 81 17), .int (rv M), .int (rv (fl_u M 81 17 ((M 81 17) + 1)))], [.long hi.toInt64, .long lo.toInt64, .long (((10 * (rv M)) + (rv (fl_u M 81 17 ((M 81 17) + 1)))).toInt64)], (fl_u (fl_u M 81 17 ((M 81 17) + 1)) 81 17 (((M 81 17) + 1) + 1)), J)) hB 10 rfl <|
      tw_cs hB (st0 := []) (o := some (.int (if (¬ ((10 * (rv M)) + (rv (fl_u M 81 17 ((M 81 17) + 1))) < lo)) ∧ (¬ (hi < (10 * (rv M)) + (rv (fl_u M 81 17 ((M 81 17) + 1))))) then 1 else 0))) rfl rfl (by decide) rfl rfl (show (0 : Nat) ≤ 8 by decide) (ct_105i _ (fl_u (fl_u M 81 17 ((M 81 17) + 1)) 81 17 (((M 81 17) + 1) + 1)) J ((10 * (rv M)) + (rv (fl_u M 81 17 ((M 81 17) + 1)))) lo hi) rfl <|
      tw_sh (s := (61, [.ref 81, .int lo, .int hi, .int (M 81 17), .int (rv M), .int (rv (fl_u M 81 17 ((M 81 17) + 1)))], [.int (if (¬ ((10 * (rv M)) + (rv (fl_u M 81 17 ((M 81 17) + 1))) < lo)) ∧ (¬ (hi < (10 * (rv M)) + (rv (fl_u M 81 17 ((M 81 17) + 1))))) then 1 else 0)], (fl_u (fl_u M 81 17 ((M 81 17) + 1)) 81 17 (((M 81 17) + 1) + 1)), J)) <|
      tw_if hB (t := 72) rfl rfl fl_b1 (fun h5 =>
       tw_n (s' := (80, [.ref 81, .int lo, .int hi, .int (M 81 17), .int (rv M), .int (rv (fl_u M 81 17 ((M 81 17) + 1)))], [.int ((10 * (rv M)) + (rv (fl_u M 81 17 ((M 81 17) + 1))))], (fl_u (fl_u M 81 17 ((M 81 17) + 1)) 81 17 (((M 81 17) + 1) + 1)), J)) hB 5 rfl <|
       tw_ri rfl rfl (by first | (simp only [if_pos h1, if_neg h2, if_pos h3, if_neg h4, if_pos h5]; done) | rfl)) (fun h5 =>
       tw_n (s' := (71, [.ref 81, .int lo, .int hi, .int (M 81 17), .int (rv M), .int (rv (fl_u M 81 17 ((M 81 17) + 1)))], [.int (-9)], (fl_u (fl_u (fl_u M 81 17 ((M 81 17) + 1)) 81 17 (((M 81 17) + 1) + 1)) 81 17 (M 81 17)), J)) hB 4 rfl <|
       tw_ri rfl rfl (by first | (simp only [if_pos h1, if_neg h2, if_pos h3, if_neg h4, if_neg h5]; done) | rfl)))) (fun h3 =>
     tw_cv hB (st0 := []) (o := some (.int (-9))) rfl rfl rfl rfl rfl (show (0 : Nat) ≤ 8 by decide) rfl (by decide) (tw_Ce (show tw_C _ 125 [.ref 81, .int 0, .int 9] (fl_u M 81 17 ((M 81 17) + 1)) J (some (.int (if rg (fl_u M 81 17 ((M 81 17) + 1)) 0 9 = true then rv (fl_u M 81 17 ((M 81 17) + 1)) else (-9))), (if rg (fl_u M 81 17 ((M 81 17) + 1)) 0 9 = true then (fl_u (fl_u M 81 17 ((M 81 17) + 1)) 81 17 (((M 81 17) + 1) + 1)) else (fl_u M 81 17 ((M 81 17) + 1))), J) from (cc_125 _ (fl_u M 81 17 ((M 81 17) + 1)) J 0 9 (show 0 ≤ (M 81 16).toInt by omega) (show (M 81 16).toInt ≤ 180 by omega) (show 0 ≤ ((M 81 17) + 1).toInt by omega) (show ((M 81 17) + 1).toInt ≤ (M 81 18).toInt by omega) (show (M 81 18).toInt ≤ 60 by omega))) (by first | (simp only [if_neg h3]; done) | (simp only [if_neg h3]; rfl))) rfl <|
     tw_sh (s := (33, [.ref 81, .int lo, .int hi, .int (M 81 17), .int (rv M), .null], [.int (-9)], (fl_u M 81 17 ((M 81 17) + 1)), J)) <|
     tw_n (s' := (44, [.ref 81, .int lo, .int hi, .int (M 81 17), .int (rv M), .int (-9)], [.int (-9)], (fl_u M 81 17 ((M 81 17) + 1)), J)) hB 5 rfl <|
     tw_ri rfl rfl (by first | (simp only [if_pos h1, if_neg h2, if_neg h3]; done) | rfl)))) (fun h1 =>
   tw_cv hB (st0 := []) (o := some (.int (-9))) rfl rfl rfl rfl rfl (show (0 : Nat) ≤ 8 by decide) rfl (by decide) (tw_Ce (show tw_C _ 125 [.ref 81, .int 0, .int 9] M J (some (.int (if rg M 0 9 = true then rv M else (-9))), (if rg M 0 9 = true then (fl_u M 81 17 ((M 81 17) + 1)) else M), J) from (cc_125 _ M J 0 9 (show 0 ≤ (M 81 16).toInt by omega) (show (M 81 16).toInt ≤ 180 by omega) (show 0 ≤ (M 81 17).toInt by omega) (show (M 81 17).toInt ≤ (M 81 18).toInt by omega) (show (M 81 18).toInt ≤ 60 by omega))) (by first | (simp only [if_neg h1]; done) | (simp only [if_neg h1]; rfl))) rfl <|
   tw_sh (s := (12, [.ref 81, .int lo, .int hi, .int (M 81 17), .null, .null], [.int (-9)], M, J)) <|
   tw_n (s' := (44, [.ref 81, .int lo, .int hi, .int (M 81 17), .int (-9), .int (-9)], [.int (-9)], M, J)) hB 11 rfl <|
   tw_ri rfl rfl (by first | (simp only [if_neg h1]; done) | rfl))
def fB128 : sm_P := (fun pc => sm_ch sm_t128 pc, sm_Kn 3 1 none, fun x => sm_lk sm_ca3 x, some .int)
