def ln_v (M : fl_M) (a : Nat) (size p : Int32) : Int32 := (if 0 < (M 24 1) then p else (if (M 24 0) < 8 then (if fg (M a) size (p + 1) 0 9 = true then (if fg (M a) size ((p + 1) + 1) 0 9 = true then (if fg (M a) size (((p + 1) + 1) + 1) 0 9 = true then (if (((10 * ((M a ((p + 2).toNatClampNeg)) - 48)) + (M a ((p + 3).toNatClampNeg))) - 48) < 1 then p + 2 else (if 40 < (((10 * ((M a ((p + 2).toNatClampNeg)) - 48)) + (M a ((p + 3).toNatClampNeg))) - 48) then p + 2 else (-9))) else ((p + 1) + 1) + 1) else (p + 1) + 1) else p + 1) else p))
def ln_M (M : fl_M) (a : Nat) (size p : Int32) : fl_M := (if 0 < (M 24 1) then M else (if (M 24 0) < 8 then (if fg (M a) size (p + 1) 0 9 = true then (if fg (M a) size ((p + 1) + 1) 0 9 = true then (if fg (M a) size (((p + 1) + 1) + 1) 0 9 = true then (if (((10 * ((M a ((p + 2).toNatClampNeg)) - 48)) + (M a ((p + 3).toNatClampNeg))) - 48) < 1 then M else (if 40 < (((10 * ((M a ((p + 2).toNatClampNeg)) - 48)) + (M a ((p + 3).toNatClampNeg))) - 48) then M else (fl_u (fl_u (fl_u M 25 ((M 24 0).toNatClampNeg) ((M a ((p + 1).toNatClampNeg)) - 48)) 26 ((M 24 0).toNatClampNeg) (((10 * ((M a ((p + 2).toNatClampNeg)) - 48)) + (M a ((p + 3).toNatClampNeg))) - 48)) 24 0 ((M 24 0) + 1)))) else M) else M) else M) else M))
def mo_v (M : fl_M) (a : Nat) (size p : Int32) : Int32 := (if (fk (M a p.toNatClampNeg)) = (-9) then p else (if (M 24 0) = 0 then p else (if (M 24 1) < 4 then (if fg (M a) size (p + 1) 0 ((M 24 0) - 1) = true then (if fg (M a) size (p + 2) 1 9 = true then (-9) else p + 2) else p + 1) else p)))
def mo_M (M : fl_M) (a : Nat) (size p : Int32) : fl_M := (if (fk (M a p.toNatClampNeg)) = (-9) then M else (if (M 24 0) = 0 then M else (if (M 24 1) < 4 then (if fg (M a) size (p + 1) 0 ((M 24 0) - 1) = true then (if fg (M a) size (p + 2) 1 9 = true then (fl_u (fl_u (fl_u (fl_u M 29 ((M 24 1).toNatClampNeg) (fk (M a p.toNatClampNeg))) 31 ((M 24 1).toNatClampNeg) (((fl_u M 29 ((M 24 1).toNatClampNeg) (fk (M a p.toNatClampNeg))) a ((p + 1).toNatClampNeg)) - 48)) 30 ((M 24 1).toNatClampNeg) (((fl_u (fl_u M 29 ((M 24 1).toNatClampNeg) (fk (M a p.toNatClampNeg))) 31 ((M 24 1).toNatClampNeg) (((fl_u M 29 ((M 24 1).toNatClampNeg) (fk (M a p.toNatClampNeg))) a ((p + 1).toNatClampNeg)) - 48)) a ((p + 2).toNatClampNeg)) - 48)) 24 1 ((M 24 1) + 1)) else M) else M) else M)))
def fB16 : sm_P := (fun pc => sm_ch sm_t16 pc, sm_Kn 2 3 none, fun x => sm_lk sm_ca2 x, some .int)
theorem ts_16 (d : Nat) (M : fl_M) (J : fl_J) (a : Nat) (size p : Int32) {r : fl_Q} (hk : fl_kd a = 1) (hl : fl_len a = 60) (hq : 0 ≤ p.toInt) (hs : size.toInt ≤ 60) (q1 : (p < size) → ((M a p.toNatClampNeg) = 32) → tw d fB16 (2, [.ref a, .int size, .int (p + 1)], [], M, J) r) (e1 : (p < size) → (¬ ((M a p.toNatClampNeg) = 32)) → (some (.int p), M, J) = r) (e2 : (¬ (p < size)) → (some (.int p), M, J) = r) : tw d fB16 (2, [.ref a, .int size, .int p], [], M, J) r := by
  have hB : fw_B fB16 := fw_sB (k := 16) (by decide)
  exact tw_n (s' := (4, [.ref a, .int size, .int p], [.int size, .int p], M, J)) hB 2 rfl <|
  tw_icN hB (t := 21) rfl rfl fl_nlt (fun h1 =>
   tw_n (s' := (9, [.ref a, .int size, .int p], [.int p, .ref a], M, J)) hB 2 rfl <|
   tw_ba hB rfl hk (fw_98 hk (by decide)) (by omega) (by have z := fi_l.mp h1; rw [hl]; omega) <|
   tw_n (s' := (12, [.ref a, .int size, .int p], [.int 32, .int (M a p.toNatClampNeg)], M, J)) hB 1 rfl <|
   tw_icN hB (t := 21) rfl rfl fl_cF (fun h2 =>
    tw_n (s' := (2, [.ref a, .int size, .int (p + 1)], [], M, J)) hB 2 rfl <|
    (q1 h1 h2)) (fun h2 =>
    tw_n (s' := (22, [.ref a, .int size, .int p], [.int p], M, J)) hB 1 rfl <|
    tw_ri rfl rfl (e1 h1 h2))) (fun h1 =>
   tw_n (s' := (22, [.ref a, .int size, .int p], [.int p], M, J)) hB 1 rfl <|
   tw_ri rfl rfl (e2 h1))
/-- how far blanks go -/
def sk (b : Nat → Int32) (n : Int32) : Nat → Int32 → Int32
  | 0, p => p
  | f + 1, p => if p < n then (if b p.toNatClampNeg = 32 then sk b n f (p + 1) else p) else p
theorem lp_16 (d : Nat) (M : fl_M) (J : fl_J) (a : Nat) (size : Int32) (hk : fl_kd a = 1) (hl : fl_len a = 60) (hs : size.toInt ≤ 60) : ∀ (f : Nat) (p : Int32), 0 ≤ p.toInt → size.toInt ≤ p.toInt + f → tw d fB16 (2, [.ref a, .int size, .int p], [], M, J) (some (.int (sk (M a) size f p)), M, J) := by
  intro f
  induction f with
  | zero =>
    intro p h0 h1
    have hn : ¬ p < size := fun z => by have z := fi_l.mp z; omega
    exact ts_16 d M J a size p hk hl h0 hs (fun z => absurd z hn) (fun z => absurd z hn) (fun _ => rfl)
  | succ f ih =>
    intro p h0 h1
    have hp : p < size → (p + 1).toInt = p.toInt + 1 := fun z => fi_p1 (by have z := fi_l.mp z; omega)
    unfold sk
    refine ts_16 d M J a size p hk hl h0 hs (fun z1 z2 => ?_) (fun z1 z2 => ?_) (fun z1 => ?_)
    · rw [if_pos z1, if_pos z2]
      have := hp z1
      exact ih (p + 1) (by omega) (by omega)
    · rw [if_pos z1, if_neg z2]
    · rw [if_neg z1]
theorem cc_16 (d : Nat) (M : fl_M) (J : fl_J) (a : Nat) (size : Int32) (hk : fl_kd a = 1) (hl : fl_len a = 60) (hs : size.toInt ≤ 60) : tw_C (d + 1) 16 [.ref a, .int size] M J (some (.int (sk (M a) size 60 0)), M, J) := by
  refine tw_Co (d := d) (B := fB16) (by decide) rfl rfl (show (2 : Nat) ≤ 3 by decide) ?_ (tw_n (s' := (2, [.ref a, .int size, .int 0], [], M, J)) (fw_sB (k := 16) (by decide)) 2 rfl (lp_16 d M J a size hk hl hs 60 0 (by decide) (by rw [fi_i0]; omega)))
  intro i v hv hn
  match i, hv with
  | 0, hv => cases hv; rfl
  | 1, hv => cases hv; rfl
  | 2, hv => cases hv; exact absurd rfl hn
  | _ + 3, hv => cases hv
def fB15 : sm_P := (fun pc => sm_ch sm_t15 pc, sm_Kn 2 7 none, fun x => sm_lk sm_ca2 x, some .int)
theorem ts_15 (d : Nat) (M : fl_M) (J : fl_J) (a : Nat) (size p t : Int32) (v5 v6 : Value) {r : fl_Q} (hk : fl_kd a = 1) (hl : fl_len a = 60) (hq : 0 ≤ p.toInt) (hs : size.toInt ≤ 60) (hL : 0 ≤ (M 24 0).toInt) (hm : 0 ≤ (M 24 1).toInt) (hK : M 999 = sm_kl) (q1 : (p < size) → ((M a p.toNatClampNeg) = 32) → tw (d + 2) fB15 (58, [.ref 0, .int t, .ref a, .int size, .int (p + 1), v5, v6], [], M, J) r) (q2 : (p < size) → (¬ ((M a p.toNatClampNeg) = 32)) → ((M a p.toNatClampNeg) = 108) → ((ln_v M a size p) = (-9)) → tw (d + 2) fB15 (58, [.ref 0, .int t, .ref a, .int size, .int ((p + 3) + 1), .int 1, .int (ln_v M a size p)], [], (ln_M M a size p), J) r) (q3 : (p < size) → (¬ ((M a p.toNatClampNeg) = 32)) → (¬ ((M a p.toNatClampNeg) = 108)) → ((mo_v M a size p) = (-9)) → tw (d + 2) fB15 (58, [.ref 0, .int t, .ref a, .int size, .int ((p + 2) + 1), .int 0, .int (mo_v M a size p)], [], (mo_M M a size p), J) r) (e1 : (p < size) → (¬ ((M a p.toNatClampNeg) = 32)) → ((M a p.toNatClampNeg) = 108) → (¬ ((ln_v M a size p) = (-9))) → (some (.int (ln_v M a size p)), (ln_M M a size p), J) = r) (e2 : (p < size) → (¬ ((M a p.toNatClampNeg) = 32)) → (¬ ((M a p.toNatClampNeg) = 108)) → (¬ ((mo_v M a size p) = (-9))) → (some (.int (mo_v M a size p)), (mo_M M a size p), J) = r) (e3 : (¬ (p < size)) → ((M 24 1) = 0) → (some (.int size), M, J) = r) (e4 : (¬ (p < size)) → (¬ ((M 24 1) = 0)) → (some (.int (-9)), M, J) = r) : tw (d + 2) fB15 (58, [.ref 0, .int t, .ref a, .int size, .int p, v5, v6], [], M, J) r := by
  have hB : fw_B fB15 := fw_sB (k := 15) (by decide)
  exact tw_n (s' := (61, [.ref 0, .int t, .ref a, .int size, .int p, v5, v6], [.int size, .int p], M, J)) hB 2 rfl <|
  tw_icN hB (t := 151) rfl rfl fl_nlt (fun h1 =>
   tw_n (s' := (67, [.ref 0, .int t, .ref a, .int size, .int p, v5, v6], [.int p, .ref a], M, J)) hB 2 rfl <|
   tw_ba hB rfl hk (fw_98 hk (by decide)) (by omega) (by have z := fi_l.mp h1; rw [hl]; omega) <|
   tw_n (s' := (70, [.ref 0, .int t, .ref a, .int size, .int p, v5, v6], [.int 32, .int (M a p.toNatClampNeg)], M, J)) hB 1 rfl <|
   tw_icN hB (t := 76) rfl rfl fl_cF (fun h2 =>
    tw_n (s' := (58, [.ref 0, .int t, .ref a, .int size, .int (p + 1), v5, v6], [], M, J)) hB 3 rfl <|
    (q1 h1 h2)) (fun h2 =>
    tw_n (s' := (79, [.ref 0, .int t, .ref a, .int size, .int p, v5, v6], [.int p, .ref a], M, J)) hB 2 rfl <|
    tw_ba hB rfl hk (fw_98 hk (by decide)) (by omega) (by have z := fi_l.mp h1; rw [hl]; omega) <|
    tw_n (s' := (82, [.ref 0, .int t, .ref a, .int size, .int p, v5, v6], [.int 108, .int (M a p.toNatClampNeg)], M, J)) hB 1 rfl <|
    tw_icN hB (t := 89) rfl rfl fl_cF (fun h3 =>
     tw_n (s' := (102, [.ref 0, .int t, .ref a, .int size, .int p, .int 1, v6], [.int p, .int size, .ref a, .ref 0], M, J)) hB 9 rfl <|
     tw_cv hB (st0 := []) (o := some (.int (ln_v M a size p))) rfl rfl rfl rfl rfl (show (0 : Nat) ≤ 8 by decide) rfl (by decide) (cc_17 _ M J size p a hk hl (by omega) hs (fi_l.mp (by assumption)) hL hK) rfl <|
     tw_sh (s := (105, [.ref 0, .int t, .ref a, .int size, .int p, .int 1, v6], [.int (ln_v M a size p)], (ln_M M a size p), J)) <|
     tw_n (s' := (122, [.ref 0, .int t, .ref a, .int size, .int p, .int 1, .int (ln_v M a size p)], [.int (-9), .int (ln_v M a size p)], (ln_M M a size p), J)) hB 4 rfl <|
     tw_ic hB (t := 128) rfl rfl fl_cT (fun h4 =>
      tw_n (s' := (58, [.ref 0, .int t, .ref a, .int size, .int ((p + 3) + 1), .int 1, .int (ln_v M a size p)], [], (ln_M M a size p), J)) hB 11 rfl <|
      (q2 h1 h2 h3 h4)) (fun h4 =>
      tw_n (s' := (127, [.ref 0, .int t, .ref a, .int size, .int p, .int 1, .int (ln_v M a size p)], [.int (ln_v M a size p)], (ln_M M a size p), J)) hB 1 rfl <|
      tw_ri rfl rfl (e1 h1 h2 h3 h4))) (fun h3 =>
     tw_n (s' := (113, [.ref 0, .int t, .ref a, .int size, .int p, .int 0, v6], [.int p, .int size, .ref a, .ref 0], M, J)) hB 8 rfl <|
     tw_cv hB (st0 := []) (o := some (.int (mo_v M a size p))) rfl rfl rfl rfl rfl (show (0 : Nat) ≤ 8 by decide) rfl (by decide) (cc_19 _ M J size p a hk hl (by omega) hs (fi_l.mp (by assumption)) hL hK hm) rfl <|
     tw_sh (s := (116, [.ref 0, .int t, .ref a, .int size, .int p, .int 0, v6], [.int (mo_v M a size p)], (mo_M M a size p), J)) <|
     tw_n (s' := (122, [.ref 0, .int t, .ref a, .int size, .int p, .int 0, .int (mo_v M a size p)], [.int (-9), .int (mo_v M a size p)], (mo_M M a size p), J)) hB 3 rfl <|
     tw_ic hB (t := 128) rfl rfl fl_cT (fun h5 =>
      tw_n (s' := (58, [.ref 0, .int t, .ref a, .int size, .int ((p + 2) + 1), .int 0, .int (mo_v M a size p)], [], (mo_M M a size p), J)) hB 10 rfl <|
      (q3 h1 h2 h3 h5)) (fun h5 =>
      tw_n (s' := (127, [.ref 0, .int t, .ref a, .int size, .int p, .int 0, .int (mo_v M a size p)], [.int (mo_v M a size p)], (mo_M M a size p), J)) hB 1 rfl <|
      tw_ri rfl rfl (e2 h1 h2 h3 h5))))) (fun h1 =>
   tw_n (s' := (158, [.ref 0, .int t, .ref a, .int size, .int p, v5, v6], [.int (M 24 1)], M, J)) hB 3 rfl <|
   tw_ifN hB (t := 165) rfl rfl fl_cF (fun h6 =>
    tw_n (s' := (167, [.ref 0, .int t, .ref a, .int size, .int p, v5, v6], [.int size], M, J)) hB 2 rfl <|
    tw_ri rfl rfl (e3 h1 h6)) (fun h6 =>
    tw_n (s' := (167, [.ref 0, .int t, .ref a, .int size, .int p, v5, v6], [.int (-9)], M, J)) hB 1 rfl <|
    tw_ri rfl rfl (e4 h1 h6)))
/-- what the class reads from a place on -/
def cpar (a : Nat) (n : Int32) : Nat → Int32 → fl_M → Int32 × fl_M
  | 0, _, M => (if M 24 1 = 0 then n else (-9), M)
  | f + 1, p, M => if p < n then (if M a p.toNatClampNeg = 32 then cpar a n f (p + 1) M
      else if M a p.toNatClampNeg = 108 then (if ln_v M a n p = (-9) then cpar a n f (p + 3 + 1) (ln_M M a n p) else (ln_v M a n p, ln_M M a n p))
      else (if mo_v M a n p = (-9) then cpar a n f (p + 2 + 1) (mo_M M a n p) else (mo_v M a n p, mo_M M a n p)))
    else (if M 24 1 = 0 then n else (-9), M)
/-- lines and mice within their bounds -/
def cI (M : fl_M) : Prop := (0 ≤ (M 24 0).toInt ∧ (M 24 0).toInt ≤ 8) ∧ (0 ≤ (M 24 1).toInt ∧ (M 24 1).toInt ≤ 4) ∧ M 999 = sm_kl
theorem cI_ln {M : fl_M} {a : Nat} {n p : Int32} (h : cI M) : cI (ln_M M a n p) := by
  unfold ln_M
  split
  · exact h
  split
  · rename_i h8
    have h8 := fi_l.mp h8
    rw [show (8 : Int32).toInt = 8 from rfl] at h8
    have e := fi_p1 (p := M 24 0) (by omega)
    repeat' split
    all_goals first
      | exact h
      | (obtain ⟨h1, h2, h3⟩ := h
         refine ⟨?_, ?_, ?_⟩
         · simp only [fl_u, and_self, if_true]
           omega
         · simp only [fl_u]
           exact h2
         · rw [fl_un (by decide), fl_un (by decide), fl_un (by decide)]
           exact h3)
  · exact h
theorem cI_mo {M : fl_M} {a : Nat} {n p : Int32} (h : cI M) : cI (mo_M M a n p) := by
  unfold mo_M
  split
  · exact h
  split
  · exact h
  split
  · rename_i h4
    have h4 := fi_l.mp h4
    rw [show (4 : Int32).toInt = 4 from rfl] at h4
    have e := fi_p1 (p := M 24 1) (by omega)
    repeat' split
    all_goals first
      | exact h
      | (obtain ⟨h1, h2, h3⟩ := h
         refine ⟨?_, ?_, ?_⟩
         · simp only [fl_u]
           exact h1
         · simp only [fl_u, and_self, if_true]
           omega
         · rw [fl_un (by decide), fl_un (by decide), fl_un (by decide), fl_un (by decide)]
           exact h3)
  · exact h
theorem lp_15 (d : Nat) (J : fl_J) (a : Nat) (size t : Int32) (hk : fl_kd a = 1) (hl : fl_len a = 60) (hs : size.toInt ≤ 60) : ∀ (f : Nat) (p : Int32) (M : fl_M) (v5 v6 : Value), cI M → 0 ≤ p.toInt → size.toInt ≤ p.toInt + f → tw (d + 2) fB15 (58, [.ref 0, .int t, .ref a, .int size, .int p, v5, v6], [], M, J) (some (.int (cpar a size f p M).1), (cpar a size f p M).2, J) := by
  intro f
  induction f with
  | zero =>
    intro p M v5 v6 hI h0 h1
    have hn : ¬ p < size := fun z => by have z := fi_l.mp z; omega
    refine ts_15 d M J a size p t v5 v6 hk hl h0 hs hI.1.1 hI.2.1.1 hI.2.2 (fun z => absurd z hn) (fun z => absurd z hn) (fun z => absurd z hn) (fun z => absurd z hn) (fun z => absurd z hn) (fun _ z => ?_) (fun _ z => ?_)
    · unfold cpar
      rw [if_pos z]
    · unfold cpar
      rw [if_neg z]
  | succ f ih =>
    intro p M v5 v6 hI h0 h1
    have hp : p < size → p.toInt < 60 := fun z => by have z := fi_l.mp z; omega
    unfold cpar
    refine ts_15 d M J a size p t v5 v6 hk hl h0 hs hI.1.1 hI.2.1.1 hI.2.2 (fun z1 z2 => ?_) (fun z1 z2 z3 z4 => ?_) (fun z1 z2 z3 z4 => ?_) (fun z1 z2 z3 z4 => ?_) (fun z1 z2 z3 z4 => ?_) (fun z1 z2 => ?_) (fun z1 z2 => ?_)
    · rw [if_pos z1, if_pos z2]
      have := hp z1
      have := fi_p1 (p := p) (by omega)
      exact ih (p + 1) M _ _ hI (by omega) (by omega)
    · rw [if_pos z1, if_neg z2, if_pos z3, if_pos z4]
      have := hp z1
      have e3 : (p + 3).toInt = p.toInt + 3 := by rw [fi_add (by rw [fi_i3]; omega) (by rw [fi_i3]; omega), fi_i3]
      have := fi_p1 (p := p + 3) (by omega)
      exact ih (p + 3 + 1) _ _ _ (cI_ln hI) (by omega) (by omega)
    · rw [if_pos z1, if_neg z2, if_neg z3, if_pos z4]
      have := hp z1
      have e2 : (p + 2).toInt = p.toInt + 2 := by rw [fi_add (by rw [show (2 : Int32).toInt = 2 from rfl]; omega) (by rw [show (2 : Int32).toInt = 2 from rfl]; omega)]; rfl
      have := fi_p1 (p := p + 2) (by omega)
      exact ih (p + 2 + 1) _ _ _ (cI_mo hI) (by omega) (by omega)
    · rw [if_pos z1, if_neg z2, if_pos z3, if_neg z4]
    · rw [if_pos z1, if_neg z2, if_neg z3, if_neg z4]
    · rw [if_neg z1, if_pos z2]
    · rw [if_neg z1, if_neg z2]
theorem sk_ge {b : Nat → Int32} {n : Int32} (hn : n.toInt ≤ 60) : ∀ (f : Nat) (p : Int32), 0 ≤ p.toInt → p.toInt ≤ (sk b n f p).toInt := by
  intro f
  induction f with
  | zero => intro p _; exact Int.le_refl _
  | succ f ih =>
    intro p h0
    unfold sk
    split
    · rename_i h1
      have h1 := fi_l.mp h1
      have e := fi_p1 (p := p) (by omega)
      split
      · have := ih (p + 1) (by omega)
        omega
      · exact Int.le_refl _
    · exact Int.le_refl _
theorem fl_t10 {t : Int32} (h0 : 0 ≤ t.toInt) (h3 : t.toInt ≤ 3) : fl_kd (fl_ar 10 t.toNatClampNeg) = 1 ∧ fl_len (fl_ar 10 t.toNatClampNeg) = 60 := by
  have e := fi_cl t
  have : t.toNatClampNeg = 0 ∨ t.toNatClampNeg = 1 ∨ t.toNatClampNeg = 2 ∨ t.toNatClampNeg = 3 := by omega
  rcases this with h | h | h | h <;> rw [h] <;> exact ⟨rfl, rfl⟩
theorem cI_0 {M : fl_M} (h : M 999 = sm_kl) : cI (fl_u (fl_u M 24 0 0) 24 1 0) := by
  refine ⟨⟨show (0 : Int) ≤ (0 : Int32).toInt by decide, show (0 : Int32).toInt ≤ 8 by decide⟩, ⟨show (0 : Int) ≤ (0 : Int32).toInt by decide, show (0 : Int32).toInt ≤ 4 by decide⟩, ?_⟩
  rw [fl_un (by decide), fl_un (by decide)]
  exact h
theorem cc_15 (d : Nat) (M : fl_M) (J : fl_J) (t : Int32) (h0 : 0 ≤ t.toInt) (h3 : t.toInt ≤ 3) (hn : (M 9 t.toNatClampNeg).toInt ≤ 60) (hK : M 999 = sm_kl) : tw_C (d + 3) 15 [.ref 0, .int t] M J (some (.int (if (sk ((fl_u (fl_u M 24 0 0) 24 1 0) (fl_ar 10 t.toNatClampNeg)) (M 9 t.toNatClampNeg) 60 0) < (M 9 t.toNatClampNeg) then (if ((fl_u (fl_u M 24 0 0) 24 1 0) (fl_ar 10 t.toNatClampNeg) ((sk ((fl_u (fl_u M 24 0 0) 24 1 0) (fl_ar 10 t.toNatClampNeg)) (M 9 t.toNatClampNeg) 60 0).toNatClampNeg)) = 114 then (cpar (fl_ar 10 t.toNatClampNeg) (M 9 t.toNatClampNeg) 60 ((sk ((fl_u (fl_u M 24 0 0) 24 1 0) (fl_ar 10 t.toNatClampNeg)) (M 9 t.toNatClampNeg) 60 0) + 1) (fl_u (fl_u M 24 0 0) 24 1 0)).1 else sk ((fl_u (fl_u M 24 0 0) 24 1 0) (fl_ar 10 t.toNatClampNeg)) (M 9 t.toNatClampNeg) 60 0) else sk ((fl_u (fl_u M 24 0 0) 24 1 0) (fl_ar 10 t.toNatClampNeg)) (M 9 t.toNatClampNeg) 60 0)), (if (sk ((fl_u (fl_u M 24 0 0) 24 1 0) (fl_ar 10 t.toNatClampNeg)) (M 9 t.toNatClampNeg) 60 0) < (M 9 t.toNatClampNeg) then (if ((fl_u (fl_u M 24 0 0) 24 1 0) (fl_ar 10 t.toNatClampNeg) ((sk ((fl_u (fl_u M 24 0 0) 24 1 0) (fl_ar 10 t.toNatClampNeg)) (M 9 t.toNatClampNeg) 60 0).toNatClampNeg)) = 114 then (cpar (fl_ar 10 t.toNatClampNeg) (M 9 t.toNatClampNeg) 60 ((sk ((fl_u (fl_u M 24 0 0) 24 1 0) (fl_ar 10 t.toNatClampNeg)) (M 9 t.toNatClampNeg) 60 0) + 1) (fl_u (fl_u M 24 0 0) 24 1 0)).2 else (fl_u (fl_u M 24 0 0) 24 1 0)) else (fl_u (fl_u M 24 0 0) 24 1 0)), J) := by
  have hB : fw_B fB15 := fw_sB (k := 15) (by decide)
  obtain ⟨hk, hl⟩ := fl_t10 h0 h3
  have hs := hn
  have hg := sk_ge (b := (fl_u (fl_u M 24 0 0) 24 1 0) (fl_ar 10 t.toNatClampNeg)) hn 60 0 (by decide)
  rw [fi_i0] at hg
  refine tw_Co (d := d + 2) (B := fB15) (by decide) rfl rfl (show (2 : Nat) ≤ 7 by decide) ?_ ?_
  · intro i v hv hn
    match i, hv with
    | 0, hv => cases hv; rfl
    | 1, hv => cases hv; rfl
    | 2, hv => cases hv; exact absurd rfl hn
    | 3, hv => cases hv; exact absurd rfl hn
    | 4, hv => cases hv; exact absurd rfl hn
    | 5, hv => cases hv; exact absurd rfl hn
    | 6, hv => cases hv; exact absurd rfl hn
    | _ + 7, hv => cases hv
  exact tw_n (s' := (5, [.ref 0, .int t, .null, .null, .null, .null, .null], [.int t, .ref 10], M, J)) hB 3 rfl <|
  tw_aa hB rfl (by decide) (by decide) h0 (show t.toInt < 4 by omega) <|
  tw_n (s' := (12, [.ref 0, .int t, .ref (fl_ar 10 t.toNatClampNeg), .null, .null, .null, .null], [.int t, .ref 9], M, J)) hB 4 rfl <|
  tw_ia hB rfl rfl (by decide) h0 (show t.toInt < 4 by omega) <|
  tw_n (s' := (32, [.ref 0, .int t, .ref (fl_ar 10 t.toNatClampNeg), .int (M 9 t.toNatClampNeg), .null, .null, .null], [.int (M 9 t.toNatClampNeg), .ref (fl_ar 10 t.toNatClampNeg)], (fl_u (fl_u M 24 0 0) 24 1 0), J)) hB 11 rfl <|
  tw_cs hB (st0 := []) (o := some (.int (sk ((fl_u (fl_u M 24 0 0) 24 1 0) (fl_ar 10 t.toNatClampNeg)) (M 9 t.toNatClampNeg) 60 0))) rfl rfl (by decide) rfl rfl (show (0 : Nat) ≤ 8 by decide) (cc_16 _ (fl_u (fl_u M 24 0 0) 24 1 0) J (fl_ar 10 t.toNatClampNeg) (M 9 t.toNatClampNeg) hk hl hs) rfl <|
  tw_sh (s := (35, [.ref 0, .int t, .ref (fl_ar 10 t.toNatClampNeg), .int (M 9 t.toNatClampNeg), .null, .null, .null], [.int (sk ((fl_u (fl_u M 24 0 0) 24 1 0) (fl_ar 10 t.toNatClampNeg)) (M 9 t.toNatClampNeg) 60 0)], (fl_u (fl_u M 24 0 0) 24 1 0), J)) <|
  tw_n (s' := (40, [.ref 0, .int t, .ref (fl_ar 10 t.toNatClampNeg), .int (M 9 t.toNatClampNeg), .int (sk ((fl_u (fl_u M 24 0 0) 24 1 0) (fl_ar 10 t.toNatClampNeg)) (M 9 t.toNatClampNeg) 60 0), .null, .null], [.int (M 9 t.toNatClampNeg), .int (sk ((fl_u (fl_u M 24 0 0) 24 1 0) (fl_ar 10 t.toNatClampNeg)) (M 9 t.toNatClampNeg) 60 0)], (fl_u (fl_u M 24 0 0) 24 1 0), J)) hB 3 rfl <|
  tw_icN hB (t := 52) rfl rfl fl_nlt (fun h1 =>
   tw_n (s' := (46, [.ref 0, .int t, .ref (fl_ar 10 t.toNatClampNeg), .int (M 9 t.toNatClampNeg), .int (sk ((fl_u (fl_u M 24 0 0) 24 1 0) (fl_ar 10 t.toNatClampNeg)) (M 9 t.toNatClampNeg) 60 0), .null, .null], [.int (sk ((fl_u (fl_u M 24 0 0) 24 1 0) (fl_ar 10 t.toNatClampNeg)) (M 9 t.toNatClampNeg) 60 0), .ref (fl_ar 10 t.toNatClampNeg)], (fl_u (fl_u M 24 0 0) 24 1 0), J)) hB 2 rfl <|
   tw_ba hB rfl hk (fw_98 hk (by decide)) (by omega) (by have z := fi_l.mp h1; rw [hl]; omega) <|
   tw_n (s' := (49, [.ref 0, .int t, .ref (fl_ar 10 t.toNatClampNeg), .int (M 9 t.toNatClampNeg), .int (sk ((fl_u (fl_u M 24 0 0) 24 1 0) (fl_ar 10 t.toNatClampNeg)) (M 9 t.toNatClampNeg) 60 0), .null, .null], [.int 114, .int ((fl_u (fl_u M 24 0 0) 24 1 0) (fl_ar 10 t.toNatClampNeg) ((sk ((fl_u (fl_u M 24 0 0) 24 1 0) (fl_ar 10 t.toNatClampNeg)) (M 9 t.toNatClampNeg) 60 0).toNatClampNeg))], (fl_u (fl_u M 24 0 0) 24 1 0), J)) hB 1 rfl <|
   tw_ic hB (t := 55) rfl rfl fl_cT (fun h2 =>
    tw_n (s' := (58, [.ref 0, .int t, .ref (fl_ar 10 t.toNatClampNeg), .int (M 9 t.toNatClampNeg), .int ((sk ((fl_u (fl_u M 24 0 0) 24 1 0) (fl_ar 10 t.toNatClampNeg)) (M 9 t.toNatClampNeg) 60 0) + 1), .null, .null], [], (fl_u (fl_u M 24 0 0) 24 1 0), J)) hB 1 rfl <|
    tw_de (lp_15 d J _ _ t hk hl hs 60 _ _ _ _ (cI_0 hK) (by rw [fi_p1 (by have z := fi_l.mp (by assumption); omega)]; omega) (by rw [fi_p1 (by have z := fi_l.mp (by assumption); omega)]; omega)) (by first | (simp only [if_pos h1, if_pos h2]; done) | rfl)) (fun h2 =>
    tw_n (s' := (54, [.ref 0, .int t, .ref (fl_ar 10 t.toNatClampNeg), .int (M 9 t.toNatClampNeg), .int (sk ((fl_u (fl_u M 24 0 0) 24 1 0) (fl_ar 10 t.toNatClampNeg)) (M 9 t.toNatClampNeg) 60 0), .null, .null], [.int (sk ((fl_u (fl_u M 24 0 0) 24 1 0) (fl_ar 10 t.toNatClampNeg)) (M 9 t.toNatClampNeg) 60 0)], (fl_u (fl_u M 24 0 0) 24 1 0), J)) hB 1 rfl <|
    tw_ri rfl rfl (by first | (simp only [if_pos h1, if_neg h2]; done) | rfl))) (fun h1 =>
   tw_n (s' := (54, [.ref 0, .int t, .ref (fl_ar 10 t.toNatClampNeg), .int (M 9 t.toNatClampNeg), .int (sk ((fl_u (fl_u M 24 0 0) 24 1 0) (fl_ar 10 t.toNatClampNeg)) (M 9 t.toNatClampNeg) 60 0), .null, .null], [.int (sk ((fl_u (fl_u M 24 0 0) 24 1 0) (fl_ar 10 t.toNatClampNeg)) (M 9 t.toNatClampNeg) 60 0)], (fl_u (fl_u M 24 0 0) 24 1 0), J)) hB 1 rfl <|
   tw_ri rfl rfl (by first | (simp only [if_neg h1]; done) | rfl))
/-! The reference's reading. -/
