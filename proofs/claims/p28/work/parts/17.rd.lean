def fB195 : sm_P := (fun pc => sm_ch sm_t195 pc, sm_Kn 3 4 none, fun x => sm_lk sm_ca3 x, some .int)
-- MiceRegistersModel.those 4
def ls_195_4 (i1 : Int32) (M : fl_M) (m : Nat) (q : Int32) : Int32 := (if ((M 85 (Int32.ofNat m).toNatClampNeg) = i1) ∨ (((i1 = 2) ∧ (((M 85 (Int32.ofNat m).toNatClampNeg) = 4) ∨ ((i1 = 3) ∧ ((M 85 (Int32.ofNat m).toNatClampNeg) = 5)))) ∨ ((¬ (i1 = 2)) ∧ ((i1 = 3) ∧ ((M 85 (Int32.ofNat m).toNatClampNeg) = 5)))) then (q + 1) else (q + 0))
def lq_195_4 (i1 i2 : Int32) (M : fl_M) (m : Nat) : Int32 := fx_it (ls_195_4 i1 M) m i2
theorem lqs_195_4 (i1 i2 : Int32) (M : fl_M) (m : Nat) : lq_195_4 i1 i2 M (m + 1) = (ls_195_4 i1 M) m (lq_195_4 i1 i2 M m) := by
  unfold lq_195_4
  exact fx_it_s _ _ _
def lr_195_4 (i1 i2 : Int32) (M : fl_M) : Int32 := (lq_195_4 i1 i2 M (((M 81 4)).toNatClampNeg))
set_option maxRecDepth 8000 in
theorem ts_195_4 {r : fl_Q} (i1 i2 i3 : Int32) (M : fl_M) (J : fl_J) (q1 : (i3 < (M 81 4)) → (((M 85 i3.toNatClampNeg) = i1) ∨ (((i1 = 2) ∧ (((M 85 i3.toNatClampNeg) = 4) ∨ ((i1 = 3) ∧ ((M 85 i3.toNatClampNeg) = 5)))) ∨ ((¬ (i1 = 2)) ∧ ((i1 = 3) ∧ ((M 85 i3.toNatClampNeg) = 5))))) → fl_dn fB195 (4, [.ref 81, .int i1, .int (i2 + 1), .int (i3 + 1)], [], M, J) r) (q2 : (i3 < (M 81 4)) → (¬ (((M 85 i3.toNatClampNeg) = i1) ∨ (((i1 = 2) ∧ (((M 85 i3.toNatClampNeg) = 4) ∨ ((i1 = 3) ∧ ((M 85 i3.toNatClampNeg) = 5)))) ∨ ((¬ (i1 = 2)) ∧ ((i1 = 3) ∧ ((M 85 i3.toNatClampNeg) = 5)))))) → fl_dn fB195 (4, [.ref 81, .int i1, .int (i2 + 0), .int (i3 + 1)], [], M, J) r) (q3 : (¬ (i3 < (M 81 4))) → fl_dn fB195 (35, [.ref 81, .int i1, .int i2, .int i3], [], M, J) r) : fl_dn fB195 (4, [.ref 81, .int i1, .int i2, .int i3], [], M, J) r :=
 fl_td (s' := (9, [.ref 81, .int i1, .int i2, .int i3], [.int (M 81 4), .int i3], M, J)) (fl_n 3 rfl) <|
 fl_dnot (fl_ic (t := 35) rfl rfl) fl_nlt (fun h1 =>
  fl_td (s' := (16, [.ref 81, .int i1, .int i2, .int i3], [.int i1, .int i3, .ref 81, .int i2], M, J)) (fl_n 4 rfl) <|
  fl_td (s' := (19, [.ref 81, .int i1, .int i2, .int i3], [.int (if ((M 85 i3.toNatClampNeg) = i1) ∨ (((i1 = 2) ∧ (((M 85 i3.toNatClampNeg) = 4) ∨ ((i1 = 3) ∧ ((M 85 i3.toNatClampNeg) = 5)))) ∨ ((¬ (i1 = 2)) ∧ ((i1 = 3) ∧ ((M 85 i3.toNatClampNeg) = 5)))) then 1 else 0), .int i2], M, J)) (fl_cv (o := some (.int (if ((M 85 i3.toNatClampNeg) = i1) ∨ (((i1 = 2) ∧ (((M 85 i3.toNatClampNeg) = 4) ∨ ((i1 = 3) ∧ ((M 85 i3.toNatClampNeg) = 5)))) ∨ ((¬ (i1 = 2)) ∧ ((i1 = 3) ∧ ((M 85 i3.toNatClampNeg) = 5)))) then 1 else 0))) rfl rfl rfl rfl (cc_144 M J i3 i1) rfl) <|
  fl_dnot (fl_if (t := 26) rfl rfl) fl_b0 (fun h2 =>
   fl_td (s' := (4, [.ref 81, .int i1, .int (i2 + 1), .int (i3 + 1)], [], M, J)) (fl_n 6 rfl) <|
   (q1 h1 h2)) (fun h2 =>
   fl_td (s' := (4, [.ref 81, .int i1, .int (i2 + 0), .int (i3 + 1)], [], M, J)) (fl_n 5 rfl) <|
   (q2 h1 h2))) (fun h1 =>
  (q3 h1))
theorem lp_195_4 {r : fl_Q} (i1 i2 : Int32) (M : fl_M) (J : fl_J) (hx : ∀ w3 : Value, fl_dn fB195 (35, [.ref 81, .int i1, .int (lr_195_4 i1 i2 M), w3], [], M, J) r) : fl_dn fB195 (4, [.ref 81, .int i1, .int i2, .int 0], [], M, J) r := by
  have hb := fi_bd (M 81 4)
  have key : ∀ (n m : Nat), m + n = ((M 81 4)).toNatClampNeg → fl_dn fB195 (4, [.ref 81, .int i1, .int (lq_195_4 i1 i2 M m), .int (Int32.ofNat m)], [], M, J) r := by
    intro n
    induction n with
    | zero =>
      intro m hm
      have hm : m = ((M 81 4)).toNatClampNeg := by omega
      have hn : ¬ ((Int32.ofNat m) < (M 81 4)) := fun z => by have z := (fi_lt (by omega)).mp z; omega
      exact ts_195_4 i1 (lq_195_4 i1 i2 M m) (Int32.ofNat m) M J (fun h1 h2 => absurd h1 hn) (fun h1 h2 => absurd h1 hn) (fun h1 => (by have e : lr_195_4 i1 i2 M = lq_195_4 i1 i2 M m := (by show lq_195_4 i1 i2 M (((M 81 4)).toNatClampNeg) = _; rw [← hm]); rw [e] at hx; exact hx _))
    | succ n ih =>
      intro m hm
      have hp : (Int32.ofNat m) < (M 81 4) := by exact (fi_lt (by omega)).mpr (by omega)
      refine ts_195_4 i1 (lq_195_4 i1 i2 M m) (Int32.ofNat m) M J (fun h1 h2 => ?_) (fun h1 h2 => ?_) (fun h1 => absurd hp h1)
      · have e : lq_195_4 i1 i2 M (m + 1) = ((lq_195_4 i1 i2 M m) + 1) := by
          rw [lqs_195_4]
          unfold ls_195_4
          simp only [if_pos h2]
        have q := ih (m + 1) (by omega)
        rw [e] at q
        first | (rw [fi_s]; exact q) | (rw [← fi_s] at q; exact q) | (simp only [fi_s] at q ⊢; exact q)
      · have e : lq_195_4 i1 i2 M (m + 1) = ((lq_195_4 i1 i2 M m) + 0) := by
          rw [lqs_195_4]
          unfold ls_195_4
          simp only [if_neg h2]
        have q := ih (m + 1) (by omega)
        rw [e] at q
        first | (rw [fi_s]; exact q) | (rw [← fi_s] at q; exact q) | (simp only [fi_s] at q ⊢; exact q)
  exact key (((M 81 4)).toNatClampNeg) 0 (Nat.zero_add _)
set_option maxRecDepth 8000 in
theorem cc_195 (M : fl_M) (J : fl_J) (kind : Int32) : fl_C 195 [.ref 81, .int kind] M J (some (.int (lr_195_4 kind 0 M)), M, J) :=
 fl_Co (B := fB195) rfl rfl <|
 fl_td (s' := (4, [.ref 81, .int kind, .int 0, .int 0], [], M, J)) (fl_n 4 rfl) <|
 lp_195_4 kind 0 M J (fun u135 =>
  fx_gen (p := fun (II136 : Int32) => fl_dn fB195 (35, [.ref 81, .int kind, .int II136, u135], [], M, J) (some (.int (lr_195_4 kind 0 M)), M, J)) (lr_195_4 kind 0 M) (fun II136 eII136 =>
   fl_td (s' := (36, [.ref 81, .int kind, .int II136, u135], [.int II136], M, J)) (fl_n 1 rfl) <|
   fl_rt rfl (fun _ => rfl) (by subst eII136; rfl)))
def fB196 : sm_P := (fun pc => sm_ch sm_t196 pc, sm_Kn 3 4 none, fun x => sm_lk sm_ca3 x, some .int)
-- MiceRegistersModel.thereOf 4
def ls_196_4 (i1 : Int32) (M : fl_M) (m : Nat) (q : Int32) : Int32 := (if i1 = 11 then (if (M 87 (Int32.ofNat m).toNatClampNeg) < 0 then (q + 0) else (q + 1)) else (if i1 = 12 then (if (Int32.ofNat m) < 4 then (if (M 89 (Int32.ofNat m).toNatClampNeg) < 0 then (q + 0) else (q + 1)) else (q + 0)) else (if (Int32.ofNat m) < 3 then (if (M 82 (((944 * (1 + (Int32.ofNat m))) + 0).toNatClampNeg)) < 0 then (q + 0) else (q + 1)) else (q + 0))))
def lq_196_4 (i1 i2 : Int32) (M : fl_M) (m : Nat) : Int32 := fx_it (ls_196_4 i1 M) m i2
theorem lqs_196_4 (i1 i2 : Int32) (M : fl_M) (m : Nat) : lq_196_4 i1 i2 M (m + 1) = (ls_196_4 i1 M) m (lq_196_4 i1 i2 M m) := by
  unfold lq_196_4
  exact fx_it_s _ _ _
def lr_196_4 (i1 i2 : Int32) (M : fl_M) : Int32 := (lq_196_4 i1 i2 M (6))
set_option maxRecDepth 8000 in
theorem ts_196_4 {r : fl_Q} (i1 i2 i3 : Int32) (M : fl_M) (J : fl_J) (q1 : (i3 < 6) → (i1 = 11) → ((M 87 i3.toNatClampNeg) < 0) → fl_dn fB196 (4, [.ref 81, .int i1, .int (i2 + 0), .int (i3 + 1)], [], M, J) r) (q2 : (i3 < 6) → (i1 = 11) → (¬ ((M 87 i3.toNatClampNeg) < 0)) → fl_dn fB196 (4, [.ref 81, .int i1, .int (i2 + 1), .int (i3 + 1)], [], M, J) r) (q3 : (i3 < 6) → (¬ (i1 = 11)) → (i1 = 12) → (i3 < 4) → ((M 89 i3.toNatClampNeg) < 0) → fl_dn fB196 (4, [.ref 81, .int i1, .int (i2 + 0), .int (i3 + 1)], [], M, J) r) (q4 : (i3 < 6) → (¬ (i1 = 11)) → (i1 = 12) → (i3 < 4) → (¬ ((M 89 i3.toNatClampNeg) < 0)) → fl_dn fB196 (4, [.ref 81, .int i1, .int (i2 + 1), .int (i3 + 1)], [], M, J) r) (q5 : (i3 < 6) → (¬ (i1 = 11)) → (i1 = 12) → (¬ (i3 < 4)) → fl_dn fB196 (4, [.ref 81, .int i1, .int (i2 + 0), .int (i3 + 1)], [], M, J) r) (q6 : (i3 < 6) → (¬ (i1 = 11)) → (¬ (i1 = 12)) → (i3 < 3) → ((M 82 (((944 * (1 + i3)) + 0).toNatClampNeg)) < 0) → fl_dn fB196 (4, [.ref 81, .int i1, .int (i2 + 0), .int (i3 + 1)], [], M, J) r) (q7 : (i3 < 6) → (¬ (i1 = 11)) → (¬ (i1 = 12)) → (i3 < 3) → (¬ ((M 82 (((944 * (1 + i3)) + 0).toNatClampNeg)) < 0)) → fl_dn fB196 (4, [.ref 81, .int i1, .int (i2 + 1), .int (i3 + 1)], [], M, J) r) (q8 : (i3 < 6) → (¬ (i1 = 11)) → (¬ (i1 = 12)) → (¬ (i3 < 3)) → fl_dn fB196 (4, [.ref 81, .int i1, .int (i2 + 0), .int (i3 + 1)], [], M, J) r) (q9 : (¬ (i3 < 6)) → fl_dn fB196 (97, [.ref 81, .int i1, .int i2, .int i3], [], M, J) r) : fl_dn fB196 (4, [.ref 81, .int i1, .int i2, .int i3], [], M, J) r :=
 fl_td (s' := (7, [.ref 81, .int i1, .int i2, .int i3], [.int 6, .int i3], M, J)) (fl_n 2 rfl) <|
 fl_dnot (fl_ic (t := 97) rfl rfl) fl_nlt (fun h1 =>
  fl_td (s' := (14, [.ref 81, .int i1, .int i2, .int i3], [.int 11, .int i1, .int i2], M, J)) (fl_n 3 rfl) <|
  fl_dnot (fl_ic (t := 34) rfl rfl) fl_cF (fun h2 =>
   fl_td (s' := (23, [.ref 81, .int i1, .int i2, .int i3], [.int (M 87 i3.toNatClampNeg), .int i2], M, J)) (fl_n 4 rfl) <|
   fl_dnot (fl_if (t := 30) rfl rfl) fl_nlt (fun h3 =>
    fl_td (s' := (4, [.ref 81, .int i1, .int (i2 + 0), .int (i3 + 1)], [], M, J)) (fl_n 6 rfl) <|
    (q1 h1 h2 h3)) (fun h3 =>
    fl_td (s' := (4, [.ref 81, .int i1, .int (i2 + 1), .int (i3 + 1)], [], M, J)) (fl_n 6 rfl) <|
    (q2 h1 h2 h3))) (fun h2 =>
   fl_td (s' := (37, [.ref 81, .int i1, .int i2, .int i3], [.int 12, .int i1, .int i2], M, J)) (fl_n 2 rfl) <|
   fl_dnot (fl_ic (t := 62) rfl rfl) fl_cF (fun h4 =>
    fl_td (s' := (42, [.ref 81, .int i1, .int i2, .int i3], [.int 4, .int i3, .int i2], M, J)) (fl_n 2 rfl) <|
    fl_dnot (fl_ic (t := 58) rfl rfl) fl_nlt (fun h5 =>
     fl_td (s' := (51, [.ref 81, .int i1, .int i2, .int i3], [.int (M 89 i3.toNatClampNeg), .int i2], M, J)) (fl_n 4 rfl) <|
     fl_dtwo (fl_if (t := 58) rfl rfl) fl_cT (fun h6 =>
      fl_td (s' := (4, [.ref 81, .int i1, .int (i2 + 0), .int (i3 + 1)], [], M, J)) (fl_n 6 rfl) <|
      (q3 h1 h2 h4 h5 h6)) (fun h6 =>
      fl_td (s' := (4, [.ref 81, .int i1, .int (i2 + 1), .int (i3 + 1)], [], M, J)) (fl_n 6 rfl) <|
      (q4 h1 h2 h4 h5 h6))) (fun h5 =>
     fl_td (s' := (4, [.ref 81, .int i1, .int (i2 + 0), .int (i3 + 1)], [], M, J)) (fl_n 6 rfl) <|
     (q5 h1 h2 h4 h5))) (fun h4 =>
    fl_td (s' := (64, [.ref 81, .int i1, .int i2, .int i3], [.int 3, .int i3, .int i2], M, J)) (fl_n 2 rfl) <|
    fl_dnot (fl_ic (t := 88) rfl rfl) fl_nlt (fun h7 =>
     fl_td (s' := (81, [.ref 81, .int i1, .int i2, .int i3], [.int (M 82 (((944 * (1 + i3)) + 0).toNatClampNeg)), .int i2], M, J)) (fl_n 10 rfl) <|
     fl_dtwo (fl_if (t := 88) rfl rfl) fl_cT (fun h8 =>
      fl_td (s' := (4, [.ref 81, .int i1, .int (i2 + 0), .int (i3 + 1)], [], M, J)) (fl_n 5 rfl) <|
      (q6 h1 h2 h4 h7 h8)) (fun h8 =>
      fl_td (s' := (4, [.ref 81, .int i1, .int (i2 + 1), .int (i3 + 1)], [], M, J)) (fl_n 6 rfl) <|
      (q7 h1 h2 h4 h7 h8))) (fun h7 =>
     fl_td (s' := (4, [.ref 81, .int i1, .int (i2 + 0), .int (i3 + 1)], [], M, J)) (fl_n 5 rfl) <|
     (q8 h1 h2 h4 h7))))) (fun h1 =>
  (q9 h1))
theorem lp_196_4 {r : fl_Q} (i1 i2 : Int32) (M : fl_M) (J : fl_J) (hx : ∀ w3 : Value, fl_dn fB196 (97, [.ref 81, .int i1, .int (lr_196_4 i1 i2 M), w3], [], M, J) r) : fl_dn fB196 (4, [.ref 81, .int i1, .int i2, .int 0], [], M, J) r := by
  have hb : (6 : Int32).toNatClampNeg = 6 := rfl
  have key : ∀ (n m : Nat), m + n = 6 → fl_dn fB196 (4, [.ref 81, .int i1, .int (lq_196_4 i1 i2 M m), .int (Int32.ofNat m)], [], M, J) r := by
    intro n
    induction n with
    | zero =>
      intro m hm
      have hm : m = 6 := by omega
      have hn : ¬ ((Int32.ofNat m) < 6) := fun z => by have z := (fi_lt (by omega)).mp z; omega
      exact ts_196_4 i1 (lq_196_4 i1 i2 M m) (Int32.ofNat m) M J (fun h1 h2 h3 => absurd h1 hn) (fun h1 h2 h3 => absurd h1 hn) (fun h1 h2 h4 h5 h6 => absurd h1 hn) (fun h1 h2 h4 h5 h6 => absurd h1 hn) (fun h1 h2 h4 h5 => absurd h1 hn) (fun h1 h2 h4 h7 h8 => absurd h1 hn) (fun h1 h2 h4 h7 h8 => absurd h1 hn) (fun h1 h2 h4 h7 => absurd h1 hn) (fun h1 => (by have e : lr_196_4 i1 i2 M = lq_196_4 i1 i2 M m := (by show lq_196_4 i1 i2 M (6) = _; rw [← hm]); rw [e] at hx; exact hx _))
    | succ n ih =>
      intro m hm
      have hp : (Int32.ofNat m) < 6 := by exact (fi_lt (by omega)).mpr (by omega)
      refine ts_196_4 i1 (lq_196_4 i1 i2 M m) (Int32.ofNat m) M J (fun h1 h2 h3 => ?_) (fun h1 h2 h3 => ?_) (fun h1 h2 h4 h5 h6 => ?_) (fun h1 h2 h4 h5 h6 => ?_) (fun h1 h2 h4 h5 => ?_) (fun h1 h2 h4 h7 h8 => ?_) (fun h1 h2 h4 h7 h8 => ?_) (fun h1 h2 h4 h7 => ?_) (fun h1 => absurd hp h1)
      · have e : lq_196_4 i1 i2 M (m + 1) = ((lq_196_4 i1 i2 M m) + 0) := by
          rw [lqs_196_4]
          unfold ls_196_4
          simp only [if_pos h2, if_pos h3]
        have q := ih (m + 1) (by omega)
        rw [e] at q
        first | (rw [fi_s]; exact q) | (rw [← fi_s] at q; exact q) | (simp only [fi_s] at q ⊢; exact q)
      · have e : lq_196_4 i1 i2 M (m + 1) = ((lq_196_4 i1 i2 M m) + 1) := by
          rw [lqs_196_4]
          unfold ls_196_4
          simp only [if_pos h2, if_neg h3]
        have q := ih (m + 1) (by omega)
        rw [e] at q
        first | (rw [fi_s]; exact q) | (rw [← fi_s] at q; exact q) | (simp only [fi_s] at q ⊢; exact q)
      · have e : lq_196_4 i1 i2 M (m + 1) = ((lq_196_4 i1 i2 M m) + 0) := by
          rw [lqs_196_4]
          unfold ls_196_4
          simp only [if_neg h2, if_pos h4, if_pos h5, if_pos h6]
        have q := ih (m + 1) (by omega)
        rw [e] at q
        first | (rw [fi_s]; exact q) | (rw [← fi_s] at q; exact q) | (simp only [fi_s] at q ⊢; exact q)
      · have e : lq_196_4 i1 i2 M (m + 1) = ((lq_196_4 i1 i2 M m) + 1) := by
          rw [lqs_196_4]
          unfold ls_196_4
          simp only [if_neg h2, if_pos h4, if_pos h5, if_neg h6]
        have q := ih (m + 1) (by omega)
        rw [e] at q
        first | (rw [fi_s]; exact q) | (rw [← fi_s] at q; exact q) | (simp only [fi_s] at q ⊢; exact q)
      · have e : lq_196_4 i1 i2 M (m + 1) = ((lq_196_4 i1 i2 M m) + 0) := by
          rw [lqs_196_4]
          unfold ls_196_4
          simp only [if_neg h2, if_pos h4, if_neg h5]
        have q := ih (m + 1) (by omega)
        rw [e] at q
        first | (rw [fi_s]; exact q) | (rw [← fi_s] at q; exact q) | (simp only [fi_s] at q ⊢; exact q)
      · have e : lq_196_4 i1 i2 M (m + 1) = ((lq_196_4 i1 i2 M m) + 0) := by
          rw [lqs_196_4]
          unfold ls_196_4
          simp only [if_neg h2, if_neg h4, if_pos h7, if_pos h8]
        have q := ih (m + 1) (by omega)
        rw [e] at q
        first | (rw [fi_s]; exact q) | (rw [← fi_s] at q; exact q) | (simp only [fi_s] at q ⊢; exact q)
      · have e : lq_196_4 i1 i2 M (m + 1) = ((lq_196_4 i1 i2 M m) + 1) := by
          rw [lqs_196_4]
          unfold ls_196_4
          simp only [if_neg h2, if_neg h4, if_pos h7, if_neg h8]
        have q := ih (m + 1) (by omega)
        rw [e] at q
        first | (rw [fi_s]; exact q) | (rw [← fi_s] at q; exact q) | (simp only [fi_s] at q ⊢; exact q)
      · have e : lq_196_4 i1 i2 M (m + 1) = ((lq_196_4 i1 i2 M m) + 0) := by
          rw [lqs_196_4]
          unfold ls_196_4
          simp only [if_neg h2, if_neg h4, if_neg h7]
        have q := ih (m + 1) (by omega)
        rw [e] at q
        first | (rw [fi_s]; exact q) | (rw [← fi_s] at q; exact q) | (simp only [fi_s] at q ⊢; exact q)
  exact key (6) 0 (Nat.zero_add _)
set_option maxRecDepth 8000 in
theorem cc_196 (M : fl_M) (J : fl_J) (wh : Int32) : fl_C 196 [.ref 81, .int wh] M J (some (.int (lr_196_4 wh 0 M)), M, J) :=
 fl_Co (B := fB196) rfl rfl <|
 fl_td (s' := (4, [.ref 81, .int wh, .int 0, .int 0], [], M, J)) (fl_n 4 rfl) <|
 lp_196_4 wh 0 M J (fun u137 =>
  fx_gen (p := fun (II138 : Int32) => fl_dn fB196 (97, [.ref 81, .int wh, .int II138, u137], [], M, J) (some (.int (lr_196_4 wh 0 M)), M, J)) (lr_196_4 wh 0 M) (fun II138 eII138 =>
   fl_td (s' := (98, [.ref 81, .int wh, .int II138, u137], [.int II138], M, J)) (fl_n 1 rfl) <|
   fl_rt rfl (fun _ => rfl) (by subst eII138; rfl)))
def fB194 : sm_P := (fun pc => sm_ch sm_t194 pc, sm_Kn 3 2 none, fun x => sm_lk sm_ca3 x, some .int)
def v_194 (wh : Int32) (M : fl_M) : Int32 := (if wh = 0 then M 81 1 else (if wh = 1 then M 81 4 else (if wh = 2 then M 82 1 else (if wh = 3 then M 82 0 else (if wh = 4 then (lr_168_4 0 0 M) else (if wh = 5 then (lr_163_4 0 0 M) else (if wh = 6 then M 82 3 else (if wh = 7 then M 82 2 else (if wh = 8 then (lr_147_4 0 M) else (if wh = 9 then (lr_195_4 2 0 M) else (if wh = 10 then (lr_195_4 3 0 M) else (lr_196_4 wh 0 M))))))))))))
set_option maxRecDepth 8000 in
theorem cc_194 (M : fl_M) (J : fl_J) (wh : Int32) : fl_C 194 [.ref 81, .int wh] M J (some (.int (v_194 wh M)), M, J) :=
 fl_Co (B := fB194) rfl rfl <|
 fl_td (s' := (1, [.ref 81, .int wh], [.int wh], M, J)) (fl_n 1 rfl) <|
 fl_dc (c := wh = 0) (fun h1 =>
  fl_td (s' := (60, [.ref 81, .int wh], [], M, J)) (fl_sw h1 rfl) <|
  fl_td (s' := (64, [.ref 81, .int wh], [.int (M 81 1)], M, J)) (fl_n 2 rfl) <|
  fl_rt rfl (fun _ => rfl) (by unfold v_194; first | (simp only [if_pos h1]; done) | rfl)) (fun h1 =>
  fl_dc (c := wh = 1) (fun h2 =>
   fl_td (s' := (65, [.ref 81, .int wh], [], M, J)) (fl_sw h2 rfl) <|
   fl_td (s' := (69, [.ref 81, .int wh], [.int (M 81 4)], M, J)) (fl_n 2 rfl) <|
   fl_rt rfl (fun _ => rfl) (by unfold v_194; first | (simp only [if_neg h1, if_pos h2]; done) | rfl)) (fun h2 =>
   fl_dc (c := wh = 2) (fun h3 =>
    fl_td (s' := (70, [.ref 81, .int wh], [], M, J)) (fl_sw h3 rfl) <|
    fl_td (s' := (76, [.ref 81, .int wh], [.int (M 82 1)], M, J)) (fl_n 4 rfl) <|
    fl_rt rfl (fun _ => rfl) (by unfold v_194; first | (simp only [if_neg h1, if_neg h2, if_pos h3]; done) | rfl)) (fun h3 =>
    fl_dc (c := wh = 3) (fun h4 =>
     fl_td (s' := (77, [.ref 81, .int wh], [], M, J)) (fl_sw h4 rfl) <|
     fl_td (s' := (83, [.ref 81, .int wh], [.int (M 82 0)], M, J)) (fl_n 4 rfl) <|
     fl_rt rfl (fun _ => rfl) (by unfold v_194; first | (simp only [if_neg h1, if_neg h2, if_neg h3, if_pos h4]; done) | rfl)) (fun h4 =>
     fl_dc (c := wh = 4) (fun h5 =>
      fl_td (s' := (84, [.ref 81, .int wh], [], M, J)) (fl_sw h5 rfl) <|
      fl_td (s' := (86, [.ref 81, .int wh], [.int 0, .ref 81], M, J)) (fl_n 2 rfl) <|
      fl_td (s' := (89, [.ref 81, .int wh], [.int (lr_168_4 0 0 M)], M, J)) (fl_cv (o := some (.int (lr_168_4 0 0 M))) rfl rfl rfl rfl (cc_168 M J 0) rfl) <|
      fx_gen (p := fun (II139 : Int32) => fl_dn fB194 (89, [.ref 81, .int wh], [.int II139], M, J) (some (.int (v_194 wh M)), M, J)) (lr_168_4 0 0 M) (fun II139 eII139 =>
       fl_rt rfl (fun _ => rfl) (by subst eII139; unfold v_194; first | (simp only [if_neg h1, if_neg h2, if_neg h3, if_neg h4, if_pos h5]; done) | rfl))) (fun h5 =>
      fl_dc (c := wh = 5) (fun h6 =>
       fl_td (s' := (90, [.ref 81, .int wh], [], M, J)) (fl_sw h6 rfl) <|
       fl_td (s' := (92, [.ref 81, .int wh], [.int 0, .ref 81], M, J)) (fl_n 2 rfl) <|
       fl_td (s' := (95, [.ref 81, .int wh], [.int (lr_163_4 0 0 M)], M, J)) (fl_cv (o := some (.int (lr_163_4 0 0 M))) rfl rfl rfl rfl (cc_163 M J 0) rfl) <|
       fx_gen (p := fun (II140 : Int32) => fl_dn fB194 (95, [.ref 81, .int wh], [.int II140], M, J) (some (.int (v_194 wh M)), M, J)) (lr_163_4 0 0 M) (fun II140 eII140 =>
        fl_rt rfl (fun _ => rfl) (by subst eII140; unfold v_194; first | (simp only [if_neg h1, if_neg h2, if_neg h3, if_neg h4, if_neg h5, if_pos h6]; done) | rfl))) (fun h6 =>
       fl_dc (c := wh = 6) (fun h7 =>
        fl_td (s' := (96, [.ref 81, .int wh], [], M, J)) (fl_sw h7 rfl) <|
        fl_td (s' := (102, [.ref 81, .int wh], [.int (M 82 3)], M, J)) (fl_n 4 rfl) <|
        fl_rt rfl (fun _ => rfl) (by unfold v_194; first | (simp only [if_neg h1, if_neg h2, if_neg h3, if_neg h4, if_neg h5, if_neg h6, if_pos h7]; done) | rfl)) (fun h7 =>
        fl_dc (c := wh = 7) (fun h8 =>
         fl_td (s' := (103, [.ref 81, .int wh], [], M, J)) (fl_sw h8 rfl) <|
         fl_td (s' := (109, [.ref 81, .int wh], [.int (M 82 2)], M, J)) (fl_n 4 rfl) <|
         fl_rt rfl (fun _ => rfl) (by unfold v_194; first | (simp only [if_neg h1, if_neg h2, if_neg h3, if_neg h4, if_neg h5, if_neg h6, if_neg h7, if_pos h8]; done) | rfl)) (fun h8 =>
         fl_dc (c := wh = 8) (fun h9 =>
          fl_td (s' := (110, [.ref 81, .int wh], [], M, J)) (fl_sw h9 rfl) <|
          fl_td (s' := (111, [.ref 81, .int wh], [.ref 81], M, J)) (fl_n 1 rfl) <|
          fl_td (s' := (114, [.ref 81, .int wh], [.int (lr_147_4 0 M)], M, J)) (fl_cv (o := some (.int (lr_147_4 0 M))) rfl rfl rfl rfl (cc_147 M J) rfl) <|
          fx_gen (p := fun (II141 : Int32) => fl_dn fB194 (114, [.ref 81, .int wh], [.int II141], M, J) (some (.int (v_194 wh M)), M, J)) (lr_147_4 0 M) (fun II141 eII141 =>
           fl_rt rfl (fun _ => rfl) (by subst eII141; unfold v_194; first | (simp only [if_neg h1, if_neg h2, if_neg h3, if_neg h4, if_neg h5, if_neg h6, if_neg h7, if_neg h8, if_pos h9]; done) | rfl))) (fun h9 =>
          fl_dc (c := wh = 9) (fun h10 =>
           fl_td (s' := (115, [.ref 81, .int wh], [], M, J)) (fl_sw h10 rfl) <|
           fl_td (s' := (117, [.ref 81, .int wh], [.int 2, .ref 81], M, J)) (fl_n 2 rfl) <|
           fl_td (s' := (120, [.ref 81, .int wh], [.int (lr_195_4 2 0 M)], M, J)) (fl_cv (o := some (.int (lr_195_4 2 0 M))) rfl rfl rfl rfl (cc_195 M J 2) rfl) <|
           fx_gen (p := fun (II142 : Int32) => fl_dn fB194 (120, [.ref 81, .int wh], [.int II142], M, J) (some (.int (v_194 wh M)), M, J)) (lr_195_4 2 0 M) (fun II142 eII142 =>
            fl_rt rfl (fun _ => rfl) (by subst eII142; unfold v_194; first | (simp only [if_neg h1, if_neg h2, if_neg h3, if_neg h4, if_neg h5, if_neg h6, if_neg h7, if_neg h8, if_neg h9, if_pos h10]; done) | rfl))) (fun h10 =>
           fl_dc (c := wh = 10) (fun h11 =>
            fl_td (s' := (121, [.ref 81, .int wh], [], M, J)) (fl_sw h11 rfl) <|
            fl_td (s' := (123, [.ref 81, .int wh], [.int 3, .ref 81], M, J)) (fl_n 2 rfl) <|
            fl_td (s' := (126, [.ref 81, .int wh], [.int (lr_195_4 3 0 M)], M, J)) (fl_cv (o := some (.int (lr_195_4 3 0 M))) rfl rfl rfl rfl (cc_195 M J 3) rfl) <|
            fx_gen (p := fun (II143 : Int32) => fl_dn fB194 (126, [.ref 81, .int wh], [.int II143], M, J) (some (.int (v_194 wh M)), M, J)) (lr_195_4 3 0 M) (fun II143 eII143 =>
             fl_rt rfl (fun _ => rfl) (by subst eII143; unfold v_194; first | (simp only [if_neg h1, if_neg h2, if_neg h3, if_neg h4, if_neg h5, if_neg h6, if_neg h7, if_neg h8, if_neg h9, if_neg h10, if_pos h11]; done) | rfl))) (fun h11 =>
            fl_td (s' := (127, [.ref 81, .int wh], [], M, J)) (fl_swd rfl rfl (by have e0 := fl_ne 0 rfl h1; have e1 := fl_ne 1 rfl h2; have e2 := fl_ne 2 rfl h3; have e3 := fl_ne 3 rfl h4; have e4 := fl_ne 4 rfl h5; have e5 := fl_ne 5 rfl h6; have e6 := fl_ne 6 rfl h7; have e7 := fl_ne 7 rfl h8; have e8 := fl_ne 8 rfl h9; have e9 := fl_ne 9 rfl h10; have e10 := fl_ne 10 rfl h11; omega)) <|
            fl_td (s' := (129, [.ref 81, .int wh], [.int wh, .ref 81], M, J)) (fl_n 2 rfl) <|
            fl_td (s' := (132, [.ref 81, .int wh], [.int (lr_196_4 wh 0 M)], M, J)) (fl_cv (o := some (.int (lr_196_4 wh 0 M))) rfl rfl rfl rfl (cc_196 M J wh) rfl) <|
            fx_gen (p := fun (II144 : Int32) => fl_dn fB194 (132, [.ref 81, .int wh], [.int II144], M, J) (some (.int (v_194 wh M)), M, J)) (lr_196_4 wh 0 M) (fun II144 eII144 =>
             fl_rt rfl (fun _ => rfl) (by subst eII144; unfold v_194; first | (simp only [if_neg h1, if_neg h2, if_neg h3, if_neg h4, if_neg h5, if_neg h6, if_neg h7, if_neg h8, if_neg h9, if_neg h10, if_neg h11]; done) | rfl)))))))))))))
def fB193 : sm_P := (fun pc => sm_ch sm_t193 pc, sm_Kn 3 2 none, fun x => sm_lk sm_ca3 x, some .int)
set_option maxRecDepth 8000 in
theorem cc_193 (M : fl_M) (J : fl_J) (wh : Int32) : fl_C 193 [.ref 81, .int wh] M J (some (.int (if (¬ (wh < 0)) ∧ (¬ (13 < wh)) then v_194 wh M else (-1))), M, J) :=
 fl_Co (B := fB193) rfl rfl <|
 fl_td (s' := (6, [.ref 81, .int wh], [.long 13, .long 0, .long wh.toInt64], M, J)) (fl_n 4 rfl) <|
 fl_td (s' := (9, [.ref 81, .int wh], [.int (if (¬ (wh < 0)) ∧ (¬ (13 < wh)) then 1 else 0)], M, J)) (fl_cs (o := some (.int (if (¬ (wh < 0)) ∧ (¬ (13 < wh)) then 1 else 0))) rfl rfl rfl (cc_105i M J wh 0 13) rfl) <|
 fl_dnot (fl_if (t := 20) rfl rfl) fl_b0 (fun h1 =>
  fl_td (s' := (14, [.ref 81, .int wh], [.int wh, .ref 81], M, J)) (fl_n 2 rfl) <|
  fl_td (s' := (17, [.ref 81, .int wh], [.int (v_194 wh M)], M, J)) (fl_cv (o := some (.int (v_194 wh M))) rfl rfl rfl rfl (cc_194 M J wh) rfl) <|
  fl_td (s' := (21, [.ref 81, .int wh], [.int (v_194 wh M)], M, J)) (fl_n 1 rfl) <|
  fl_rt rfl (fun _ => rfl) (by skip; first | (simp only [if_pos h1]; done) | rfl)) (fun h1 =>
  fl_td (s' := (21, [.ref 81, .int wh], [.int (-1)], M, J)) (fl_n 1 rfl) <|
  fl_rt rfl (fun _ => rfl) (by skip; first | (simp only [if_neg h1]; done) | rfl))
def fB199 : sm_P := (fun pc => sm_ch sm_t199 pc, sm_Kn 3 5 none, fun x => sm_lk sm_ca3 x, some .long)
-- MiceRegistersModel.digest 6
def ls_199_6 (M : fl_M) (m : Nat) (q : Int64) : Int64 := ((31 * q) + ((v_194 (Int32.ofNat m) M).toInt64))
def lq_199_6 (l1 : Int64) (M : fl_M) (m : Nat) : Int64 := fx_it (ls_199_6 M) m l1
theorem lqs_199_6 (l1 : Int64) (M : fl_M) (m : Nat) : lq_199_6 l1 M (m + 1) = (ls_199_6 M) m (lq_199_6 l1 M m) := by
  unfold lq_199_6
  exact fx_it_s _ _ _
def lr_199_6 (l1 : Int64) (M : fl_M) : Int64 := (lq_199_6 l1 M (14))
set_option maxRecDepth 8000 in
theorem ts_199_6 {r : fl_Q} (i3 : Int32) (l1 : Int64) (u4 : Value) (M : fl_M) (J : fl_J) (q1 : (i3 < 14) → fl_dn fB199 (6, [.ref 81, .long ((31 * l1) + ((v_194 i3 M).toInt64)), .null, .int (i3 + 1), u4], [], M, J) r) (q2 : (¬ (i3 < 14)) → fl_dn fB199 (31, [.ref 81, .long l1, .null, .int i3, u4], [], M, J) r) : fl_dn fB199 (6, [.ref 81, .long l1, .null, .int i3, u4], [], M, J) r :=
 fl_td (s' := (9, [.ref 81, .long l1, .null, .int i3, u4], [.int 14, .int i3], M, J)) (fl_n 2 rfl) <|
 fl_dnot (fl_ic (t := 31) rfl rfl) fl_nlt (fun h1 =>
  fl_td (s' := (19, [.ref 81, .long l1, .null, .int i3, u4], [.int i3, .ref 81, .long (31 * l1)], M, J)) (fl_n 5 rfl) <|
  fl_td (s' := (22, [.ref 81, .long l1, .null, .int i3, u4], [.int (v_194 i3 M), .long (31 * l1)], M, J)) (fl_cv (o := some (.int (v_194 i3 M))) rfl rfl rfl rfl (cc_194 M J i3) rfl) <|
  fl_td (s' := (6, [.ref 81, .long ((31 * l1) + ((v_194 i3 M).toInt64)), .null, .int (i3 + 1), u4], [], M, J)) (fl_n 5 rfl) <|
  (q1 h1)) (fun h1 =>
  (q2 h1))
theorem lp_199_6 {r : fl_Q} (l1 : Int64) (u4 : Value) (M : fl_M) (J : fl_J) (hx : ∀ w3 : Value, fl_dn fB199 (31, [.ref 81, .long (lr_199_6 l1 M), .null, w3, u4], [], M, J) r) : fl_dn fB199 (6, [.ref 81, .long l1, .null, .int 0, u4], [], M, J) r := by
  have hb : (14 : Int32).toNatClampNeg = 14 := rfl
  have key : ∀ (n m : Nat), m + n = 14 → fl_dn fB199 (6, [.ref 81, .long (lq_199_6 l1 M m), .null, .int (Int32.ofNat m), u4], [], M, J) r := by
    intro n
    induction n with
    | zero =>
      intro m hm
      have hm : m = 14 := by omega
      have hn : ¬ ((Int32.ofNat m) < 14) := fun z => by have z := (fi_lt (by omega)).mp z; omega
      exact ts_199_6 (Int32.ofNat m) (lq_199_6 l1 M m) u4 M J (fun h1 => absurd h1 hn) (fun h1 => (by have e : lr_199_6 l1 M = lq_199_6 l1 M m := (by show lq_199_6 l1 M (14) = _; rw [← hm]); rw [e] at hx; exact hx _))
    | succ n ih =>
      intro m hm
      have hp : (Int32.ofNat m) < 14 := by exact (fi_lt (by omega)).mpr (by omega)
      refine ts_199_6 (Int32.ofNat m) (lq_199_6 l1 M m) u4 M J (fun h1 => ?_) (fun h1 => absurd hp h1)
      · have e : lq_199_6 l1 M (m + 1) = ((31 * (lq_199_6 l1 M m)) + ((v_194 (Int32.ofNat m) M).toInt64)) := by
          rw [lqs_199_6]
          unfold ls_199_6
          rfl
        have q := ih (m + 1) (by omega)
        rw [e] at q
        first | (rw [fi_s]; exact q) | (rw [← fi_s] at q; exact q) | (simp only [fi_s] at q ⊢; exact q)
  exact key (14) 0 (Nat.zero_add _)
-- MiceRegistersModel.digest 33
def ls_199_33 (M : fl_M) (m : Nat) (q : Int64) : Int64 := ((31 * q) + ((v_132 ((Int32.ofNat m) / 6) ((Int32.ofNat m) - (Int32.ofNat m) / 6 * 6) M).toInt64))
def lq_199_33 (l1 : Int64) (M : fl_M) (m : Nat) : Int64 := fx_it (ls_199_33 M) m l1
theorem lqs_199_33 (l1 : Int64) (M : fl_M) (m : Nat) : lq_199_33 l1 M (m + 1) = (ls_199_33 M) m (lq_199_33 l1 M m) := by
  unfold lq_199_33
  exact fx_it_s _ _ _
def lr_199_33 (l1 : Int64) (M : fl_M) : Int64 := (lq_199_33 l1 M (((6 * (M 81 1))).toNatClampNeg))
set_option maxRecDepth 8000 in
theorem ts_199_33 {r : fl_Q} (i3 : Int32) (l1 : Int64) (u4 : Value) (M : fl_M) (J : fl_J) (q1 : (i3 < (6 * (M 81 1))) → fl_dn fB199 (33, [.ref 81, .long ((31 * l1) + ((v_132 (i3 / 6) (i3 - i3 / 6 * 6) M).toInt64)), .null, .int (i3 + 1), u4], [], M, J) r) (q2 : (¬ (i3 < (6 * (M 81 1)))) → fl_dn fB199 (70, [.ref 81, .long l1, .null, .int i3, u4], [], M, J) r) : fl_dn fB199 (33, [.ref 81, .long l1, .null, .int i3, u4], [], M, J) r :=
 fl_td (s' := (41, [.ref 81, .long l1, .null, .int i3, u4], [.int (6 * (M 81 1)), .int i3], M, J)) (fl_n 5 rfl) <|
 fl_dnot (fl_ic (t := 70) rfl rfl) fl_nlt (fun h1 =>
  fl_td (s' := (58, [.ref 81, .long l1, .null, .int i3, u4], [.int (i3 - i3 / 6 * 6), .int (i3 / 6), .ref 81, .long (31 * l1)], M, J)) (fl_n 10 rfl) <|
  fl_td (s' := (61, [.ref 81, .long l1, .null, .int i3, u4], [.int (v_132 (i3 / 6) (i3 - i3 / 6 * 6) M), .long (31 * l1)], M, J)) (fl_cv (o := some (.int (v_132 (i3 / 6) (i3 - i3 / 6 * 6) M))) rfl rfl rfl rfl (cc_132 M J (i3 / 6) (i3 - i3 / 6 * 6)) rfl) <|
  fl_td (s' := (33, [.ref 81, .long ((31 * l1) + ((v_132 (i3 / 6) (i3 - i3 / 6 * 6) M).toInt64)), .null, .int (i3 + 1), u4], [], M, J)) (fl_n 5 rfl) <|
  (q1 h1)) (fun h1 =>
  (q2 h1))
theorem lp_199_33 {r : fl_Q} (l1 : Int64) (u4 : Value) (M : fl_M) (J : fl_J) (hx : ∀ w3 : Value, fl_dn fB199 (70, [.ref 81, .long (lr_199_33 l1 M), .null, w3, u4], [], M, J) r) : fl_dn fB199 (33, [.ref 81, .long l1, .null, .int 0, u4], [], M, J) r := by
  have hb := fi_bd (6 * (M 81 1))
  have key : ∀ (n m : Nat), m + n = ((6 * (M 81 1))).toNatClampNeg → fl_dn fB199 (33, [.ref 81, .long (lq_199_33 l1 M m), .null, .int (Int32.ofNat m), u4], [], M, J) r := by
    intro n
    induction n with
    | zero =>
      intro m hm
      have hm : m = ((6 * (M 81 1))).toNatClampNeg := by omega
      have hn : ¬ ((Int32.ofNat m) < (6 * (M 81 1))) := fun z => by have z := (fi_lt (by omega)).mp z; omega
      exact ts_199_33 (Int32.ofNat m) (lq_199_33 l1 M m) u4 M J (fun h1 => absurd h1 hn) (fun h1 => (by have e : lr_199_33 l1 M = lq_199_33 l1 M m := (by show lq_199_33 l1 M (((6 * (M 81 1))).toNatClampNeg) = _; rw [← hm]); rw [e] at hx; exact hx _))
    | succ n ih =>
      intro m hm
      have hp : (Int32.ofNat m) < (6 * (M 81 1)) := by exact (fi_lt (by omega)).mpr (by omega)
      refine ts_199_33 (Int32.ofNat m) (lq_199_33 l1 M m) u4 M J (fun h1 => ?_) (fun h1 => absurd hp h1)
      · have e : lq_199_33 l1 M (m + 1) = ((31 * (lq_199_33 l1 M m)) + ((v_132 ((Int32.ofNat m) / 6) ((Int32.ofNat m) - (Int32.ofNat m) / 6 * 6) M).toInt64)) := by
          rw [lqs_199_33]
          unfold ls_199_33
          rfl
        have q := ih (m + 1) (by omega)
        rw [e] at q
        first | (rw [fi_s]; exact q) | (rw [← fi_s] at q; exact q) | (simp only [fi_s] at q ⊢; exact q)
  exact key (((6 * (M 81 1))).toNatClampNeg) 0 (Nat.zero_add _)
-- MiceRegistersModel.digest 72
def ls_199_72 (M : fl_M) (m : Nat) (q : Int64) : Int64 := ((31 * q) + ((v_141 ((Int32.ofNat m) / 5) ((Int32.ofNat m) - (Int32.ofNat m) / 5 * 5) M).toInt64))
def lq_199_72 (l1 : Int64) (M : fl_M) (m : Nat) : Int64 := fx_it (ls_199_72 M) m l1
theorem lqs_199_72 (l1 : Int64) (M : fl_M) (m : Nat) : lq_199_72 l1 M (m + 1) = (ls_199_72 M) m (lq_199_72 l1 M m) := by
  unfold lq_199_72
  exact fx_it_s _ _ _
def lr_199_72 (l1 : Int64) (M : fl_M) : Int64 := (lq_199_72 l1 M (((5 * (M 81 4))).toNatClampNeg))
set_option maxRecDepth 8000 in
theorem ts_199_72 {r : fl_Q} (i3 : Int32) (l1 : Int64) (u4 : Value) (M : fl_M) (J : fl_J) (q1 : (i3 < (5 * (M 81 4))) → fl_dn fB199 (72, [.ref 81, .long ((31 * l1) + ((v_141 (i3 / 5) (i3 - i3 / 5 * 5) M).toInt64)), .null, .int (i3 + 1), u4], [], M, J) r) (q2 : (¬ (i3 < (5 * (M 81 4)))) → fl_dn fB199 (106, [.ref 81, .long l1, .null, .int i3, u4], [], M, J) r) : fl_dn fB199 (72, [.ref 81, .long l1, .null, .int i3, u4], [], M, J) r :=
 fl_td (s' := (79, [.ref 81, .long l1, .null, .int i3, u4], [.int (5 * (M 81 4)), .int i3], M, J)) (fl_n 5 rfl) <|
 fl_dnot (fl_ic (t := 106) rfl rfl) fl_nlt (fun h1 =>
  fl_td (s' := (94, [.ref 81, .long l1, .null, .int i3, u4], [.int (i3 - i3 / 5 * 5), .int (i3 / 5), .ref 81, .long (31 * l1)], M, J)) (fl_n 10 rfl) <|
  fl_td (s' := (97, [.ref 81, .long l1, .null, .int i3, u4], [.int (v_141 (i3 / 5) (i3 - i3 / 5 * 5) M), .long (31 * l1)], M, J)) (fl_cv (o := some (.int (v_141 (i3 / 5) (i3 - i3 / 5 * 5) M))) rfl rfl rfl rfl (cc_141 M J (i3 / 5) (i3 - i3 / 5 * 5)) rfl) <|
  fl_td (s' := (72, [.ref 81, .long ((31 * l1) + ((v_141 (i3 / 5) (i3 - i3 / 5 * 5) M).toInt64)), .null, .int (i3 + 1), u4], [], M, J)) (fl_n 5 rfl) <|
  (q1 h1)) (fun h1 =>
  (q2 h1))
theorem lp_199_72 {r : fl_Q} (l1 : Int64) (u4 : Value) (M : fl_M) (J : fl_J) (hx : ∀ w3 : Value, fl_dn fB199 (106, [.ref 81, .long (lr_199_72 l1 M), .null, w3, u4], [], M, J) r) : fl_dn fB199 (72, [.ref 81, .long l1, .null, .int 0, u4], [], M, J) r := by
  have hb := fi_bd (5 * (M 81 4))
  have key : ∀ (n m : Nat), m + n = ((5 * (M 81 4))).toNatClampNeg → fl_dn fB199 (72, [.ref 81, .long (lq_199_72 l1 M m), .null, .int (Int32.ofNat m), u4], [], M, J) r := by
    intro n
    induction n with
    | zero =>
      intro m hm
      have hm : m = ((5 * (M 81 4))).toNatClampNeg := by omega
      have hn : ¬ ((Int32.ofNat m) < (5 * (M 81 4))) := fun z => by have z := (fi_lt (by omega)).mp z; omega
      exact ts_199_72 (Int32.ofNat m) (lq_199_72 l1 M m) u4 M J (fun h1 => absurd h1 hn) (fun h1 => (by have e : lr_199_72 l1 M = lq_199_72 l1 M m := (by show lq_199_72 l1 M (((5 * (M 81 4))).toNatClampNeg) = _; rw [← hm]); rw [e] at hx; exact hx _))
    | succ n ih =>
      intro m hm
      have hp : (Int32.ofNat m) < (5 * (M 81 4)) := by exact (fi_lt (by omega)).mpr (by omega)
      refine ts_199_72 (Int32.ofNat m) (lq_199_72 l1 M m) u4 M J (fun h1 => ?_) (fun h1 => absurd hp h1)
      · have e : lq_199_72 l1 M (m + 1) = ((31 * (lq_199_72 l1 M m)) + ((v_141 ((Int32.ofNat m) / 5) ((Int32.ofNat m) - (Int32.ofNat m) / 5 * 5) M).toInt64)) := by
          rw [lqs_199_72]
          unfold ls_199_72
          rfl
        have q := ih (m + 1) (by omega)
        rw [e] at q
        first | (rw [fi_s]; exact q) | (rw [← fi_s] at q; exact q) | (simp only [fi_s] at q ⊢; exact q)
  exact key (((5 * (M 81 4))).toNatClampNeg) 0 (Nat.zero_add _)
-- MiceRegistersModel.digest 108
def ls_199_108 (M : fl_M) (m : Nat) (q : Int64) : Int64 := ((31 * q) + ((M 82 (((944 * (Int32.ofNat (1 + m))) + 0).toNatClampNeg)).toInt64))
def lq_199_108 (l1 : Int64) (M : fl_M) (m : Nat) : Int64 := fx_it (ls_199_108 M) m l1
theorem lqs_199_108 (l1 : Int64) (M : fl_M) (m : Nat) : lq_199_108 l1 M (m + 1) = (ls_199_108 M) m (lq_199_108 l1 M m) := by
  unfold lq_199_108
  exact fx_it_s _ _ _
def lr_199_108 (l1 : Int64) (M : fl_M) : Int64 := (lq_199_108 l1 M (3))
set_option maxRecDepth 8000 in
theorem ts_199_108 {r : fl_Q} (i3 : Int32) (l1 : Int64) (u4 : Value) (M : fl_M) (J : fl_J) (q1 : (i3 < 4) → fl_dn fB199 (108, [.ref 81, .long ((31 * l1) + ((M 82 (((944 * i3) + 0).toNatClampNeg)).toInt64)), .null, .int (i3 + 1), u4], [], M, J) r) (q2 : (¬ (i3 < 4)) → fl_dn fB199 (139, [.ref 81, .long l1, .null, .int i3, u4], [], M, J) r) : fl_dn fB199 (108, [.ref 81, .long l1, .null, .int i3, u4], [], M, J) r :=
 fl_td (s' := (110, [.ref 81, .long l1, .null, .int i3, u4], [.int 4, .int i3], M, J)) (fl_n 2 rfl) <|
 fl_dnot (fl_ic (t := 139) rfl rfl) fl_nlt (fun h1 =>
  fl_td (s' := (108, [.ref 81, .long ((31 * l1) + ((M 82 (((944 * i3) + 0).toNatClampNeg)).toInt64)), .null, .int (i3 + 1), u4], [], M, J)) (fl_n 16 rfl) <|
  (q1 h1)) (fun h1 =>
  (q2 h1))
theorem lp_199_108 {r : fl_Q} (l1 : Int64) (u4 : Value) (M : fl_M) (J : fl_J) (hx : ∀ w3 : Value, fl_dn fB199 (139, [.ref 81, .long (lr_199_108 l1 M), .null, w3, u4], [], M, J) r) : fl_dn fB199 (108, [.ref 81, .long l1, .null, .int 1, u4], [], M, J) r := by
  have hb : (4 : Int32).toNatClampNeg = 4 := rfl
  have key : ∀ (n m : Nat), m + n = 3 → fl_dn fB199 (108, [.ref 81, .long (lq_199_108 l1 M m), .null, .int (Int32.ofNat (1 + m)), u4], [], M, J) r := by
    intro n
    induction n with
    | zero =>
      intro m hm
      have hm : m = 3 := by omega
      have hn : ¬ ((Int32.ofNat (1 + m)) < 4) := fun z => by have z := (fi_lt (by omega)).mp z; omega
      exact ts_199_108 (Int32.ofNat (1 + m)) (lq_199_108 l1 M m) u4 M J (fun h1 => absurd h1 hn) (fun h1 => (by have e : lr_199_108 l1 M = lq_199_108 l1 M m := (by show lq_199_108 l1 M (3) = _; rw [← hm]); rw [e] at hx; exact hx _))
    | succ n ih =>
      intro m hm
      have hp : (Int32.ofNat (1 + m)) < 4 := by exact (fi_lt (by omega)).mpr (by omega)
      refine ts_199_108 (Int32.ofNat (1 + m)) (lq_199_108 l1 M m) u4 M J (fun h1 => ?_) (fun h1 => absurd hp h1)
      · have e : lq_199_108 l1 M (m + 1) = ((31 * (lq_199_108 l1 M m)) + ((M 82 (((944 * (Int32.ofNat (1 + m))) + 0).toNatClampNeg)).toInt64)) := by
          rw [lqs_199_108]
          unfold ls_199_108
          rfl
        have q := ih (m + 1) (by omega)
        rw [e] at q
        first | (rw [fi_s]; exact q) | (rw [← fi_s] at q; exact q) | (simp only [fi_s] at q ⊢; exact q)
  exact key (3) 0 (Nat.zero_add _)
-- MiceRegistersModel.digest 164
def ls_199_164 (i3 : Int32) (M : fl_M) (m : Nat) (q : Int64) : Int64 := ((31 * q) + ((M 88 (((40 * i3) + (Int32.ofNat m)).toNatClampNeg)).toInt64))
def lq_199_164 (i3 : Int32) (l1 : Int64) (M : fl_M) (m : Nat) : Int64 := fx_it (ls_199_164 i3 M) m l1
theorem lqs_199_164 (i3 : Int32) (l1 : Int64) (M : fl_M) (m : Nat) : lq_199_164 i3 l1 M (m + 1) = (ls_199_164 i3 M) m (lq_199_164 i3 l1 M m) := by
  unfold lq_199_164
  exact fx_it_s _ _ _
def lr_199_164 (i3 : Int32) (l1 : Int64) (M : fl_M) : Int64 := (lq_199_164 i3 l1 M (((M 87 i3.toNatClampNeg)).toNatClampNeg))
set_option maxRecDepth 8000 in
theorem ts_199_164 {r : fl_Q} (i3 i4 : Int32) (l1 : Int64) (M : fl_M) (J : fl_J) (q1 : (i4 < (M 87 i3.toNatClampNeg)) → fl_dn fB199 (164, [.ref 81, .long ((31 * l1) + ((M 88 (((40 * i3) + i4).toNatClampNeg)).toInt64)), .null, .int i3, .int (i4 + 1)], [], M, J) r) (q2 : (¬ (i4 < (M 87 i3.toNatClampNeg))) → fl_dn fB199 (201, [.ref 81, .long l1, .null, .int i3, .int i4], [], M, J) r) : fl_dn fB199 (164, [.ref 81, .long l1, .null, .int i3, .int i4], [], M, J) r :=
 fl_td (s' := (172, [.ref 81, .long l1, .null, .int i3, .int i4], [.int (M 87 i3.toNatClampNeg), .int i4], M, J)) (fl_n 5 rfl) <|
 fl_dnot (fl_ic (t := 201) rfl rfl) fl_nlt (fun h1 =>
  fl_td (s' := (164, [.ref 81, .long ((31 * l1) + ((M 88 (((40 * i3) + i4).toNatClampNeg)).toInt64)), .null, .int i3, .int (i4 + 1)], [], M, J)) (fl_n 16 rfl) <|
  (q1 h1)) (fun h1 =>
  (q2 h1))
theorem lp_199_164 {r : fl_Q} (i3 : Int32) (l1 : Int64) (M : fl_M) (J : fl_J) (hx : ∀ w4 : Value, fl_dn fB199 (201, [.ref 81, .long (lr_199_164 i3 l1 M), .null, .int i3, w4], [], M, J) r) : fl_dn fB199 (164, [.ref 81, .long l1, .null, .int i3, .int 0], [], M, J) r := by
  have hb := fi_bd (M 87 i3.toNatClampNeg)
  have key : ∀ (n m : Nat), m + n = ((M 87 i3.toNatClampNeg)).toNatClampNeg → fl_dn fB199 (164, [.ref 81, .long (lq_199_164 i3 l1 M m), .null, .int i3, .int (Int32.ofNat m)], [], M, J) r := by
    intro n
    induction n with
    | zero =>
      intro m hm
      have hm : m = ((M 87 i3.toNatClampNeg)).toNatClampNeg := by omega
      have hn : ¬ ((Int32.ofNat m) < (M 87 i3.toNatClampNeg)) := fun z => by have z := (fi_lt (by omega)).mp z; omega
      exact ts_199_164 i3 (Int32.ofNat m) (lq_199_164 i3 l1 M m) M J (fun h1 => absurd h1 hn) (fun h1 => (by have e : lr_199_164 i3 l1 M = lq_199_164 i3 l1 M m := (by show lq_199_164 i3 l1 M (((M 87 i3.toNatClampNeg)).toNatClampNeg) = _; rw [← hm]); rw [e] at hx; exact hx _))
    | succ n ih =>
      intro m hm
      have hp : (Int32.ofNat m) < (M 87 i3.toNatClampNeg) := by exact (fi_lt (by omega)).mpr (by omega)
      refine ts_199_164 i3 (Int32.ofNat m) (lq_199_164 i3 l1 M m) M J (fun h1 => ?_) (fun h1 => absurd hp h1)
      · have e : lq_199_164 i3 l1 M (m + 1) = ((31 * (lq_199_164 i3 l1 M m)) + ((M 88 (((40 * i3) + (Int32.ofNat m)).toNatClampNeg)).toInt64)) := by
          rw [lqs_199_164]
          unfold ls_199_164
          rfl
        have q := ih (m + 1) (by omega)
        rw [e] at q
        first | (rw [fi_s]; exact q) | (rw [← fi_s] at q; exact q) | (simp only [fi_s] at q ⊢; exact q)
  exact key (((M 87 i3.toNatClampNeg)).toNatClampNeg) 0 (Nat.zero_add _)
-- MiceRegistersModel.digest 141
def ls_199_141 (M : fl_M) (m : Nat) (q : Int64) : Int64 := (lr_199_164 (Int32.ofNat m) ((31 * q) + ((M 87 (Int32.ofNat m).toNatClampNeg).toInt64)) M)
def lq_199_141 (l1 : Int64) (M : fl_M) (m : Nat) : Int64 := fx_it (ls_199_141 M) m l1
theorem lqs_199_141 (l1 : Int64) (M : fl_M) (m : Nat) : lq_199_141 l1 M (m + 1) = (ls_199_141 M) m (lq_199_141 l1 M m) := by
  unfold lq_199_141
  exact fx_it_s _ _ _
def lr_199_141 (l1 : Int64) (M : fl_M) : Int64 := (lq_199_141 l1 M (6))
set_option maxRecDepth 8000 in
theorem ts_199_141 {r : fl_Q} (i3 : Int32) (l1 : Int64) (u4 : Value) (M : fl_M) (J : fl_J) (q1 : (i3 < 6) → ∀ u153 : Value, fl_dn fB199 (141, [.ref 81, .long (lr_199_164 i3 ((31 * l1) + ((M 87 i3.toNatClampNeg).toInt64)) M), .null, .int (i3 + 1), u153], [], M, J) r) (q2 : (¬ (i3 < 6)) → fl_dn fB199 (207, [.ref 81, .long l1, .null, .int i3, u4], [], M, J) r) : fl_dn fB199 (141, [.ref 81, .long l1, .null, .int i3, u4], [], M, J) r :=
 fl_td (s' := (144, [.ref 81, .long l1, .null, .int i3, u4], [.int 6, .int i3], M, J)) (fl_n 2 rfl) <|
 fl_dnot (fl_ic (t := 207) rfl rfl) fl_nlt (fun h1 =>
  fl_td (s' := (164, [.ref 81, .long ((31 * l1) + ((M 87 i3.toNatClampNeg).toInt64)), .null, .int i3, .int 0], [], M, J)) (fl_n 12 rfl) <|
  lp_199_164 i3 ((31 * l1) + ((M 87 i3.toNatClampNeg).toInt64)) M J (fun u153 =>
   fx_gen (p := fun (LL154 : Int64) => fl_dn fB199 (201, [.ref 81, .long LL154, .null, .int i3, u153], [], M, J) r) (lr_199_164 i3 ((31 * l1) + ((M 87 i3.toNatClampNeg).toInt64)) M) (fun LL154 eLL154 =>
    fl_td (s' := (141, [.ref 81, .long LL154, .null, .int (i3 + 1), u153], [], M, J)) (fl_n 2 rfl) <|
    (by subst eLL154; exact (q1 h1 u153))))) (fun h1 =>
  (q2 h1))
theorem lp_199_141 {r : fl_Q} (l1 : Int64) (u4 : Value) (M : fl_M) (J : fl_J) (hx : ∀ w3 w4 : Value, fl_dn fB199 (207, [.ref 81, .long (lr_199_141 l1 M), .null, w3, w4], [], M, J) r) : fl_dn fB199 (141, [.ref 81, .long l1, .null, .int 0, u4], [], M, J) r := by
  have hb : (6 : Int32).toNatClampNeg = 6 := rfl
  have key : ∀ (n m : Nat) (w4 : Value), m + n = 6 → fl_dn fB199 (141, [.ref 81, .long (lq_199_141 l1 M m), .null, .int (Int32.ofNat m), w4], [], M, J) r := by
    intro n
    induction n with
    | zero =>
      intro m w4 hm
      have hm : m = 6 := by omega
      have hn : ¬ ((Int32.ofNat m) < 6) := fun z => by have z := (fi_lt (by omega)).mp z; omega
      exact ts_199_141 (Int32.ofNat m) (lq_199_141 l1 M m) w4 M J (fun h1 u153 => absurd h1 hn) (fun h1 => (by have e : lr_199_141 l1 M = lq_199_141 l1 M m := (by show lq_199_141 l1 M (6) = _; rw [← hm]); rw [e] at hx; exact hx _ _))
    | succ n ih =>
      intro m w4 hm
      have hp : (Int32.ofNat m) < 6 := by exact (fi_lt (by omega)).mpr (by omega)
      refine ts_199_141 (Int32.ofNat m) (lq_199_141 l1 M m) w4 M J (fun h1 u153 => ?_) (fun h1 => absurd hp h1)
      · have e : lq_199_141 l1 M (m + 1) = (lr_199_164 (Int32.ofNat m) ((31 * (lq_199_141 l1 M m)) + ((M 87 (Int32.ofNat m).toNatClampNeg).toInt64)) M) := by
          rw [lqs_199_141]
          unfold ls_199_141
          rfl
        have q := ih (m + 1) u153 (by omega)
        rw [e] at q
        first | (rw [fi_s]; exact q) | (rw [← fi_s] at q; exact q) | (simp only [fi_s] at q ⊢; exact q)
  exact key (6) 0 u4 (Nat.zero_add _)
-- MiceRegistersModel.digest 231
def ls_199_231 (i3 : Int32) (M : fl_M) (m : Nat) (q : Int64) : Int64 := ((31 * q) + ((M 90 (((60 * i3) + (Int32.ofNat m)).toNatClampNeg)).toInt64))
def lq_199_231 (i3 : Int32) (l1 : Int64) (M : fl_M) (m : Nat) : Int64 := fx_it (ls_199_231 i3 M) m l1
theorem lqs_199_231 (i3 : Int32) (l1 : Int64) (M : fl_M) (m : Nat) : lq_199_231 i3 l1 M (m + 1) = (ls_199_231 i3 M) m (lq_199_231 i3 l1 M m) := by
  unfold lq_199_231
  exact fx_it_s _ _ _
def lr_199_231 (i3 : Int32) (l1 : Int64) (M : fl_M) : Int64 := (lq_199_231 i3 l1 M (((M 89 i3.toNatClampNeg)).toNatClampNeg))
set_option maxRecDepth 8000 in
theorem ts_199_231 {r : fl_Q} (i3 i4 : Int32) (l1 : Int64) (M : fl_M) (J : fl_J) (q1 : (i4 < (M 89 i3.toNatClampNeg)) → fl_dn fB199 (231, [.ref 81, .long ((31 * l1) + ((M 90 (((60 * i3) + i4).toNatClampNeg)).toInt64)), .null, .int i3, .int (i4 + 1)], [], M, J) r) (q2 : (¬ (i4 < (M 89 i3.toNatClampNeg))) → fl_dn fB199 (268, [.ref 81, .long l1, .null, .int i3, .int i4], [], M, J) r) : fl_dn fB199 (231, [.ref 81, .long l1, .null, .int i3, .int i4], [], M, J) r :=
 fl_td (s' := (239, [.ref 81, .long l1, .null, .int i3, .int i4], [.int (M 89 i3.toNatClampNeg), .int i4], M, J)) (fl_n 5 rfl) <|
 fl_dnot (fl_ic (t := 268) rfl rfl) fl_nlt (fun h1 =>
  fl_td (s' := (231, [.ref 81, .long ((31 * l1) + ((M 90 (((60 * i3) + i4).toNatClampNeg)).toInt64)), .null, .int i3, .int (i4 + 1)], [], M, J)) (fl_n 16 rfl) <|
  (q1 h1)) (fun h1 =>
  (q2 h1))
theorem lp_199_231 {r : fl_Q} (i3 : Int32) (l1 : Int64) (M : fl_M) (J : fl_J) (hx : ∀ w4 : Value, fl_dn fB199 (268, [.ref 81, .long (lr_199_231 i3 l1 M), .null, .int i3, w4], [], M, J) r) : fl_dn fB199 (231, [.ref 81, .long l1, .null, .int i3, .int 0], [], M, J) r := by
  have hb := fi_bd (M 89 i3.toNatClampNeg)
  have key : ∀ (n m : Nat), m + n = ((M 89 i3.toNatClampNeg)).toNatClampNeg → fl_dn fB199 (231, [.ref 81, .long (lq_199_231 i3 l1 M m), .null, .int i3, .int (Int32.ofNat m)], [], M, J) r := by
    intro n
    induction n with
    | zero =>
      intro m hm
      have hm : m = ((M 89 i3.toNatClampNeg)).toNatClampNeg := by omega
      have hn : ¬ ((Int32.ofNat m) < (M 89 i3.toNatClampNeg)) := fun z => by have z := (fi_lt (by omega)).mp z; omega
      exact ts_199_231 i3 (Int32.ofNat m) (lq_199_231 i3 l1 M m) M J (fun h1 => absurd h1 hn) (fun h1 => (by have e : lr_199_231 i3 l1 M = lq_199_231 i3 l1 M m := (by show lq_199_231 i3 l1 M (((M 89 i3.toNatClampNeg)).toNatClampNeg) = _; rw [← hm]); rw [e] at hx; exact hx _))
    | succ n ih =>
      intro m hm
      have hp : (Int32.ofNat m) < (M 89 i3.toNatClampNeg) := by exact (fi_lt (by omega)).mpr (by omega)
      refine ts_199_231 i3 (Int32.ofNat m) (lq_199_231 i3 l1 M m) M J (fun h1 => ?_) (fun h1 => absurd hp h1)
      · have e : lq_199_231 i3 l1 M (m + 1) = ((31 * (lq_199_231 i3 l1 M m)) + ((M 90 (((60 * i3) + (Int32.ofNat m)).toNatClampNeg)).toInt64)) := by
          rw [lqs_199_231]
          unfold ls_199_231
          rfl
        have q := ih (m + 1) (by omega)
        rw [e] at q
        first | (rw [fi_s]; exact q) | (rw [← fi_s] at q; exact q) | (simp only [fi_s] at q ⊢; exact q)
  exact key (((M 89 i3.toNatClampNeg)).toNatClampNeg) 0 (Nat.zero_add _)
-- MiceRegistersModel.digest 209
def ls_199_209 (M : fl_M) (m : Nat) (q : Int64) : Int64 := (lr_199_231 (Int32.ofNat m) ((31 * q) + ((M 89 (Int32.ofNat m).toNatClampNeg).toInt64)) M)
def lq_199_209 (l1 : Int64) (M : fl_M) (m : Nat) : Int64 := fx_it (ls_199_209 M) m l1
theorem lqs_199_209 (l1 : Int64) (M : fl_M) (m : Nat) : lq_199_209 l1 M (m + 1) = (ls_199_209 M) m (lq_199_209 l1 M m) := by
  unfold lq_199_209
  exact fx_it_s _ _ _
def lr_199_209 (l1 : Int64) (M : fl_M) : Int64 := (lq_199_209 l1 M (4))
set_option maxRecDepth 8000 in
theorem ts_199_209 {r : fl_Q} (i3 : Int32) (l1 : Int64) (u4 : Value) (M : fl_M) (J : fl_J) (q1 : (i3 < 4) → ∀ u158 : Value, fl_dn fB199 (209, [.ref 81, .long (lr_199_231 i3 ((31 * l1) + ((M 89 i3.toNatClampNeg).toInt64)) M), .null, .int (i3 + 1), u158], [], M, J) r) (q2 : (¬ (i3 < 4)) → fl_dn fB199 (274, [.ref 81, .long l1, .null, .int i3, u4], [], M, J) r) : fl_dn fB199 (209, [.ref 81, .long l1, .null, .int i3, u4], [], M, J) r :=
 fl_td (s' := (211, [.ref 81, .long l1, .null, .int i3, u4], [.int 4, .int i3], M, J)) (fl_n 2 rfl) <|
 fl_dnot (fl_ic (t := 274) rfl rfl) fl_nlt (fun h1 =>
  fl_td (s' := (231, [.ref 81, .long ((31 * l1) + ((M 89 i3.toNatClampNeg).toInt64)), .null, .int i3, .int 0], [], M, J)) (fl_n 12 rfl) <|
  lp_199_231 i3 ((31 * l1) + ((M 89 i3.toNatClampNeg).toInt64)) M J (fun u158 =>
   fx_gen (p := fun (LL159 : Int64) => fl_dn fB199 (268, [.ref 81, .long LL159, .null, .int i3, u158], [], M, J) r) (lr_199_231 i3 ((31 * l1) + ((M 89 i3.toNatClampNeg).toInt64)) M) (fun LL159 eLL159 =>
    fl_td (s' := (209, [.ref 81, .long LL159, .null, .int (i3 + 1), u158], [], M, J)) (fl_n 2 rfl) <|
    (by subst eLL159; exact (q1 h1 u158))))) (fun h1 =>
  (q2 h1))
theorem lp_199_209 {r : fl_Q} (l1 : Int64) (u4 : Value) (M : fl_M) (J : fl_J) (hx : ∀ w3 w4 : Value, fl_dn fB199 (274, [.ref 81, .long (lr_199_209 l1 M), .null, w3, w4], [], M, J) r) : fl_dn fB199 (209, [.ref 81, .long l1, .null, .int 0, u4], [], M, J) r := by
  have hb : (4 : Int32).toNatClampNeg = 4 := rfl
  have key : ∀ (n m : Nat) (w4 : Value), m + n = 4 → fl_dn fB199 (209, [.ref 81, .long (lq_199_209 l1 M m), .null, .int (Int32.ofNat m), w4], [], M, J) r := by
    intro n
    induction n with
    | zero =>
      intro m w4 hm
      have hm : m = 4 := by omega
      have hn : ¬ ((Int32.ofNat m) < 4) := fun z => by have z := (fi_lt (by omega)).mp z; omega
      exact ts_199_209 (Int32.ofNat m) (lq_199_209 l1 M m) w4 M J (fun h1 u158 => absurd h1 hn) (fun h1 => (by have e : lr_199_209 l1 M = lq_199_209 l1 M m := (by show lq_199_209 l1 M (4) = _; rw [← hm]); rw [e] at hx; exact hx _ _))
    | succ n ih =>
      intro m w4 hm
      have hp : (Int32.ofNat m) < 4 := by exact (fi_lt (by omega)).mpr (by omega)
      refine ts_199_209 (Int32.ofNat m) (lq_199_209 l1 M m) w4 M J (fun h1 u158 => ?_) (fun h1 => absurd hp h1)
      · have e : lq_199_209 l1 M (m + 1) = (lr_199_231 (Int32.ofNat m) ((31 * (lq_199_209 l1 M m)) + ((M 89 (Int32.ofNat m).toNatClampNeg).toInt64)) M) := by
          rw [lqs_199_209]
          unfold ls_199_209
          rfl
        have q := ih (m + 1) u158 (by omega)
        rw [e] at q
        first | (rw [fi_s]; exact q) | (rw [← fi_s] at q; exact q) | (simp only [fi_s] at q ⊢; exact q)
  exact key (4) 0 u4 (Nat.zero_add _)
def v_199 (M : fl_M) : Int64 := (lr_199_209 (lr_199_141 (lr_199_108 (lr_199_72 (lr_199_33 (lr_199_6 17 M) M) M) M) M) M)
set_option maxRecDepth 8000 in
theorem cc_199 (M : fl_M) (J : fl_J) : fl_C 199 [.ref 81] M J (some (.long (v_199 M)), M, J) :=
 fl_Co (B := fB199) rfl rfl <|
 fl_td (s' := (6, [.ref 81, .long 17, .null, .int 0, .null], [], M, J)) (fl_n 4 rfl) <|
 lp_199_6 17 .null M J (fun u145 =>
  fx_gen (p := fun (LL146 : Int64) => fl_dn fB199 (31, [.ref 81, .long LL146, .null, u145, .null], [], M, J) (some (.long (v_199 M)), M, J)) (lr_199_6 17 M) (fun LL146 eLL146 =>
   fl_td (s' := (33, [.ref 81, .long LL146, .null, .int 0, .null], [], M, J)) (fl_n 2 rfl) <|
   lp_199_33 LL146 .null M J (fun u147 =>
    fx_gen (p := fun (LL148 : Int64) => fl_dn fB199 (70, [.ref 81, .long LL148, .null, u147, .null], [], M, J) (some (.long (v_199 M)), M, J)) (lr_199_33 LL146 M) (fun LL148 eLL148 =>
     fl_td (s' := (72, [.ref 81, .long LL148, .null, .int 0, .null], [], M, J)) (fl_n 2 rfl) <|
     lp_199_72 LL148 .null M J (fun u149 =>
      fx_gen (p := fun (LL150 : Int64) => fl_dn fB199 (106, [.ref 81, .long LL150, .null, u149, .null], [], M, J) (some (.long (v_199 M)), M, J)) (lr_199_72 LL148 M) (fun LL150 eLL150 =>
       fl_td (s' := (108, [.ref 81, .long LL150, .null, .int 1, .null], [], M, J)) (fl_n 2 rfl) <|
       lp_199_108 LL150 .null M J (fun u151 =>
        fx_gen (p := fun (LL152 : Int64) => fl_dn fB199 (139, [.ref 81, .long LL152, .null, u151, .null], [], M, J) (some (.long (v_199 M)), M, J)) (lr_199_108 LL150 M) (fun LL152 eLL152 =>
         fl_td (s' := (141, [.ref 81, .long LL152, .null, .int 0, .null], [], M, J)) (fl_n 2 rfl) <|
         lp_199_141 LL152 .null M J (fun u155 u156 =>
          fx_gen (p := fun (LL157 : Int64) => fl_dn fB199 (207, [.ref 81, .long LL157, .null, u155, u156], [], M, J) (some (.long (v_199 M)), M, J)) (lr_199_141 LL152 M) (fun LL157 eLL157 =>
           fl_td (s' := (209, [.ref 81, .long LL157, .null, .int 0, u156], [], M, J)) (fl_n 2 rfl) <|
           lp_199_209 LL157 u156 M J (fun u160 u161 =>
            fx_gen (p := fun (LL162 : Int64) => fl_dn fB199 (274, [.ref 81, .long LL162, .null, u160, u161], [], M, J) (some (.long (v_199 M)), M, J)) (lr_199_209 LL157 M) (fun LL162 eLL162 =>
             fl_td (s' := (275, [.ref 81, .long LL162, .null, u160, u161], [.long LL162], M, J)) (fl_n 1 rfl) <|
             fl_rt rfl (fun _ => rfl) (by subst eLL146; subst eLL148; subst eLL150; subst eLL152; subst eLL157; subst eLL162; rfl)))))))))))))
def fB186 : sm_P := (fun pc => sm_ch sm_t186 pc, sm_Kn 3 11 none, fun x => sm_lk sm_ca3 x, none)
theorem ts_186_6 {r : fl_Q} (l1 l3 l5 l7 : Int64) (u9 u10 : Value) (M : fl_M) (J : fl_J) (q1 : (l7 = 0) → fl_dn fB186 (31, [.ref 81, .long l1, .null, .long l3, .null, .long l5, .null, .long l7, .null, u9, u10], [], M, J) r) (q2 : (¬ (l7 = 0)) → fl_dn fB186 (6, [.ref 81, .long l1, .null, .long l3, .null, .long l7, .null, .long (l5 - l5 / l7 * l7), .null, .long (l5 - l5 / l7 * l7), u10], [], M, J) r) : fl_dn fB186 (6, [.ref 81, .long l1, .null, .long l3, .null, .long l5, .null, .long l7, .null, u9, u10], [], M, J) r :=
 fl_td (s' := (10, [.ref 81, .long l1, .null, .long l3, .null, .long l5, .null, .long l7, .null, u9, u10], [.int (lg_cmp l7 0)], M, J)) (fl_n 3 rfl) <|
 fl_dtwo (fl_if (t := 31) rfl rfl) fl_leq (fun h1 =>
  (q1 h1)) (fun h1 =>
  fl_td (s' := (6, [.ref 81, .long l1, .null, .long l3, .null, .long l7, .null, .long (l5 - l5 / l7 * l7), .null, .long (l5 - l5 / l7 * l7), u10], [], M, J)) (fl_n 9 rfl) <|
  (q2 h1))
def eu : Nat → Int64 → Int64 → Int64
  | 0, x, _ => x
  | n + 1, x, y => if y = 0 then x else eu n y (x - x / y * y)
theorem eu_rem {x y : Int64} (hx : 0 ≤ x.toInt) (hy : 0 < y.toInt) : (x - x / y * y).toInt = x.toInt % y.toInt := by
  have b1 := x.toInt_lt
  have b2 := y.toInt_lt
  have e1 : (x / y).toInt = x.toInt / y.toInt := by
    rw [Int64.toInt_div, Int.tdiv_eq_ediv_of_nonneg hx]
    have h2 : 0 ≤ x.toInt / y.toInt := Int.ediv_nonneg hx (by omega)
    have h3 : x.toInt / y.toInt ≤ x.toInt := Int.ediv_le_self _ hx
    unfold Int.bmod
    dsimp only
    split <;> omega
  have h4 : x.toInt / y.toInt * y.toInt ≤ x.toInt := Int.ediv_mul_le _ (by omega)
  have h5 : 0 ≤ x.toInt / y.toInt * y.toInt := Int.mul_nonneg (Int.ediv_nonneg hx (by omega)) (by omega)
  have e2 : (x / y * y).toInt = x.toInt / y.toInt * y.toInt := by
    rw [Int64.toInt_mul, e1]
    unfold Int.bmod
    dsimp only
    split <;> omega
  have h6 := Int.emod_def x.toInt y.toInt
  have h7 := Int.emod_nonneg x.toInt (show y.toInt ≠ 0 by omega)
  rw [Int.mul_comm] at h6
  rw [Int64.toInt_sub, e2, ← h6]
  unfold Int.bmod
  dsimp only
  split <;> omega
theorem lp_186_6 {r : fl_Q} (l1 l3 : Int64) (M : fl_M) (J : fl_J) : ∀ (n : Nat) (x y : Int64) (u9 u10 : Value), 0 ≤ x.toInt → 0 ≤ y.toInt → y.toInt < n → (∀ (y' : Int64) (u9 u10 : Value), fl_dn fB186 (31, [.ref 81, .long l1, .null, .long l3, .null, .long (eu n x y), .null, .long y', .null, u9, u10], [], M, J) r) → fl_dn fB186 (6, [.ref 81, .long l1, .null, .long l3, .null, .long x, .null, .long y, .null, u9, u10], [], M, J) r := by
  intro n
  induction n with
  | zero => intro x y u9 u10 hx hy hn; omega
  | succ n ih =>
    intro x y u9 u10 hx hy hn hk
    refine ts_186_6 l1 l3 x y u9 u10 M J (fun h1 => ?_) (fun h1 => ?_)
    · have q := hk y u9 u10
      unfold eu at q
      rw [if_pos h1] at q
      exact q
    · have y0 : y.toInt ≠ 0 := fun z => h1 (Int64.toInt_inj.mp z)
      have e := eu_rem hx (show 0 < y.toInt by omega)
      have e1 := Int.emod_nonneg x.toInt y0
      have e2 := Int.emod_lt_of_pos x.toInt (show 0 < y.toInt by omega)
      refine ih _ _ _ _ hy (by omega) (by omega) (fun y' u9 u10 => ?_)
      have q := hk y' u9 u10
      unfold eu at q
      rw [if_neg h1] at q
      exact q
def eg (a b : Int64) : Int64 := eu (b.toInt.toNat + 1) a b
theorem cc_186 (M : fl_M) (J : fl_J) (a b : Int64) (ha : 0 ≤ a.toInt) (hb : 0 ≤ b.toInt) : fl_C 186 [.ref 81, .long a, .long b] M J (none, M, (fl_w (fl_w J 81 12 (a / (eg a b))) 81 13 (b / (eg a b)))) :=
 fl_Co (B := fB186) rfl rfl <|
 fl_td (s' := (6, [.ref 81, .long a, .null, .long b, .null, .long a, .null, .long b, .null, .null, .null], [], M, J)) (fl_n 4 rfl) <|
 lp_186_6 a b M J (b.toInt.toNat + 1) a b _ _ ha hb (by omega) (fun y' u9 u10 => fl_td (s' := (47, [.ref 81, .long a, .null, .long b, .null, .long (eg a b), .null, .long y', .null, u9, u10], [], M, (fl_w (fl_w J 81 12 (a / (eg a b))) 81 13 (b / (eg a b))))) (fl_n 10 rfl) <|
  fl_rt rfl (fun _ => rfl) rfl)
def fB184 : sm_P := (fun pc => sm_ch sm_t184 pc, sm_Kn 3 10 none, fun x => sm_lk sm_ca3 x, some .int)
-- MiceRegistersModel.odds 30
def ls_184_30 (i1 i2 : Int32) (m : Nat) (q : (Int64 × Int64 × fl_M)) : (Int64 × Int64 × fl_M) := (if ((m_150 3776 (Int32.ofNat m) (lr_160_2 q.2.2)) 82 ((3780 + i1).toNatClampNeg)) = ((m_150 3776 (Int32.ofNat m) (lr_160_2 q.2.2)) 82 ((4 + i1).toNatClampNeg)) then ((q.1 + (lr_185_5 (Int32.ofNat m) i2 1 q.2.2)), (q.2.1 + (lr_185_5 (Int32.ofNat m) i2 1 q.2.2)), (m_150 3776 (Int32.ofNat m) (lr_160_2 q.2.2))) else ((q.1 + 0), (q.2.1 + (lr_185_5 (Int32.ofNat m) i2 1 q.2.2)), (m_150 3776 (Int32.ofNat m) (lr_160_2 q.2.2))))
def lq_184_30 (i1 i2 : Int32) (l3 l5 : Int64) (M : fl_M) (m : Nat) : (Int64 × Int64 × fl_M) := fx_it (ls_184_30 i1 i2) m (l3, l5, M)
theorem lqs_184_30 (i1 i2 : Int32) (l3 l5 : Int64) (M : fl_M) (m : Nat) : lq_184_30 i1 i2 l3 l5 M (m + 1) = (ls_184_30 i1 i2) m (lq_184_30 i1 i2 l3 l5 M m) := by
  unfold lq_184_30
  exact fx_it_s _ _ _
def lr_184_30 (i1 i2 : Int32) (l3 l5 : Int64) (M : fl_M) : (Int64 × Int64 × fl_M) := (lq_184_30 i1 i2 l3 l5 M ((((1 : Int32) <<< ((M 81 4) &&& 31))).toNatClampNeg))
set_option maxRecDepth 8000 in
theorem ts_184_30 {r : fl_Q} (i1 i2 i7 : Int32) (l3 l5 : Int64) (u8 u9 : Value) (M : fl_M) (J : fl_J) (q1 : (i7 < ((1 : Int32) <<< ((M 81 4) &&& 31))) → (((m_150 3776 i7 (lr_160_2 M)) 82 ((3780 + i1).toNatClampNeg)) = ((m_150 3776 i7 (lr_160_2 M)) 82 ((4 + i1).toNatClampNeg))) → fl_dn fB184 (30, [.ref 81, .int i1, .int i2, .long (l3 + (lr_185_5 i7 i2 1 M)), .null, .long (l5 + (lr_185_5 i7 i2 1 M)), .null, .int (i7 + 1), .long (lr_185_5 i7 i2 1 M), u9], [], (m_150 3776 i7 (lr_160_2 M)), J) r) (q2 : (i7 < ((1 : Int32) <<< ((M 81 4) &&& 31))) → (¬ (((m_150 3776 i7 (lr_160_2 M)) 82 ((3780 + i1).toNatClampNeg)) = ((m_150 3776 i7 (lr_160_2 M)) 82 ((4 + i1).toNatClampNeg)))) → fl_dn fB184 (30, [.ref 81, .int i1, .int i2, .long (l3 + 0), .null, .long (l5 + (lr_185_5 i7 i2 1 M)), .null, .int (i7 + 1), .long (lr_185_5 i7 i2 1 M), u9], [], (m_150 3776 i7 (lr_160_2 M)), J) r) (q3 : (¬ (i7 < ((1 : Int32) <<< ((M 81 4) &&& 31)))) → fl_dn fB184 (107, [.ref 81, .int i1, .int i2, .long l3, .null, .long l5, .null, .int i7, u8, u9], [], M, J) r) : fl_dn fB184 (30, [.ref 81, .int i1, .int i2, .long l3, .null, .long l5, .null, .int i7, u8, u9], [], M, J) r :=
 fl_td (s' := (38, [.ref 81, .int i1, .int i2, .long l3, .null, .long l5, .null, .int i7, u8, u9], [.int ((1 : Int32) <<< ((M 81 4) &&& 31)), .int i7], M, J)) (fl_n 5 rfl) <|
 fl_dnot (fl_ic (t := 107) rfl rfl) fl_nlt (fun h1 =>
  fl_td (s' := (45, [.ref 81, .int i1, .int i2, .long l3, .null, .long l5, .null, .int i7, u8, u9], [.int i2, .int i7, .ref 81], M, J)) (fl_n 3 rfl) <|
  fl_td (s' := (48, [.ref 81, .int i1, .int i2, .long l3, .null, .long l5, .null, .int i7, u8, u9], [.long (lr_185_5 i7 i2 1 M)], M, J)) (fl_cv (o := some (.long (lr_185_5 i7 i2 1 M))) rfl rfl rfl rfl (cc_185 M J i7 i2) rfl) <|
  fx_gen (p := fun (LL163 : Int64) => fl_dn fB184 (48, [.ref 81, .int i1, .int i2, .long l3, .null, .long l5, .null, .int i7, u8, u9], [.long LL163], M, J) r) (lr_185_5 i7 i2 1 M) (fun LL163 eLL163 =>
   fl_td (s' := (51, [.ref 81, .int i1, .int i2, .long l3, .null, .long l5, .null, .int i7, .long LL163, u9], [.ref 81], M, J)) (fl_n 2 rfl) <|
   fl_td (s' := (54, [.ref 81, .int i1, .int i2, .long l3, .null, .long l5, .null, .int i7, .long LL163, u9], [], (lr_160_2 M), J)) (fl_cv (o := none) rfl rfl rfl rfl (cc_160 M J) rfl) <|
   fx_gen (p := fun (MM164 : fl_M) => fl_dn fB184 (54, [.ref 81, .int i1, .int i2, .long l3, .null, .long l5, .null, .int i7, .long LL163, u9], [], MM164, J) r) (lr_160_2 M) (fun MM164 eMM164 =>
    fl_td (s' := (60, [.ref 81, .int i1, .int i2, .long l3, .null, .long l5, .null, .int i7, .long LL163, u9], [.int i7, .int 3776, .ref 81], MM164, J)) (fl_n 3 rfl) <|
    fl_td (s' := (63, [.ref 81, .int i1, .int i2, .long l3, .null, .long l5, .null, .int i7, .long LL163, u9], [.int ((lr_150_5 3776 i7 0 MM164).1)], (m_150 3776 i7 MM164), J)) (fl_cv (o := some (.int ((lr_150_5 3776 i7 0 MM164).1))) rfl rfl rfl rfl (cc_150 MM164 J 3776 i7) rfl) <|
    fx_gen (p := fun (MM165 : fl_M) => fl_dn fB184 (63, [.ref 81, .int i1, .int i2, .long l3, .null, .long l5, .null, .int i7, .long LL163, u9], [.int ((lr_150_5 3776 i7 0 MM164).1)], MM165, J) r) (m_150 3776 i7 MM164) (fun MM165 eMM165 =>
     fx_gen (p := fun (II166 : Int32) => fl_dn fB184 (63, [.ref 81, .int i1, .int i2, .long l3, .null, .long l5, .null, .int i7, .long LL163, u9], [.int II166], MM165, J) r) ((lr_150_5 3776 i7 0 MM164).1) (fun II166 eII166 =>
      fl_td (s' := (83, [.ref 81, .int i1, .int i2, .long l3, .null, .long l5, .null, .int i7, .long LL163, u9], [.int (MM165 82 ((4 + i1).toNatClampNeg)), .int (MM165 82 ((3780 + i1).toNatClampNeg)), .long l3], MM165, J)) (fl_n 14 rfl) <|
      fl_dnot (fl_ic (t := 91) rfl rfl) fl_cF (fun h4 =>
       fl_td (s' := (30, [.ref 81, .int i1, .int i2, .long (l3 + LL163), .null, .long (l5 + LL163), .null, .int (i7 + 1), .long LL163, u9], [], MM165, J)) (fl_n 10 rfl) <|
       (by subst eLL163; subst eMM164; subst eMM165; subst eII166; exact (q1 h1 h4))) (fun h4 =>
       fl_td (s' := (30, [.ref 81, .int i1, .int i2, .long (l3 + 0), .null, .long (l5 + LL163), .null, .int (i7 + 1), .long LL163, u9], [], MM165, J)) (fl_n 9 rfl) <|
       (by subst eLL163; subst eMM164; subst eMM165; subst eII166; exact (q2 h1 h4)))))))) (fun h1 =>
  (q3 h1))
theorem lk_184_30 (i1 i2 : Int32) (l3 l5 : Int64) (M : fl_M) (m : Nat) : ((1 : Int32) <<< ((((lq_184_30 i1 i2 l3 l5 M m).2.2) 81 4) &&& 31)) = ((1 : Int32) <<< ((M 81 4) &&& 31)) := by
  induction m with
  | zero => rfl
  | succ m ih =>
    rw [← ih]
    rw [lqs_184_30]
    generalize lq_184_30 i1 i2 l3 l5 M m = q
    unfold ls_184_30
    (repeat' split) <;> first | with_reducible rfl | (simp [fl_u, fw_150_5, fw_150_130, fw_150, fw_149, fw_156, fw_160, fw_161, fw_166, fw_171]; done) | rfl
theorem lp_184_30 {r : fl_Q} (i1 i2 : Int32) (l3 l5 : Int64) (u8 u9 : Value) (M : fl_M) (J : fl_J) (hx : ∀ w7 w8 : Value, fl_dn fB184 (107, [.ref 81, .int i1, .int i2, .long ((lr_184_30 i1 i2 l3 l5 M).1), .null, .long ((lr_184_30 i1 i2 l3 l5 M).2.1), .null, w7, w8, u9], [], ((lr_184_30 i1 i2 l3 l5 M).2.2), J) r) : fl_dn fB184 (30, [.ref 81, .int i1, .int i2, .long l3, .null, .long l5, .null, .int 0, u8, u9], [], M, J) r := by
  have hb := fi_bd ((1 : Int32) <<< ((M 81 4) &&& 31))
  have hB := fun m => lk_184_30 i1 i2 l3 l5 M m
  have key : ∀ (n m : Nat) (w8 : Value), m + n = (((1 : Int32) <<< ((M 81 4) &&& 31))).toNatClampNeg → fl_dn fB184 (30, [.ref 81, .int i1, .int i2, .long ((lq_184_30 i1 i2 l3 l5 M m).1), .null, .long ((lq_184_30 i1 i2 l3 l5 M m).2.1), .null, .int (Int32.ofNat m), w8, u9], [], ((lq_184_30 i1 i2 l3 l5 M m).2.2), J) r := by
    intro n
    induction n with
    | zero =>
      intro m w8 hm
      have hm : m = (((1 : Int32) <<< ((M 81 4) &&& 31))).toNatClampNeg := by omega
      have hn : ¬ ((Int32.ofNat m) < ((1 : Int32) <<< ((((lq_184_30 i1 i2 l3 l5 M m).2.2) 81 4) &&& 31))) := fun z => by rw [hB m] at z; have z := (fi_lt (by omega)).mp z; omega
      exact ts_184_30 i1 i2 (Int32.ofNat m) ((lq_184_30 i1 i2 l3 l5 M m).1) ((lq_184_30 i1 i2 l3 l5 M m).2.1) w8 u9 ((lq_184_30 i1 i2 l3 l5 M m).2.2) J (fun h1 h4 => absurd h1 hn) (fun h1 h4 => absurd h1 hn) (fun h1 => (by have e : lr_184_30 i1 i2 l3 l5 M = lq_184_30 i1 i2 l3 l5 M m := (by show lq_184_30 i1 i2 l3 l5 M ((((1 : Int32) <<< ((M 81 4) &&& 31))).toNatClampNeg) = _; rw [← hm]); rw [e] at hx; exact hx _ _))
    | succ n ih =>
      intro m w8 hm
      have hp : (Int32.ofNat m) < ((1 : Int32) <<< ((((lq_184_30 i1 i2 l3 l5 M m).2.2) 81 4) &&& 31)) := by rw [hB m]; exact (fi_lt (by omega)).mpr (by omega)
      refine ts_184_30 i1 i2 (Int32.ofNat m) ((lq_184_30 i1 i2 l3 l5 M m).1) ((lq_184_30 i1 i2 l3 l5 M m).2.1) w8 u9 ((lq_184_30 i1 i2 l3 l5 M m).2.2) J (fun h1 h4 => ?_) (fun h1 h4 => ?_) (fun h1 => absurd hp h1)
      · have e : lq_184_30 i1 i2 l3 l5 M (m + 1) = ((((lq_184_30 i1 i2 l3 l5 M m).1) + (lr_185_5 (Int32.ofNat m) i2 1 ((lq_184_30 i1 i2 l3 l5 M m).2.2))), (((lq_184_30 i1 i2 l3 l5 M m).2.1) + (lr_185_5 (Int32.ofNat m) i2 1 ((lq_184_30 i1 i2 l3 l5 M m).2.2))), (m_150 3776 (Int32.ofNat m) (lr_160_2 ((lq_184_30 i1 i2 l3 l5 M m).2.2)))) := by
          rw [lqs_184_30]
          unfold ls_184_30
          simp only [if_pos h4]
        have q := ih (m + 1) (.long (lr_185_5 (Int32.ofNat m) i2 1 ((lq_184_30 i1 i2 l3 l5 M m).2.2))) (by omega)
        rw [e] at q
        first | (rw [fi_s]; exact q) | (rw [← fi_s] at q; exact q) | (simp only [fi_s] at q ⊢; exact q)
      · have e : lq_184_30 i1 i2 l3 l5 M (m + 1) = ((((lq_184_30 i1 i2 l3 l5 M m).1) + 0), (((lq_184_30 i1 i2 l3 l5 M m).2.1) + (lr_185_5 (Int32.ofNat m) i2 1 ((lq_184_30 i1 i2 l3 l5 M m).2.2))), (m_150 3776 (Int32.ofNat m) (lr_160_2 ((lq_184_30 i1 i2 l3 l5 M m).2.2)))) := by
          rw [lqs_184_30]
          unfold ls_184_30
          simp only [if_neg h4]
        have q := ih (m + 1) (.long (lr_185_5 (Int32.ofNat m) i2 1 ((lq_184_30 i1 i2 l3 l5 M m).2.2))) (by omega)
        rw [e] at q
        first | (rw [fi_s]; exact q) | (rw [← fi_s] at q; exact q) | (simp only [fi_s] at q ⊢; exact q)
  exact key ((((1 : Int32) <<< ((M 81 4) &&& 31))).toNatClampNeg) 0 u8 (Nat.zero_add _)
def v_184 (l p : Int32) (M : fl_M) : Int32 := (if (¬ (l < 0)) ∧ (¬ ((M 81 1) - 1 < l)) then (if (¬ (p < 0)) ∧ (¬ (12 < p)) then 1 else (-1)) else (-1))
def m_184 (l p : Int32) (M : fl_M) : fl_M := (if (¬ (l < 0)) ∧ (¬ ((M 81 1) - 1 < l)) then (if (¬ (p < 0)) ∧ (¬ (12 < p)) then ((lr_184_30 l p 0 0 M).2.2) else M) else M)
def j_184 (l p : Int32) (M : fl_M) (J : fl_J) : fl_J := (if (¬ (l < 0)) ∧ (¬ ((M 81 1) - 1 < l)) then (if (¬ (p < 0)) ∧ (¬ (12 < p)) then (fl_w (fl_w J 81 12 (((lr_184_30 l p 0 0 M).1) / (eg ((lr_184_30 l p 0 0 M).1) ((lr_184_30 l p 0 0 M).2.1)))) 81 13 (((lr_184_30 l p 0 0 M).2.1) / (eg ((lr_184_30 l p 0 0 M).1) ((lr_184_30 l p 0 0 M).2.1)))) else J) else J)
set_option maxRecDepth 8000 in
theorem cc_184 (M : fl_M) (J : fl_J) (l p : Int32) (g1 : (¬ (p < 0)) ∧ (¬ (12 < p)) → 0 ≤ ((lr_184_30 l p 0 0 M).1).toInt) (g2 : (¬ (p < 0)) ∧ (¬ (12 < p)) → 0 ≤ ((lr_184_30 l p 0 0 M).2.1).toInt) : fl_C 184 [.ref 81, .int l, .int p] M J (some (.int (v_184 l p M)), (m_184 l p M), (j_184 l p M J)) :=
 fl_Co (B := fB184) rfl rfl <|
 fl_td (s' := (2, [.ref 81, .int l, .int p, .null, .null, .null, .null, .null, .null, .null], [.int l, .ref 81], M, J)) (fl_n 2 rfl) <|
 fl_td (s' := (5, [.ref 81, .int l, .int p, .null, .null, .null, .null, .null, .null, .null], [.int (if (¬ (l < 0)) ∧ (¬ ((M 81 1) - 1 < l)) then 1 else 0)], M, J)) (fl_cv (o := some (.int (if (¬ (l < 0)) ∧ (¬ ((M 81 1) - 1 < l)) then 1 else 0))) rfl rfl rfl rfl (cc_131 M J l) rfl) <|
 fl_dnot (fl_if (t := 20) rfl rfl) fl_b0 (fun h1 =>
  fl_td (s' := (14, [.ref 81, .int l, .int p, .null, .null, .null, .null, .null, .null, .null], [.long 12, .long 0, .long p.toInt64], M, J)) (fl_n 4 rfl) <|
  fl_td (s' := (17, [.ref 81, .int l, .int p, .null, .null, .null, .null, .null, .null, .null], [.int (if (¬ (p < 0)) ∧ (¬ (12 < p)) then 1 else 0)], M, J)) (fl_cs (o := some (.int (if (¬ (p < 0)) ∧ (¬ (12 < p)) then 1 else 0))) rfl rfl rfl (cc_105i M J p 0 12) rfl) <|
  fl_dtwo (fl_if (t := 22) rfl rfl) fl_b1 (fun h2 =>
   fl_td (s' := (30, [.ref 81, .int l, .int p, .long 0, .null, .long 0, .null, .int 0, .null, .null], [], M, J)) (fl_n 6 rfl) <|
   lp_184_30 l p 0 0 .null .null M J (fun u167 u168 =>
    fx_gen (p := fun (MM169 : fl_M) => fl_dn fB184 (107, [.ref 81, .int l, .int p, .long ((lr_184_30 l p 0 0 M).1), .null, .long ((lr_184_30 l p 0 0 M).2.1), .null, u167, u168, .null], [], MM169, J) (some (.int (v_184 l p M)), (m_184 l p M), (j_184 l p M J))) ((lr_184_30 l p 0 0 M).2.2) (fun MM169 eMM169 =>
     fx_gen (p := fun (LL170 : Int64) => fl_dn fB184 (107, [.ref 81, .int l, .int p, .long LL170, .null, .long ((lr_184_30 l p 0 0 M).2.1), .null, u167, u168, .null], [], MM169, J) (some (.int (v_184 l p M)), (m_184 l p M), (j_184 l p M J))) ((lr_184_30 l p 0 0 M).1) (fun LL170 eLL170 =>
      fx_gen (p := fun (LL171 : Int64) => fl_dn fB184 (107, [.ref 81, .int l, .int p, .long LL170, .null, .long LL171, .null, u167, u168, .null], [], MM169, J) (some (.int (v_184 l p M)), (m_184 l p M), (j_184 l p M J))) ((lr_184_30 l p 0 0 M).2.1) (fun LL171 eLL171 =>
       fl_td (s' := (111, [.ref 81, .int l, .int p, .long LL170, .null, .long LL171, .null, u167, u168, .null], [.long LL171, .long LL170, .ref 81], MM169, J)) (fl_n 3 rfl) <|
       fl_td (s' := (114, [.ref 81, .int l, .int p, .long LL170, .null, .long LL171, .null, u167, u168, .null], [], MM169, (fl_w (fl_w J 81 12 (LL170 / (eg LL170 LL171))) 81 13 (LL171 / (eg LL170 LL171))))) (fl_cv (o := none) rfl rfl rfl rfl (cc_186 MM169 J LL170 LL171 (by first | exact g1 (by assumption) | (subst_vars; exact g1 (by assumption))) (by first | exact g2 (by assumption) | (subst_vars; exact g2 (by assumption)))) rfl) <|
       fl_td (s' := (115, [.ref 81, .int l, .int p, .long LL170, .null, .long LL171, .null, u167, u168, .null], [.int 1], MM169, (fl_w (fl_w J 81 12 (LL170 / (eg LL170 LL171))) 81 13 (LL171 / (eg LL170 LL171))))) (fl_n 1 rfl) <|
       fl_rt rfl (fun _ => rfl) (by subst eMM169; subst eLL170; subst eLL171; unfold v_184 m_184 j_184; first | (simp only [if_pos h1, if_pos h2]; done) | rfl)))))) (fun h2 =>
   fl_td (s' := (21, [.ref 81, .int l, .int p, .null, .null, .null, .null, .null, .null, .null], [.int (-1)], M, J)) (fl_n 1 rfl) <|
   fl_rt rfl (fun _ => rfl) (by unfold v_184 m_184 j_184; first | (simp only [if_pos h1, if_neg h2]; done) | rfl))) (fun h1 =>
  fl_td (s' := (21, [.ref 81, .int l, .int p, .null, .null, .null, .null, .null, .null, .null], [.int (-1)], M, J)) (fl_n 1 rfl) <|
  fl_rt rfl (fun _ => rfl) (by unfold v_184 m_184 j_184; first | (simp only [if_neg h1]; done) | rfl))
def fB187 : sm_P := (fun pc => sm_ch sm_t187 pc, sm_Kn 3 9 none, fun x => sm_lk sm_ca3 x, some .int)
-- MiceRegistersModel.mid 32
def ls_187_32 (i1 : Int32) (m : Nat) (q : (Int64 × Int64 × fl_M)) : (Int64 × Int64 × fl_M) := ((q.1 + ((lr_185_5 (Int32.ofNat m) i1 1 q.2.2) * (lr_168_4 3776 0 (m_150 3776 (Int32.ofNat m) (lr_160_2 q.2.2))).toInt64)), (q.2.1 + (lr_185_5 (Int32.ofNat m) i1 1 q.2.2)), (m_150 3776 (Int32.ofNat m) (lr_160_2 q.2.2)))
def lq_187_32 (i1 : Int32) (l2 l4 : Int64) (M : fl_M) (m : Nat) : (Int64 × Int64 × fl_M) := fx_it (ls_187_32 i1) m (l2, l4, M)
theorem lqs_187_32 (i1 : Int32) (l2 l4 : Int64) (M : fl_M) (m : Nat) : lq_187_32 i1 l2 l4 M (m + 1) = (ls_187_32 i1) m (lq_187_32 i1 l2 l4 M m) := by
  unfold lq_187_32
  exact fx_it_s _ _ _
def lr_187_32 (i1 : Int32) (l2 l4 : Int64) (M : fl_M) : (Int64 × Int64 × fl_M) := (lq_187_32 i1 l2 l4 M ((((1 : Int32) <<< ((M 81 4) &&& 31))).toNatClampNeg))
set_option maxRecDepth 8000 in
theorem ts_187_32 {r : fl_Q} (i1 i6 : Int32) (l2 l4 : Int64) (u7 u8 : Value) (M : fl_M) (J : fl_J) (q1 : (i6 < ((1 : Int32) <<< ((M 81 4) &&& 31))) → fl_dn fB187 (32, [.ref 81, .int i1, .long (l2 + ((lr_185_5 i6 i1 1 M) * (lr_168_4 3776 0 (m_150 3776 i6 (lr_160_2 M))).toInt64)), .null, .long (l4 + (lr_185_5 i6 i1 1 M)), .null, .int (i6 + 1), .long (lr_185_5 i6 i1 1 M), u8], [], (m_150 3776 i6 (lr_160_2 M)), J) r) (q2 : (¬ (i6 < ((1 : Int32) <<< ((M 81 4) &&& 31)))) → fl_dn fB187 (93, [.ref 81, .int i1, .long l2, .null, .long l4, .null, .int i6, u7, u8], [], M, J) r) : fl_dn fB187 (32, [.ref 81, .int i1, .long l2, .null, .long l4, .null, .int i6, u7, u8], [], M, J) r :=
 fl_td (s' := (40, [.ref 81, .int i1, .long l2, .null, .long l4, .null, .int i6, u7, u8], [.int ((1 : Int32) <<< ((M 81 4) &&& 31)), .int i6], M, J)) (fl_n 5 rfl) <|
 fl_dnot (fl_ic (t := 93) rfl rfl) fl_nlt (fun h1 =>
  fl_td (s' := (47, [.ref 81, .int i1, .long l2, .null, .long l4, .null, .int i6, u7, u8], [.int i1, .int i6, .ref 81], M, J)) (fl_n 3 rfl) <|
  fl_td (s' := (50, [.ref 81, .int i1, .long l2, .null, .long l4, .null, .int i6, u7, u8], [.long (lr_185_5 i6 i1 1 M)], M, J)) (fl_cv (o := some (.long (lr_185_5 i6 i1 1 M))) rfl rfl rfl rfl (cc_185 M J i6 i1) rfl) <|
  fx_gen (p := fun (LL172 : Int64) => fl_dn fB187 (50, [.ref 81, .int i1, .long l2, .null, .long l4, .null, .int i6, u7, u8], [.long LL172], M, J) r) (lr_185_5 i6 i1 1 M) (fun LL172 eLL172 =>
   fl_td (s' := (53, [.ref 81, .int i1, .long l2, .null, .long l4, .null, .int i6, .long LL172, u8], [.ref 81], M, J)) (fl_n 2 rfl) <|
   fl_td (s' := (56, [.ref 81, .int i1, .long l2, .null, .long l4, .null, .int i6, .long LL172, u8], [], (lr_160_2 M), J)) (fl_cv (o := none) rfl rfl rfl rfl (cc_160 M J) rfl) <|
   fx_gen (p := fun (MM173 : fl_M) => fl_dn fB187 (56, [.ref 81, .int i1, .long l2, .null, .long l4, .null, .int i6, .long LL172, u8], [], MM173, J) r) (lr_160_2 M) (fun MM173 eMM173 =>
    fl_td (s' := (62, [.ref 81, .int i1, .long l2, .null, .long l4, .null, .int i6, .long LL172, u8], [.int i6, .int 3776, .ref 81], MM173, J)) (fl_n 3 rfl) <|
    fl_td (s' := (65, [.ref 81, .int i1, .long l2, .null, .long l4, .null, .int i6, .long LL172, u8], [.int ((lr_150_5 3776 i6 0 MM173).1)], (m_150 3776 i6 MM173), J)) (fl_cv (o := some (.int ((lr_150_5 3776 i6 0 MM173).1))) rfl rfl rfl rfl (cc_150 MM173 J 3776 i6) rfl) <|
    fx_gen (p := fun (MM174 : fl_M) => fl_dn fB187 (65, [.ref 81, .int i1, .long l2, .null, .long l4, .null, .int i6, .long LL172, u8], [.int ((lr_150_5 3776 i6 0 MM173).1)], MM174, J) r) (m_150 3776 i6 MM173) (fun MM174 eMM174 =>
     fx_gen (p := fun (II175 : Int32) => fl_dn fB187 (65, [.ref 81, .int i1, .long l2, .null, .long l4, .null, .int i6, .long LL172, u8], [.int II175], MM174, J) r) ((lr_150_5 3776 i6 0 MM173).1) (fun II175 eII175 =>
      fl_td (s' := (73, [.ref 81, .int i1, .long l2, .null, .long l4, .null, .int i6, .long LL172, u8], [.int 3776, .ref 81, .long LL172, .long l2], MM174, J)) (fl_n 5 rfl) <|
      fl_td (s' := (76, [.ref 81, .int i1, .long l2, .null, .long l4, .null, .int i6, .long LL172, u8], [.int (lr_168_4 3776 0 MM174), .long LL172, .long l2], MM174, J)) (fl_cv (o := some (.int (lr_168_4 3776 0 MM174))) rfl rfl rfl rfl (cc_168 MM174 J 3776) rfl) <|
      fx_gen (p := fun (II176 : Int32) => fl_dn fB187 (76, [.ref 81, .int i1, .long l2, .null, .long l4, .null, .int i6, .long LL172, u8], [.int II176, .long LL172, .long l2], MM174, J) r) (lr_168_4 3776 0 MM174) (fun II176 eII176 =>
       fl_td (s' := (32, [.ref 81, .int i1, .long (l2 + (LL172 * II176.toInt64)), .null, .long (l4 + LL172), .null, .int (i6 + 1), .long LL172, u8], [], MM174, J)) (fl_n 10 rfl) <|
       (by subst eLL172; subst eMM173; subst eMM174; subst eII175; subst eII176; exact (q1 h1)))))))) (fun h1 =>
  (q2 h1))
theorem lk_187_32 (i1 : Int32) (l2 l4 : Int64) (M : fl_M) (m : Nat) : ((1 : Int32) <<< ((((lq_187_32 i1 l2 l4 M m).2.2) 81 4) &&& 31)) = ((1 : Int32) <<< ((M 81 4) &&& 31)) := by
  induction m with
  | zero => rfl
  | succ m ih =>
    rw [← ih]
    rw [lqs_187_32]
    generalize lq_187_32 i1 l2 l4 M m = q
    unfold ls_187_32
    (repeat' split) <;> first | with_reducible rfl | (simp [fl_u, fw_150_5, fw_150_130, fw_150, fw_149, fw_156, fw_160, fw_161, fw_166, fw_171]; done) | rfl
theorem lp_187_32 {r : fl_Q} (i1 : Int32) (l2 l4 : Int64) (u7 u8 : Value) (M : fl_M) (J : fl_J) (hx : ∀ w6 w7 : Value, fl_dn fB187 (93, [.ref 81, .int i1, .long ((lr_187_32 i1 l2 l4 M).1), .null, .long ((lr_187_32 i1 l2 l4 M).2.1), .null, w6, w7, u8], [], ((lr_187_32 i1 l2 l4 M).2.2), J) r) : fl_dn fB187 (32, [.ref 81, .int i1, .long l2, .null, .long l4, .null, .int 0, u7, u8], [], M, J) r := by
  have hb := fi_bd ((1 : Int32) <<< ((M 81 4) &&& 31))
  have hB := fun m => lk_187_32 i1 l2 l4 M m
  have key : ∀ (n m : Nat) (w7 : Value), m + n = (((1 : Int32) <<< ((M 81 4) &&& 31))).toNatClampNeg → fl_dn fB187 (32, [.ref 81, .int i1, .long ((lq_187_32 i1 l2 l4 M m).1), .null, .long ((lq_187_32 i1 l2 l4 M m).2.1), .null, .int (Int32.ofNat m), w7, u8], [], ((lq_187_32 i1 l2 l4 M m).2.2), J) r := by
    intro n
    induction n with
    | zero =>
      intro m w7 hm
      have hm : m = (((1 : Int32) <<< ((M 81 4) &&& 31))).toNatClampNeg := by omega
      have hn : ¬ ((Int32.ofNat m) < ((1 : Int32) <<< ((((lq_187_32 i1 l2 l4 M m).2.2) 81 4) &&& 31))) := fun z => by rw [hB m] at z; have z := (fi_lt (by omega)).mp z; omega
      exact ts_187_32 i1 (Int32.ofNat m) ((lq_187_32 i1 l2 l4 M m).1) ((lq_187_32 i1 l2 l4 M m).2.1) w7 u8 ((lq_187_32 i1 l2 l4 M m).2.2) J (fun h1 => absurd h1 hn) (fun h1 => (by have e : lr_187_32 i1 l2 l4 M = lq_187_32 i1 l2 l4 M m := (by show lq_187_32 i1 l2 l4 M ((((1 : Int32) <<< ((M 81 4) &&& 31))).toNatClampNeg) = _; rw [← hm]); rw [e] at hx; exact hx _ _))
    | succ n ih =>
      intro m w7 hm
      have hp : (Int32.ofNat m) < ((1 : Int32) <<< ((((lq_187_32 i1 l2 l4 M m).2.2) 81 4) &&& 31)) := by rw [hB m]; exact (fi_lt (by omega)).mpr (by omega)
      refine ts_187_32 i1 (Int32.ofNat m) ((lq_187_32 i1 l2 l4 M m).1) ((lq_187_32 i1 l2 l4 M m).2.1) w7 u8 ((lq_187_32 i1 l2 l4 M m).2.2) J (fun h1 => ?_) (fun h1 => absurd hp h1)
      · have e : lq_187_32 i1 l2 l4 M (m + 1) = ((((lq_187_32 i1 l2 l4 M m).1) + ((lr_185_5 (Int32.ofNat m) i1 1 ((lq_187_32 i1 l2 l4 M m).2.2)) * (lr_168_4 3776 0 (m_150 3776 (Int32.ofNat m) (lr_160_2 ((lq_187_32 i1 l2 l4 M m).2.2)))).toInt64)), (((lq_187_32 i1 l2 l4 M m).2.1) + (lr_185_5 (Int32.ofNat m) i1 1 ((lq_187_32 i1 l2 l4 M m).2.2))), (m_150 3776 (Int32.ofNat m) (lr_160_2 ((lq_187_32 i1 l2 l4 M m).2.2)))) := by
          rw [lqs_187_32]
          unfold ls_187_32
          rfl
        have q := ih (m + 1) (.long (lr_185_5 (Int32.ofNat m) i1 1 ((lq_187_32 i1 l2 l4 M m).2.2))) (by omega)
        rw [e] at q
        first | (rw [fi_s]; exact q) | (rw [← fi_s] at q; exact q) | (simp only [fi_s] at q ⊢; exact q)
  exact key ((((1 : Int32) <<< ((M 81 4) &&& 31))).toNatClampNeg) 0 u7 (Nat.zero_add _)
def v_187 (p : Int32) (M : fl_M) : Int32 := (if (¬ (p < 0)) ∧ (¬ (12 < p)) then (if (M 81 4) = 0 then (-4) else 1) else (-1))
def m_187 (p : Int32) (M : fl_M) : fl_M := (if (¬ (p < 0)) ∧ (¬ (12 < p)) then (if (M 81 4) = 0 then M else ((lr_187_32 p 0 0 M).2.2)) else M)
def j_187 (p : Int32) (M : fl_M) (J : fl_J) : fl_J := (if (¬ (p < 0)) ∧ (¬ (12 < p)) then (if (M 81 4) = 0 then J else (fl_w (fl_w J 81 12 (((lr_187_32 p 0 0 M).1) / (eg ((lr_187_32 p 0 0 M).1) ((lr_187_32 p 0 0 M).2.1)))) 81 13 (((lr_187_32 p 0 0 M).2.1) / (eg ((lr_187_32 p 0 0 M).1) ((lr_187_32 p 0 0 M).2.1))))) else J)
set_option maxRecDepth 8000 in
theorem cc_187 (M : fl_M) (J : fl_J) (p : Int32) (g1 : (¬ (p < 0)) ∧ (¬ (12 < p)) → 0 ≤ ((lr_187_32 p 0 0 M).1).toInt) (g2 : (¬ (p < 0)) ∧ (¬ (12 < p)) → 0 ≤ ((lr_187_32 p 0 0 M).2.1).toInt) : fl_C 187 [.ref 81, .int p] M J (some (.int (v_187 p M)), (m_187 p M), (j_187 p M J)) :=
 fl_Co (B := fB187) rfl rfl <|
 fl_td (s' := (6, [.ref 81, .int p, .null, .null, .null, .null, .null, .null, .null], [.long 12, .long 0, .long p.toInt64], M, J)) (fl_n 4 rfl) <|
 fl_td (s' := (9, [.ref 81, .int p, .null, .null, .null, .null, .null, .null, .null], [.int (if (¬ (p < 0)) ∧ (¬ (12 < p)) then 1 else 0)], M, J)) (fl_cs (o := some (.int (if (¬ (p < 0)) ∧ (¬ (12 < p)) then 1 else 0))) rfl rfl rfl (cc_105i M J p 0 12) rfl) <|
 fl_dtwo (fl_if (t := 14) rfl rfl) fl_b1 (fun h1 =>
  fl_td (s' := (18, [.ref 81, .int p, .null, .null, .null, .null, .null, .null, .null], [.int (M 81 4)], M, J)) (fl_n 2 rfl) <|
  fl_dnot (fl_if (t := 24) rfl rfl) fl_cF (fun h2 =>
   fl_td (s' := (23, [.ref 81, .int p, .null, .null, .null, .null, .null, .null, .null], [.int (-4)], M, J)) (fl_n 1 rfl) <|
   fl_rt rfl (fun _ => rfl) (by unfold v_187 m_187 j_187; first | (simp only [if_pos h1, if_pos h2]; done) | rfl)) (fun h2 =>
   fl_td (s' := (32, [.ref 81, .int p, .long 0, .null, .long 0, .null, .int 0, .null, .null], [], M, J)) (fl_n 6 rfl) <|
   lp_187_32 p 0 0 .null .null M J (fun u177 u178 =>
    fx_gen (p := fun (MM179 : fl_M) => fl_dn fB187 (93, [.ref 81, .int p, .long ((lr_187_32 p 0 0 M).1), .null, .long ((lr_187_32 p 0 0 M).2.1), .null, u177, u178, .null], [], MM179, J) (some (.int (v_187 p M)), (m_187 p M), (j_187 p M J))) ((lr_187_32 p 0 0 M).2.2) (fun MM179 eMM179 =>
     fx_gen (p := fun (LL180 : Int64) => fl_dn fB187 (93, [.ref 81, .int p, .long LL180, .null, .long ((lr_187_32 p 0 0 M).2.1), .null, u177, u178, .null], [], MM179, J) (some (.int (v_187 p M)), (m_187 p M), (j_187 p M J))) ((lr_187_32 p 0 0 M).1) (fun LL180 eLL180 =>
      fx_gen (p := fun (LL181 : Int64) => fl_dn fB187 (93, [.ref 81, .int p, .long LL180, .null, .long LL181, .null, u177, u178, .null], [], MM179, J) (some (.int (v_187 p M)), (m_187 p M), (j_187 p M J))) ((lr_187_32 p 0 0 M).2.1) (fun LL181 eLL181 =>
       fl_td (s' := (97, [.ref 81, .int p, .long LL180, .null, .long LL181, .null, u177, u178, .null], [.long LL181, .long LL180, .ref 81], MM179, J)) (fl_n 3 rfl) <|
       fl_td (s' := (100, [.ref 81, .int p, .long LL180, .null, .long LL181, .null, u177, u178, .null], [], MM179, (fl_w (fl_w J 81 12 (LL180 / (eg LL180 LL181))) 81 13 (LL181 / (eg LL180 LL181))))) (fl_cv (o := none) rfl rfl rfl rfl (cc_186 MM179 J LL180 LL181 (by first | exact g1 (by assumption) | (subst_vars; exact g1 (by assumption))) (by first | exact g2 (by assumption) | (subst_vars; exact g2 (by assumption)))) rfl) <|
       fl_td (s' := (101, [.ref 81, .int p, .long LL180, .null, .long LL181, .null, u177, u178, .null], [.int 1], MM179, (fl_w (fl_w J 81 12 (LL180 / (eg LL180 LL181))) 81 13 (LL181 / (eg LL180 LL181))))) (fl_n 1 rfl) <|
       fl_rt rfl (fun _ => rfl) (by subst eMM179; subst eLL180; subst eLL181; unfold v_187 m_187 j_187; first | (simp only [if_pos h1, if_neg h2]; done) | rfl))))))) (fun h1 =>
  fl_td (s' := (13, [.ref 81, .int p, .null, .null, .null, .null, .null, .null, .null], [.int (-1)], M, J)) (fl_n 1 rfl) <|
  fl_rt rfl (fun _ => rfl) (by unfold v_187 m_187 j_187; first | (simp only [if_neg h1]; done) | rfl))
theorem fl_qeq {x y : Int32} : sm_cmp .eq x y = true ↔ x = y := decide_eq_true_iff
theorem fl_qne {x y : Int32} : sm_cmp .ne x y = true ↔ ¬ x = y := decide_eq_true_iff
theorem fl_qlt {x y : Int32} : sm_cmp .lt x y = true ↔ x < y := decide_eq_true_iff
theorem fl_qge {x y : Int32} : sm_cmp .ge x y = true ↔ ¬ x < y := fl_nlt
theorem fl_qgt {x y : Int32} : sm_cmp .gt x y = true ↔ y < x := decide_eq_true_iff
theorem fl_qle {x y : Int32} : sm_cmp .le x y = true ↔ ¬ y < x := fl_nle
def fB180 : sm_P := (fun pc => sm_ch sm_t180 pc, sm_Kn 3 7 none, fun x => sm_lk sm_ca3 x, some .int)
set_option maxRecDepth 30000 in
theorem ts_180_66 {r : fl_Q} (a b n tt tu : Int32) (u6 : Value) (M : fl_M) (J : fl_J) (q1 : (0 < tt) → (tu < 0) → (some (.int 1), (fl_u M 81 11 (M 97 4)), J) = r) (q2 : (0 < tt) → (¬ (tu < 0)) → ((M 81 1) < (M 96 tu.toNatClampNeg)) → ((tu + (-1)) < 0) → fl_dn fB180 (66, [.ref 81, .int a, .int b, .int n, .int tt, .int (tu + (-1)), .int (M 97 tu.toNatClampNeg)], [], (fl_u M 97 4 (M 97 tu.toNatClampNeg)), J) r) (q3 : (0 < tt) → (¬ (tu < 0)) → ((M 81 1) < (M 96 tu.toNatClampNeg)) → (¬ ((tu + (-1)) < 0)) → fl_dn fB180 (66, [.ref 81, .int a, .int b, .int n, .int tt, .int (tu + (-1)), .int (M 97 tu.toNatClampNeg)], [], (fl_u (fl_u M 97 ((tu + (-1)).toNatClampNeg) (v_183 (tu + (-1)) (M 97 ((tu + (-1)).toNatClampNeg)) (M 97 tu.toNatClampNeg))) 96 ((tu + (-1)).toNatClampNeg) ((M 96 ((tu + (-1)).toNatClampNeg)) + 1)), J) r) (q4 : (0 < tt) → (¬ (tu < 0)) → (¬ ((M 81 1) < (M 96 tu.toNatClampNeg))) → (tu = (tt - 1)) → fl_dn fB180 (66, [.ref 81, .int a, .int b, .int n, .int tt, .int tu, u6], [], (fl_u (fl_u (lr_161_2 1 (lr_181_7 tt (lr_160_2 M))) 97 tu.toNatClampNeg (v_183 tu (M 97 tu.toNatClampNeg) (v_181 a b tt M))) 96 tu.toNatClampNeg (((lr_161_2 1 (lr_181_7 tt (lr_160_2 M))) 96 tu.toNatClampNeg) + 1)), J) r) (q5 : (0 < tt) → (¬ (tu < 0)) → (¬ ((M 81 1) < (M 96 tu.toNatClampNeg))) → (¬ (tu = (tt - 1))) → fl_dn fB180 (66, [.ref 81, .int a, .int b, .int n, .int tt, .int (tu + 1), u6], [], (m_182 (tu + 1) M), J) r) (q6 : (¬ (0 < tt)) → (some (.int 1), (fl_u M 81 11 (M 97 4)), J) = r) : fl_dn fB180 (66, [.ref 81, .int a, .int b, .int n, .int tt, .int tu, u6], [], M, J) r :=
 fl_td (s' := (68, [.ref 81, .int a, .int b, .int n, .int tt, .int tu, u6], [.int tt], M, J)) (fl_n 1 rfl) <|
 fl_dnot (fl_if (t := 215) rfl rfl) fl_qle (fun h1 =>
  fl_td (s' := (73, [.ref 81, .int a, .int b, .int n, .int tt, .int tu, u6], [.int tu], M, J)) (fl_n 1 rfl) <|
  fl_dtwo (fl_if (t := 215) rfl rfl) fl_qlt (fun h2 =>
   fl_td (s' := (226, [.ref 81, .int a, .int b, .int n, .int tt, .int tu, u6], [.int 1], (fl_u M 81 11 (M 97 4)), J)) (fl_n 7 rfl) <|
   fl_rt rfl (fun _ => rfl) (q1 h1 h2)) (fun h2 =>
   fl_td (s' := (87, [.ref 81, .int a, .int b, .int n, .int tt, .int tu, u6], [.int (M 81 1), .int (M 96 tu.toNatClampNeg)], M, J)) (fl_n 6 rfl) <|
   fl_dnot (fl_ic (t := 153) rfl rfl) fl_qle (fun h3 =>
    fl_td (s' := (104, [.ref 81, .int a, .int b, .int n, .int tt, .int (tu + (-1)), .int (M 97 tu.toNatClampNeg)], [.int (tu + (-1))], M, J)) (fl_n 7 rfl) <|
    fl_dtwo (fl_if (t := 142) rfl rfl) fl_qlt (fun h4 =>
     fl_td (s' := (66, [.ref 81, .int a, .int b, .int n, .int tt, .int (tu + (-1)), .int (M 97 tu.toNatClampNeg)], [], (fl_u M 97 4 (M 97 tu.toNatClampNeg)), J)) (fl_n 6 rfl) <|
     (q2 h1 h2 h3 h4)) (fun h4 =>
     fl_td (s' := (124, [.ref 81, .int a, .int b, .int n, .int tt, .int (tu + (-1)), .int (M 97 tu.toNatClampNeg)], [.int (M 97 tu.toNatClampNeg), .int (M 97 ((tu + (-1)).toNatClampNeg)), .int (tu + (-1)), .int (tu + (-1)), .ref 97], M, J)) (fl_n 9 rfl) <|
     fl_td (s' := (127, [.ref 81, .int a, .int b, .int n, .int tt, .int (tu + (-1)), .int (M 97 tu.toNatClampNeg)], [.int (v_183 (tu + (-1)) (M 97 ((tu + (-1)).toNatClampNeg)) (M 97 tu.toNatClampNeg)), .int (tu + (-1)), .ref 97], M, J)) (fl_cs (o := some (.int (v_183 (tu + (-1)) (M 97 ((tu + (-1)).toNatClampNeg)) (M 97 tu.toNatClampNeg)))) rfl rfl rfl (cc_183 M J (tu + (-1)) (M 97 ((tu + (-1)).toNatClampNeg)) (M 97 tu.toNatClampNeg)) rfl) <|
     fl_td (s' := (66, [.ref 81, .int a, .int b, .int n, .int tt, .int (tu + (-1)), .int (M 97 tu.toNatClampNeg)], [], (fl_u (fl_u M 97 ((tu + (-1)).toNatClampNeg) (v_183 (tu + (-1)) (M 97 ((tu + (-1)).toNatClampNeg)) (M 97 tu.toNatClampNeg))) 96 ((tu + (-1)).toNatClampNeg) ((M 96 ((tu + (-1)).toNatClampNeg)) + 1)), J)) (fl_n 11 rfl) <|
     (q3 h1 h2 h3 h4))) (fun h3 =>
    fl_td (s' := (159, [.ref 81, .int a, .int b, .int n, .int tt, .int tu, u6], [.int (tt - 1), .int tu], M, J)) (fl_n 4 rfl) <|
    fl_dnot (fl_ic (t := 203) rfl rfl) fl_qne (fun h5 =>
     fl_td (s' := (182, [.ref 81, .int a, .int b, .int n, .int tt, .int tu, u6], [.int tt, .int b, .int a, .ref 81, .int (M 97 tu.toNatClampNeg), .int tu, .int tu, .ref 97], M, J)) (fl_n 12 rfl) <|
     fl_td (s' := (185, [.ref 81, .int a, .int b, .int n, .int tt, .int tu, u6], [.int (v_181 a b tt M), .int (M 97 tu.toNatClampNeg), .int tu, .int tu, .ref 97], (lr_161_2 1 (lr_181_7 tt (lr_160_2 M))), J)) (fl_cv (o := some (.int (v_181 a b tt M))) rfl rfl rfl rfl (cc_181 M J a b tt) rfl) <|
     fx_gen (p := fun (MM182 : fl_M) => fl_dn fB180 (185, [.ref 81, .int a, .int b, .int n, .int tt, .int tu, u6], [.int (v_181 a b tt M), .int (M 97 tu.toNatClampNeg), .int tu, .int tu, .ref 97], MM182, J) r) (lr_161_2 1 (lr_181_7 tt (lr_160_2 M))) (fun MM182 eMM182 =>
      fl_td (s' := (188, [.ref 81, .int a, .int b, .int n, .int tt, .int tu, u6], [.int (v_183 tu (M 97 tu.toNatClampNeg) (v_181 a b tt M)), .int tu, .ref 97], MM182, J)) (fl_cs (o := some (.int (v_183 tu (M 97 tu.toNatClampNeg) (v_181 a b tt M)))) rfl rfl rfl (cc_183 MM182 J tu (M 97 tu.toNatClampNeg) (v_181 a b tt M)) rfl) <|
      fl_td (s' := (66, [.ref 81, .int a, .int b, .int n, .int tt, .int tu, u6], [], (fl_u (fl_u MM182 97 tu.toNatClampNeg (v_183 tu (M 97 tu.toNatClampNeg) (v_181 a b tt M))) 96 tu.toNatClampNeg ((MM182 96 tu.toNatClampNeg) + 1)), J)) (fl_n 10 rfl) <|
      (by subst eMM182; exact (q4 h1 h2 h3 h5)))) (fun h5 =>
     fl_td (s' := (209, [.ref 81, .int a, .int b, .int n, .int tt, .int (tu + 1), u6], [.int (tu + 1), .ref 81], M, J)) (fl_n 3 rfl) <|
     fl_td (s' := (212, [.ref 81, .int a, .int b, .int n, .int tt, .int (tu + 1), u6], [], (m_182 (tu + 1) M), J)) (fl_cv (o := none) rfl rfl rfl rfl (cc_182 M J (tu + 1)) rfl) <|
     fx_gen (p := fun (MM183 : fl_M) => fl_dn fB180 (212, [.ref 81, .int a, .int b, .int n, .int tt, .int (tu + 1), u6], [], MM183, J) r) (m_182 (tu + 1) M) (fun MM183 eMM183 =>
      fl_td (s' := (66, [.ref 81, .int a, .int b, .int n, .int tt, .int (tu + 1), u6], [], MM183, J)) (fl_n 1 rfl) <|
      (by subst eMM183; exact (q5 h1 h2 h3 h5))))))) (fun h1 =>
  fl_td (s' := (226, [.ref 81, .int a, .int b, .int n, .int tt, .int tu, u6], [.int 1], (fl_u M 81 11 (M 97 4)), J)) (fl_n 7 rfl) <|
  fl_rt rfl (fun _ => rfl) (q6 h1))
def fB176 : sm_P := (fun pc => sm_ch sm_t176 pc, sm_Kn 3 6 none, fun x => sm_lk sm_ca3 x, some .int)
-- MiceRegistersModel.sets 30
def ls_176_30 (i1 i4 : Int32) (m : Nat) (q : (Int32 × fl_M)) : (Int32 × fl_M) := (if (lr_178_4 (i4 - Int32.ofNat m) 0 q.2) = i1 then ((q.1 + 1), (fl_u q.2 81 11 (i4 - Int32.ofNat m))) else ((q.1 + 0), (fl_u q.2 81 11 (q.2 81 11))))
def lq_176_30 (i1 i3 i4 : Int32) (M : fl_M) (m : Nat) : (Int32 × fl_M) := fx_it (ls_176_30 i1 i4) m (i3, M)
theorem lqs_176_30 (i1 i3 i4 : Int32) (M : fl_M) (m : Nat) : lq_176_30 i1 i3 i4 M (m + 1) = (ls_176_30 i1 i4) m (lq_176_30 i1 i3 i4 M m) := by
  unfold lq_176_30
  exact fx_it_s _ _ _
def lr_176_30 (i1 i3 i4 : Int32) (M : fl_M) : (Int32 × fl_M) := (lq_176_30 i1 i3 i4 M ((i4.toInt + 1).toNat))
set_option maxRecDepth 8000 in
theorem ts_176_30 {r : fl_Q} (i1 i2 i3 i4 : Int32) (u5 : Value) (M : fl_M) (J : fl_J) (q1 : (i4 < 0) → fl_dn fB176 (89, [.ref 81, .int i1, .int i2, .int i3, .int i4, u5], [], M, J) r) (q2 : (¬ (i4 < 0)) → ((lr_178_4 i4 0 M) = i1) → fl_dn fB176 (30, [.ref 81, .int i1, .int i2, .int (i3 + 1), .int (i4 + (-1)), .int 1], [], (fl_u M 81 11 i4), J) r) (q3 : (¬ (i4 < 0)) → (¬ ((lr_178_4 i4 0 M) = i1)) → fl_dn fB176 (30, [.ref 81, .int i1, .int i2, .int (i3 + 0), .int (i4 + (-1)), .int 0], [], (fl_u M 81 11 (M 81 11)), J) r) : fl_dn fB176 (30, [.ref 81, .int i1, .int i2, .int i3, .int i4, u5], [], M, J) r :=
 fl_td (s' := (32, [.ref 81, .int i1, .int i2, .int i3, .int i4, u5], [.int i4], M, J)) (fl_n 1 rfl) <|
 fl_dtwo (fl_if (t := 89) rfl rfl) fl_cT (fun h1 =>
  (q1 h1)) (fun h1 =>
  fl_td (s' := (38, [.ref 81, .int i1, .int i2, .int i3, .int i4, u5], [.int i4, .ref 81], M, J)) (fl_n 2 rfl) <|
  fl_td (s' := (41, [.ref 81, .int i1, .int i2, .int i3, .int i4, u5], [.int (lr_178_4 i4 0 M)], M, J)) (fl_cv (o := some (.int (lr_178_4 i4 0 M))) rfl rfl rfl rfl (cc_178 M J i4) rfl) <|
  fx_gen (p := fun (II186 : Int32) => fl_dn fB176 (41, [.ref 81, .int i1, .int i2, .int i3, .int i4, u5], [.int II186], M, J) r) (lr_178_4 i4 0 M) (fun II186 eII186 =>
   fl_td (s' := (42, [.ref 81, .int i1, .int i2, .int i3, .int i4, u5], [.int i1, .int II186], M, J)) (fl_n 1 rfl) <|
   fl_dnot (fl_ic (t := 49) rfl rfl) fl_cF (fun h2 =>
    fl_td (s' := (30, [.ref 81, .int i1, .int i2, .int (i3 + 1), .int (i4 + (-1)), .int 1], [], (fl_u M 81 11 i4), J)) (fl_n 18 rfl) <|
    (by subst eII186; exact (q2 h1 h2))) (fun h2 =>
    fl_td (s' := (30, [.ref 81, .int i1, .int i2, .int (i3 + 0), .int (i4 + (-1)), .int 0], [], (fl_u M 81 11 (M 81 11)), J)) (fl_n 16 rfl) <|
    (by subst eII186; exact (q3 h1 h2)))))
theorem lp_176_30 {r : fl_Q} (i1 i2 i3 i4 : Int32) (u5 : Value) (M : fl_M) (J : fl_J) (hi0 : -1 ≤ i4.toInt ∧ i4.toInt < 2147483647) (hx : ∀ w4 w5 : Value, fl_dn fB176 (89, [.ref 81, .int i1, .int i2, .int ((lr_176_30 i1 i3 i4 M).1), w4, w5], [], ((lr_176_30 i1 i3 i4 M).2), J) r) : fl_dn fB176 (30, [.ref 81, .int i1, .int i2, .int i3, .int i4, u5], [], M, J) r := by
  have key : ∀ (n m : Nat) (w5 : Value), m + n = (i4.toInt + 1).toNat → fl_dn fB176 (30, [.ref 81, .int i1, .int i2, .int ((lq_176_30 i1 i3 i4 M m).1), .int (i4 - Int32.ofNat m), w5], [], ((lq_176_30 i1 i3 i4 M m).2), J) r := by
    intro n
    induction n with
    | zero =>
      intro m w5 hm
      have hm : m = (i4.toInt + 1).toNat := by omega
      have hn : (i4 - Int32.ofNat m) < 0 := fi_dg (i := i4) (m := m) hi0 (by omega)
      exact ts_176_30 i1 i2 ((lq_176_30 i1 i3 i4 M m).1) (i4 - Int32.ofNat m) w5 ((lq_176_30 i1 i3 i4 M m).2) J (fun h1 => (by have e : lr_176_30 i1 i3 i4 M = lq_176_30 i1 i3 i4 M m := (by show lq_176_30 i1 i3 i4 M ((i4.toInt + 1).toNat) = _; rw [← hm]); rw [e] at hx; exact hx _ _)) (fun h1 h2 => absurd hn h1) (fun h1 h2 => absurd hn h1)
    | succ n ih =>
      intro m w5 hm
      have hp : ¬ ((i4 - Int32.ofNat m) < 0) := fun z => by have z := fi_dl (i := i4) (m := m) hi0 (by omega) z; omega
      refine ts_176_30 i1 i2 ((lq_176_30 i1 i3 i4 M m).1) (i4 - Int32.ofNat m) w5 ((lq_176_30 i1 i3 i4 M m).2) J (fun h1 => absurd h1 hp) (fun h1 h2 => ?_) (fun h1 h2 => ?_)
      · have e : lq_176_30 i1 i3 i4 M (m + 1) = ((((lq_176_30 i1 i3 i4 M m).1) + 1), (fl_u ((lq_176_30 i1 i3 i4 M m).2) 81 11 (i4 - Int32.ofNat m))) := by
          rw [lqs_176_30]
          unfold ls_176_30
          simp only [if_pos h2]
        have q := ih (m + 1) (.int 1) (by omega)
        rw [e] at q
        first | (rw [fi_dns]; exact q) | (rw [← fi_s] at q; exact q) | (simp only [fi_s] at q ⊢; exact q)
      · have e : lq_176_30 i1 i3 i4 M (m + 1) = ((((lq_176_30 i1 i3 i4 M m).1) + 0), (fl_u ((lq_176_30 i1 i3 i4 M m).2) 81 11 (((lq_176_30 i1 i3 i4 M m).2) 81 11))) := by
          rw [lqs_176_30]
          unfold ls_176_30
          simp only [if_neg h2]
        have q := ih (m + 1) (.int 0) (by omega)
        rw [e] at q
        first | (rw [fi_dns]; exact q) | (rw [← fi_s] at q; exact q) | (simp only [fi_s] at q ⊢; exact q)
  have q := key ((i4.toInt + 1).toNat) 0 u5 (Nat.zero_add _)
  rw [fi_dn0] at q
  exact q
def m_176 (v : Int32) (M : fl_M) : fl_M := (if (v_177 v M) = 0 then ((lr_176_30 v 0 (((1 : Int32) <<< ((M 81 1) &&& 31)) - 1) (fl_u M 81 11 (-9))).2) else M)
def j_176 (v : Int32) (M : fl_M) (J : fl_J) : fl_J := (if (v_177 v M) = 0 then (fl_w (fl_w J 81 12 ((lr_176_30 v 0 (((1 : Int32) <<< ((M 81 1) &&& 31)) - 1) (fl_u M 81 11 (-9))).1).toInt64) 81 13 1) else J)
set_option maxRecDepth 8000 in
theorem cc_176 (M : fl_M) (J : fl_J) (v : Int32) (h0 : -1 ≤ (((1 : Int32) <<< ((M 81 1) &&& 31)) - 1).toInt ∧ (((1 : Int32) <<< ((M 81 1) &&& 31)) - 1).toInt < 2147483647) : fl_C 176 [.ref 81, .int v] M J (some (.int (if (v_177 v M) = 0 then 1 else v_177 v M)), (m_176 v M), (j_176 v M J)) :=
 fl_Co (B := fB176) rfl rfl <|
 fl_td (s' := (2, [.ref 81, .int v, .null, .null, .null, .null], [.int v, .ref 81], M, J)) (fl_n 2 rfl) <|
 fl_td (s' := (5, [.ref 81, .int v, .null, .null, .null, .null], [.int (v_177 v M)], M, J)) (fl_cv (o := some (.int (v_177 v M))) rfl rfl rfl rfl (cc_177 M J v) rfl) <|
 fl_td (s' := (7, [.ref 81, .int v, .int (v_177 v M), .null, .null, .null], [.int (v_177 v M)], M, J)) (fl_n 2 rfl) <|
 fl_dtwo (fl_if (t := 12) rfl rfl) fl_cT (fun h1 =>
  fl_td (s' := (30, [.ref 81, .int v, .int (v_177 v M), .int 0, .int (((1 : Int32) <<< ((M 81 1) &&& 31)) - 1), .null], [], (fl_u M 81 11 (-9)), J)) (fl_n 12 rfl) <|
  lp_176_30 v (v_177 v M) 0 (((1 : Int32) <<< ((M 81 1) &&& 31)) - 1) .null (fl_u M 81 11 (-9)) J h0 (fun u187 u188 =>
   fx_gen (p := fun (MM189 : fl_M) => fl_dn fB176 (89, [.ref 81, .int v, .int (v_177 v M), .int ((lr_176_30 v 0 (((1 : Int32) <<< ((M 81 1) &&& 31)) - 1) (fl_u M 81 11 (-9))).1), u187, u188], [], MM189, J) (some (.int (if (v_177 v M) = 0 then 1 else v_177 v M)), (m_176 v M), (j_176 v M J))) ((lr_176_30 v 0 (((1 : Int32) <<< ((M 81 1) &&& 31)) - 1) (fl_u M 81 11 (-9))).2) (fun MM189 eMM189 =>
    fx_gen (p := fun (II190 : Int32) => fl_dn fB176 (89, [.ref 81, .int v, .int (v_177 v M), .int II190, u187, u188], [], MM189, J) (some (.int (if (v_177 v M) = 0 then 1 else v_177 v M)), (m_176 v M), (j_176 v M J))) ((lr_176_30 v 0 (((1 : Int32) <<< ((M 81 1) &&& 31)) - 1) (fl_u M 81 11 (-9))).1) (fun II190 eII190 =>
     fl_td (s' := (101, [.ref 81, .int v, .int (v_177 v M), .int II190, u187, u188], [.int 1], MM189, (fl_w (fl_w J 81 12 II190.toInt64) 81 13 1))) (fl_n 8 rfl) <|
     fl_rt rfl (fun _ => rfl) (by subst eMM189; subst eII190; unfold m_176 j_176; first | (simp only [if_pos h1]; done) | rfl))))) (fun h1 =>
  fl_td (s' := (11, [.ref 81, .int v, .int (v_177 v M), .null, .null, .null], [.int (v_177 v M)], M, J)) (fl_n 1 rfl) <|
  fl_rt rfl (fun _ => rfl) (by unfold m_176 j_176; first | (simp only [if_neg h1]; done) | rfl))
