def fB195 : sm_P := (fun pc => sm_ch sm_t195 pc, sm_Kn 3 4 none, fun x => sm_lk sm_ca3 x, some .int)
-- MiceRegistersModel.those 4
def ls_195_4 (i1 : Int32) (M : fl_M) (m : Nat) (q : Int32) : Int32 := (if ((M 85 (Int32.ofNat m).toNatClampNeg) = i1) ∨ (((i1 = 2) ∧ (((M 85 (Int32.ofNat m).toNatClampNeg) = 4) ∨ ((i1 = 3) ∧ ((M 85 (Int32.ofNat m).toNatClampNeg) = 5)))) ∨ ((¬ (i1 = 2)) ∧ ((i1 = 3) ∧ ((M 85 (Int32.ofNat m).toNatClampNeg) = 5)))) then (q + 1) else (q + 0))
def lq_195_4 (i1 i2 : Int32) (M : fl_M) (m : Nat) : Int32 := fx_it (ls_195_4 i1 M) m i2
theorem lqs_195_4 (i1 i2 : Int32) (M : fl_M) (m : Nat) : lq_195_4 i1 i2 M (m + 1) = (ls_195_4 i1 M) m (lq_195_4 i1 i2 M m) := by
  unfold lq_195_4
  exact fx_it_s _ _ _
def lr_195_4 (i1 i2 : Int32) (M : fl_M) : Int32 := (lq_195_4 i1 i2 M (((M 81 4)).toNatClampNeg))
set_option maxRecDepth 8000 in
theorem ts_195_4 {r : fl_Q} (i1 i2 i3 : Int32) (M : fl_M) (J : fl_J) (q1 : (i3 < (M 81 4)) → (((M 85 i3.toNatClampNeg) = i1) ∨ (((i1 = 2) ∧ (((M 85 i3.toNatClampNeg) = 4) ∨ ((i1 = 3) ∧ ((M 85 i3.toNatClampNeg) = 5)))) ∨ ((¬ (i1 = 2)) ∧ ((i1 = 3) ∧ ((M 85 i3.toNatClampNeg) = 5))))) → fl_dn fB195 (4, [.ref 81, .int i1, .int (i2 + 1), .int (i3 + 1)], [], M, J) r) (q2 : (i3 < (M 81 4)) → (¬ (((M 85 i3.toNatClampNeg) = i1) ∨ (((i1 = 2) ∧ (((M 85 i3.toNatClampNeg) = 4) ∨ ((i1 = 3) ∧ ((M 85 i3.toNatClampNeg) = 5)))) ∨ ((¬ (i1 = 2)) ∧ ((i1 = 3) ∧ ((M 85 i3.toNatClampNeg) = 5)))))) → fl_dn fB195 (4, [.ref 81, .int i1, .int (i2 + 0), .int (i3 + 1)], [], M, J) r) (q3 : (¬ (i3 < (M 81 4))) → fl_dn fB195 (35, [.ref 81, .int i1, .int i2, .int i3], [], M, J) r) : fl_dn fB195 (4, [.ref 81, .int i1, .int i2, .int i3], [], M, J) r :=
 fl_td (s' := (9, [.ref 81, .int i1, .int i2, .int i3], [.int (M 81 4), .int i3], M, J)) (fl_n 3 rfl) <|
 fl_dnot (fl_ic (t := 35) rfl rfl) fl_nlt (fun h1 =>
  fl_td (s' := (16, [.ref 81, .int i1, .int i2, .int i3], [.int i1, .int i3, .ref 81, .int i2], M, J)) (fl_n 4 rfl) <|
  fl_td (s' := (19, [.ref 81, .int i1, .int i2, .int i3], [.int (if ((M 85 i3.toNatClampNeg) = i1) ∨ (((i1 = 2) ∧ (((M 85 i3.toNatClampNeg) = 4) ∨ ((i1 = 3) ∧ ((M 85 i3.toNatClampNeg) = 5)))) ∨ ((¬ (i1 = 2)) ∧ ((i1 = 3) ∧ ((M 85 i3.toNatClampNeg) = 5)))) then 1 else 0), .int i2], M, J)) (fl_cv (o := some (.int (if ((M 85 i3.toNatClampNeg) = i1) ∨ (((i1 = 2) ∧ (((M 85 i3.toNatClampNeg) = 4) ∨ ((i1 = 3) ∧ ((M 85 i3.toNatClampNeg) = 5)))) ∨ ((¬ (i1 = 2)) ∧ ((i1 = 3) ∧ ((M 85 i3.toNatClampNeg) = 5)))) then 1 else 0))) rfl rfl rfl rfl (cc_144 M J i3 i1) rfl) <|
  fl_dnot (fl_if (t := 26) rfl rfl) fl_b0 (fun h2 =>
   fl_td (s' := (4, [.ref 81, .int i1, .int (i2 + 1), .int (i3 + 1)], [], M, J)) (fl_n 6 rfl) <|
   (q1 h1 h2)) (fun h2 =>
   fl_td (s' := (4, [.ref 81, .int i1, .int (i2 + 0), .int (i3 + 1)], [], M, J)) (fl_n 5 rfl) <|
   (q2 h1 h2))) (fun h1 =>
  (q3 h1))
theorem lp_195_4 {r : fl_Q} (i1 i2 : Int32) (M : fl_M) (J : fl_J) (hx : ∀ w3 : Value, fl_dn fB195 (35, [.ref 81, .int i1, .int (lr_195_4 i1 i2 M), w3], [], M, J) r) : fl_dn fB195 (4, [.ref 81, .int i1, .int i2, .int 0], [], M, J) r := by
  have hb := fi_bd (M 81 4)
  have key : ∀ (n m : Nat), m + n = ((M 81 4)).toNatClampNeg → fl_dn fB195 (4, [.ref 81, .int i1, .int (lq_195_4 i1 i2 M m), .int (Int32.ofNat m)], [], M, J) r := by
    intro n
    induction n with
    | zero =>
      intro m hm
      have hm : m = ((M 81 4)).toNatClampNeg := by omega
      have hn : ¬ ((Int32.ofNat m) < (M 81 4)) := fun z => by have z := (fi_lt (by omega)).mp z; omega
      exact ts_195_4 i1 (lq_195_4 i1 i2 M m) (Int32.ofNat m) M J (fun h1 h2 => absurd h1 hn) (fun h1 h2 => absurd h1 hn) (fun h1 => (by have e : lr_195_4 i1 i2 M = lq_195_4 i1 i2 M m := (by show lq_195_4 i1 i2 M (((M 81 4)).toNatClampNeg) = _; rw [← hm]); rw [e] at hx; exact hx _))
    | succ n ih =>
      intro m hm
      have hp : (Int32.ofNat m) < (M 81 4) := by exact (fi_lt (by omega)).mpr (by omega)
      refine ts_195_4 i1 (lq_195_4 i1 i2 M m) (Int32.ofNat m) M J (fun h1 h2 => ?_) (fun h1 h2 => ?_) (fun h1 => absurd hp h1)
      · have e : lq_195_4 i1 i2 M (m + 1) = ((lq_195_4 i1 i2 M m) + 1) := by
          rw [lqs_195_4]
          unfold ls_195_4
          simp only [if_pos h2]
        have q := ih (m + 1) (by omega)
        rw [e] at q
        first | (rw [fi_s]; exact q) | (rw [← fi_s] at q; exact q) | (simp only [fi_s] at q ⊢; exact q)
      · have e : lq_195_4 i1 i2 M (m + 1) = ((lq_195_4 i1 i2 M m) + 0) := by
          rw [lqs_195_4]
          unfold ls_195_4
          simp only [if_neg h2]
        have q := ih (m + 1) (by omega)
        rw [e] at q
        first | (rw [fi_s]; exact q) | (rw [← fi_s] at q; exact q) | (simp only [fi_s] at q ⊢; exact q)
  exact key (((M 81 4)).toNatClampNeg) 0 (Nat.zero_add _)
set_option maxRecDepth 8000 in
theorem cc_195 (M : fl_M) (J : fl_J) (kind : Int32) : fl_C 195 [.ref 81, .int kind] M J (some (.int (lr_195_4 kind 0 M)), M, J) :=
 fl_Co (B := fB195) rfl rfl <|
 fl_td (s' := (4, [.ref 81, .int kind, .int 0, .int 0], [], M, J)) (fl_n 4 rfl) <|
 lp_195_4 kind 0 M J (fun u135 =>
  fx_gen (p := fun (II136 : Int32) => fl_dn fB195 (35, [.ref 81, .int kind, .int II136, u135], [], M, J) (some (.int (lr_195_4 kind 0 M)), M, J)) (lr_195_4 kind 0 M) (fun II136 eII136 =>
   fl_td (s' := (36, [.ref 81, .int kind, .int II136, u135], [.int II136], M, J)) (fl_n 1 rfl) <|
   fl_rt rfl (fun _ => rfl) (by subst eII136; rfl)))
def fB196 : sm_P := (fun pc => sm_ch sm_t196 pc, sm_Kn 3 4 none, fun x => sm_lk sm_ca3 x, some .int)
-- MiceRegistersModel.thereOf 4
def ls_196_4 (i1 : Int32) (M : fl_M) (m : Nat) (q : Int32) : Int32 := (if i1 = 11 then (if (M 87 (Int32.ofNat m).toNatClampNeg) < 0 then (q + 0) else (q + 1)) else (if i1 = 12 then (if (Int32.ofNat m) < 4 then (if (M 89 (Int32.ofNat m).toNatClampNeg) < 0 then (q + 0) else (q + 1)) else (q + 0)) else (if (Int32.ofNat m) < 3 then (if (M 82 (((944 * (1 + (Int32.ofNat m))) + 0).toNatClampNeg)) < 0 then (q + 0) else (q + 1)) else (q + 0))))
def lq_196_4 (i1 i2 : Int32) (M : fl_M) (m : Nat) : Int32 := fx_it (ls_196_4 i1 M) m i2
theorem lqs_196_4 (i1 i2 : Int32) (M : fl_M) (m : Nat) : lq_196_4 i1 i2 M (m + 1) = (ls_196_4 i1 M) m (lq_196_4 i1 i2 M m) := by
  unfold lq_196_4
  exact fx_it_s _ _ _
def lr_196_4 (i1 i2 : Int32) (M : fl_M) : Int32 := (lq_196_4 i1 i2 M (6))
set_option maxRecDepth 8000 in
theorem ts_196_4 {r : fl_Q} (i1 i2 i3 : Int32) (M : fl_M) (J : fl_J) (q1 : (i3 < 6) → (i1 = 11) → ((M 87 i3.toNatClampNeg) < 0) → fl_dn fB196 (4, [.ref 81, .int i1, .int (i2 + 0), .int (i3 + 1)], [], M, J) r) (q2 : (i3 < 6) → (i1 = 11) → (¬ ((M 87 i3.toNatClampNeg) < 0)) → fl_dn fB196 (4, [.ref 81, .int i1, .int (i2 + 1), .int (i3 + 1)], [], M, J) r) (q3 : (i3 < 6) → (¬ (i1 = 11)) → (i1 = 12) → (i3 < 4) → ((M 89 i3.toNatClampNeg) < 0) → fl_dn fB196 (4, [.ref 81, .int i1, .int (i2 + 0), .int (i3 + 1)], [], M, J) r) (q4 : (i3 < 6) → (¬ (i1 = 11)) → (i1 = 12) → (i3 < 4) → (¬ ((M 89 i3.toNatClampNeg) < 0)) → fl_dn fB196 (4, [.ref 81, .int i1, .int (i2 + 1), .int (i3 + 1)], [], M, J) r) (q5 : (i3 < 6) → (¬ (i1 = 11)) → (i1 = 12) → (¬ (i3 < 4)) → fl_dn fB196 (4, [.ref 81, .int i1, .int (i2 + 0), .int (i3 + 1)], [], M, J) r) (q6 : (i3 < 6) → (¬ (i1 = 11)) → (¬ (i1 = 12)) → (i3 < 3) → ((M 82 (((944 * (1 + i3)) + 0).toNatClampNeg)) < 0) → fl_dn fB196 (4, [.ref 81, .int i1, .int (i2 + 0), .int (i3 + 1)], [], M, J) r) (q7 : (i3 < 6) → (¬ (i1 = 11)) → (¬ (i1 = 12)) → (i3 < 3) → (¬ ((M 82 (((944 * (1 + i3)) + 0).toNatClampNeg)) < 0)) → fl_dn fB196 (4, [.ref 81, .int i1, .int (i2 + 1), .int (i3 + 1)], [], M, J) r) (q8 : (i3 < 6) → (¬ (i1 = 11)) → (¬ (i1 = 12)) → (¬ (i3 < 3)) → fl_dn fB196 (4, [.ref 81, .int i1, .int (i2 + 0), .int (i3 + 1)], [], M, J) r) (q9 : (¬ (i3 < 6)) → fl_dn fB196 (97, [.ref 81, .int i1, .int i2, .int i3], [], M, J) r) : fl_dn fB196 (4, [.ref 81, .int i1, .int i2, .int i3], [], M, J) r :=
 fl_td (s' := (7, [.ref 81, .int i1, .int i2, .int i3], [.int 6, .int i3], M, J)) (fl_n 2 rfl) <|
 fl_dnot (fl_ic (t := 97) rfl rfl) fl_nlt (fun h1 =>
  fl_td (s' := (14, [.ref 81, .int i1, .int i2, .int i3], [.int 11, .int i1, .int i2], M, J)) (fl_n 3 rfl) <|
  fl_dnot (fl_ic (t := 34) rfl rfl) fl_cF (fun h2 =>
   fl_td (s' := (23, [.ref 81, .int i1, .int i2, .int i3], [.int (M 87 i3.toNatClampNeg), .int i2], M, J)) (fl_n 4 rfl) <|
   fl_dnot (fl_if (t := 30) rfl rfl) fl_nlt (fun h3 =>
    fl_td (s' := (4, [.ref 81, .int i1, .int (i2 + 0), .int (i3 + 1)], [], M, J)) (fl_n 6 rfl) <|
    (q1 h1 h2 h3)) (fun h3 =>
    fl_td (s' := (4, [.ref 81, .int i1, .int (i2 + 1), .int (i3 + 1)], [], M, J)) (fl_n 6 rfl) <|
    (q2 h1 h2 h3))) (fun h2 =>
   fl_td (s' := (37, [.ref 81, .int i1, .int i2, .int i3], [.int 12, .int i1, .int i2], M, J)) (fl_n 2 rfl) <|
   fl_dnot (fl_ic (t := 62) rfl rfl) fl_cF (fun h4 =>
    fl_td (s' := (42, [.ref 81, .int i1, .int i2, .int i3], [.int 4, .int i3, .int i2], M, J)) (fl_n 2 rfl) <|
    fl_dnot (fl_ic (t := 58) rfl rfl) fl_nlt (fun h5 =>
     fl_td (s' := (51, [.ref 81, .int i1, .int i2, .int i3], [.int (M 89 i3.toNatClampNeg), .int i2], M, J)) (fl_n 4 rfl) <|
     fl_dtwo (fl_if (t := 58) rfl rfl) fl_cT (fun h6 =>
      fl_td (s' := (4, [.ref 81, .int i1, .int (i2 + 0), .int (i3 + 1)], [], M, J)) (fl_n 6 rfl) <|
      (q3 h1 h2 h4 h5 h6)) (fun h6 =>
      fl_td (s' := (4, [.ref 81, .int i1, .int (i2 + 1), .int (i3 + 1)], [], M, J)) (fl_n 6 rfl) <|
      (q4 h1 h2 h4 h5 h6))) (fun h5 =>
     fl_td (s' := (4, [.ref 81, .int i1, .int (i2 + 0), .int (i3 + 1)], [], M, J)) (fl_n 6 rfl) <|
     (q5 h1 h2 h4 h5))) (fun h4 =>
    fl_td (s' := (64, [.ref 81, .int i1, .int i2, .int i3], [.int 3, .int i3, .int i2], M, J)) (fl_n 2 rfl) <|
    fl_dnot (fl_ic (t := 88) rfl rfl) fl_nlt (fun h7 =>
     fl_td (s' := (81, [.ref 81, .int i1, .int i2, .int i3], [.int (M 82 (((944 * (1 + i3)) + 0).toNatClampNeg)), .int i2], M, J)) (fl_n 10 rfl) <|
     fl_dtwo (fl_if (t := 88) rfl rfl) fl_cT (fun h8 =>
      fl_td (s' := (4, [.ref 81, .int i1, .int (i2 + 0), .int (i3 + 1)], [], M, J)) (fl_n 5 rfl) <|
      (q6 h1 h2 h4 h7 h8)) (fun h8 =>
      fl_td (s' := (4, [.ref 81, .int i1, .int (i2 + 1), .int (i3 + 1)], [], M, J)) (fl_n 6 rfl) <|
      (q7 h1 h2 h4 h7 h8))) (fun h7 =>
     fl_td (s' := (4, [.ref 81, .int i1, .int (i2 + 0), .int (i3 + 1)], [], M, J)) (fl_n 5 rfl) <|
     (q8 h1 h2 h4 h7))))) (fun h1 =>
  (q9 h1))
theorem lp_196_4 {r : fl_Q} (i1 i2 : Int32) (M : fl_M) (J : fl_J) (hx : ∀ w3 : Value, fl_dn fB196 (97, [.ref 81, .int i1, .int (lr_196_4 i1 i2 M), w3], [], M, J) r) : fl_dn fB196 (4, [.ref 81, .int i1, .int i2, .int 0], [], M, J) r := by
  have hb : (6 : Int32).toNatClampNeg = 6 := rfl
  have key : ∀ (n m : Nat), m + n = 6 → fl_dn fB196 (4, [.ref 81, .int i1, .int (lq_196_4 i1 i2 M m), .int (Int32.ofNat m)], [], M, J) r := by
    intro n
    induction n with
    | zero =>
      intro m hm
      have hm : m = 6 := by omega
      have hn : ¬ ((Int32.ofNat m) < 6) := fun z => by have z := (fi_lt (by omega)).mp z; omega
      exact ts_196_4 i1 (lq_196_4 i1 i2 M m) (Int32.ofNat m) M J (fun h1 h2 h3 => absurd h1 hn) (fun h1 h2 h3 => absurd h1 hn) (fun h1 h2 h4 h5 h6 => absurd h1 hn) (fun h1 h2 h4 h5 h6 => absurd h1 hn) (fun h1 h2 h4 h5 => absurd h1 hn) (fun h1 h2 h4 h7 h8 => absurd h1 hn) (fun h1 h2 h4 h7 h8 => absurd h1 hn) (fun h1 h2 h4 h7 => absurd h1 hn) (fun h1 => (by have e : lr_196_4 i1 i2 M = lq_196_4 i1 i2 M m := (by show lq_196_4 i1 i2 M (6) = _; rw [← hm]); rw [e] at hx; exact hx _))
    | succ n ih =>
      intro m hm
      have hp : (Int32.ofNat m) < 6 := by exact (fi_lt (by omega)).mpr (by omega)
      refine ts_196_4 i1 (lq_196_4 i1 i2 M m) (Int32.ofNat m) M J (fun h1 h2 h3 => ?_) (fun h1 h2 h3 => ?_) (fun h1 h2 h4 h5 h6 => ?_) (fun h1 h2 h4 h5 h6 => ?_) (fun h1 h2 h4 h5 => ?_) (fun h1 h2 h4 h7 h8 => ?_) (fun h1 h2 h4 h7 h8 => ?_) (fun h1 h2 h4 h7 => ?_) (fun h1 => absurd hp h1)
      · have e : lq_196_4 i1 i2 M (m + 1) = ((lq_196_4 i1 i2 M m) + 0) := by
          rw [lqs_196_4]
          unfold ls_196_4
          simp only [if_pos h2, if_pos h3]
        have q := ih (m + 1) (by omega)
        rw [e] at q
        first | (rw [fi_s]; exact q) | (rw [← fi_s] at q; exact q) | (simp only [fi_s] at q ⊢; exact q)
      · have e : lq_196_4 i1 i2 M (m + 1) = ((lq_196_4 i1 i2 M m) + 1) := by
          rw [lqs_196_4]
          unfold ls_196_4
          simp only [if_pos h2, if_neg h3]
        have q := ih (m + 1) (by omega)
        rw [e] at q
        first | (rw [fi_s]; exact q) | (rw [← fi_s] at q; exact q) | (simp only [fi_s] at q ⊢; exact q)
      · have e : lq_196_4 i1 i2 M (m + 1) = ((lq_196_4 i1 i2 M m) + 0) := by
          rw [lqs_196_4]
          unfold ls_196_4
          simp only [if_neg h2, if_pos h4, if_pos h5, if_pos h6]
        have q := ih (m + 1) (by omega)
        rw [e] at q
        first | (rw [fi_s]; exact q) | (rw [← fi_s] at q; exact q) | (simp only [fi_s] at q ⊢; exact q)
      · have e : lq_196_4 i1 i2 M (m + 1) = ((lq_196_4 i1 i2 M m) + 1) := by
          rw [lqs_196_4]
          unfold ls_196_4
          simp only [if_neg h2, if_pos h4, if_pos h5, if_neg h6]
        have q := ih (m + 1) (by omega)
        rw [e] at q
        first | (rw [fi_s]; exact q) | (rw [← fi_s] at q; exact q) | (simp only [fi_s] at q ⊢; exact q)
      · have e : lq_196_4 i1 i2 M (m + 1) = ((lq_196_4 i1 i2 M m) + 0) := by
          rw [lqs_196_4]
          unfold ls_196_4
          simp only [if_neg h2, if_pos h4, if_neg h5]
        have q := ih (m + 1) (by omega)
        rw [e] at q
        first | (rw [fi_s]; exact q) | (rw [← fi_s] at q; exact q) | (simp only [fi_s] at q ⊢; exact q)
      · have e : lq_196_4 i1 i2 M (m + 1) = ((lq_196_4 i1 i2 M m) + 0) := by
          rw [lqs_196_4]
          unfold ls_196_4
          simp only [if_neg h2, if_neg h4, if_pos h7, if_pos h8]
        have q := ih (m + 1) (by omega)
        rw [e] at q
        first | (rw [fi_s]; exact q) | (rw [← fi_s] at q; exact q) | (simp only [fi_s] at q ⊢; exact q)
      · have e : lq_196_4 i1 i2 M (m + 1) = ((lq_196_4 i1 i2 M m) + 1) := by
          rw [lqs_196_4]
          unfold ls_196_4
          simp only [if_neg h2, if_neg h4, if_pos h7, if_neg h8]
        have q := ih (m + 1) (by omega)
        rw [e] at q
        first | (rw [fi_s]; exact q) | (rw [← fi_s] at q; exact q) | (simp only [fi_s] at q ⊢; exact q)
      · have e : lq_196_4 i1 i2 M (m + 1) = ((lq_196_4 i1 i2 M m) + 0) := by
          rw [lqs_196_4]
          unfold ls_196_4
          simp only [if_neg h2, if_neg h4, if_neg h7]
        have q := ih (m + 1) (by omega)
        rw [e] at q
        first | (rw [fi_s]; exact q) | (rw [← fi_s] at q; exact q) | (simp only [fi_s] at q ⊢; exact q)
  exact key (6) 0 (Nat.zero_add _)
set_option maxRecDepth 8000 in
theorem cc_196 (M : fl_M) (J : fl_J) (wh : Int32) : fl_C 196 [.ref 81, .int wh] M J (some (.int (lr_196_4 wh 0 M)), M, J) :=
 fl_Co (B := fB196) rfl rfl <|
 fl_td (s' := (4, [.ref 81, .int wh, .int 0, .int 0], [], M, J)) (fl_n 4 rfl) <|
 lp_196_4 wh 0 M J (fun u137 =>
  fx_gen (p := fun (II138 : Int32) => fl_dn fB196 (97, [.ref 81, .int wh, .int II138, u137], [], M, J) (some (.int (lr_196_4 wh 0 M)), M, J)) (lr_196_4 wh 0 M) (fun II138 eII138 =>
   fl_td (s' := (98, [.ref 81, .int wh, .int II138, u137], [.int II138], M, J)) (fl_n 1 rfl) <|
   fl_rt rfl (fun _ => rfl) (by subst eII138; rfl)))
def fB194 : sm_P := (fun pc => sm_ch sm_t194 pc, sm_Kn 3 2 none, fun x => sm_lk sm_ca3 x, some .int)
def v_194 (wh : Int32) (M : fl_M) : Int32 := (if wh = 0 then M 81 1 else (if wh = 1 then M 81 4 else (if wh = 2 then M 82 1 else (if wh = 3 then M 82 0 else (if wh = 4 then (lr_168_4 0 0 M) else (if wh = 5 then (lr_163_4 0 0 M) else (if wh = 6 then M 82 3 else (if wh = 7 then M 82 2 else (if wh = 8 then (lr_147_4 0 M) else (if wh = 9 then (lr_195_4 2 0 M) else (if wh = 10 then (lr_195_4 3 0 M) else (lr_196_4 wh 0 M))))))))))))
set_option maxRecDepth 8000 in
theorem cc_194 (M : fl_M) (J : fl_J) (wh : Int32) : fl_C 194 [.ref 81, .int wh] M J (some (.int (v_194 wh M)), M, J) :=
 fl_Co (B := fB194) rfl rfl <|
 fl_td (s' := (1, [.ref 81, .int wh], [.int wh], M, J)) (fl_n 1 rfl) <|
 fl_dc (c := wh = 0) (fun h1 =>
  fl_td (s' := (60, [.ref 81, .int wh], [], M, J)) (fl_sw h1 rfl) <|
  fl_td (s' := (64, [.ref 81, .int wh], [.int (M 81 1)], M, J)) (fl_n 2 rfl) <|
  fl_rt rfl (fun _ => rfl) (by unfold v_194; first | (simp only [if_pos h1]; done) | rfl)) (fun h1 =>
  fl_dc (c := wh = 1) (fun h2 =>
   fl_td (s' := (65, [.ref 81, .int wh], [], M, J)) (fl_sw h2 rfl) <|
   fl_td (s' := (69, [.ref 81, .int wh], [.int (M 81 4)], M, J)) (fl_n 2 rfl) <|
   fl_rt rfl (fun _ => rfl) (by unfold v_194; first | (simp only [if_neg h1, if_pos h2]; done) | rfl)) (fun h2 =>
   fl_dc (c := wh = 2) (fun h3 =>
    fl_td (s' := (70, [.ref 81, .int wh], [], M, J)) (fl_sw h3 rfl) <|
    fl_td (s' := (76, [.ref 81, .int wh], [.int (M 82 1)], M, J)) (fl_n 4 rfl) <|
    fl_rt rfl (fun _ => rfl) (by unfold v_194; first | (simp only [if_neg h1, if_neg h2, if_pos h3]; done) | rfl)) (fun h3 =>
    fl_dc (c := wh = 3) (fun h4 =>
     fl_td (s' := (77, [.ref 81, .int wh], [], M, J)) (fl_sw h4 rfl) <|
     fl_td (s' := (83, [.ref 81, .int wh], [.int (M 82 0)], M, J)) (fl_n 4 rfl) <|
     fl_rt rfl (fun _ => rfl) (by unfold v_194; first | (simp only [if_neg h1, if_neg h2, if_neg h3, if_pos h4]; done) | rfl)) (fun h4 =>
     fl_dc (c := wh = 4) (fun h5 =>
      fl_td (s' := (84, [.ref 81, .int wh], [], M, J)) (fl_sw h5 rfl) <|
      fl_td (s' := (86, [.ref 81, .int wh], [.int 0, .ref 81], M, J)) (fl_n 2 rfl) <|
      fl_td (s' := (89, [.ref 81, .int wh], [.int (lr_168_4 0 0 M)], M, J)) (fl_cv (o := some (.int (lr_168_4 0 0 M))) rfl rfl rfl rfl (cc_168 M J 0) rfl) <|
      fx_gen (p := fun (II139 : Int32) => fl_dn fB194 (89, [.ref 81, .int wh], [.int II139], M, J) (some (.int (v_194 wh M)), M, J)) (lr_168_4 0 0 M) (fun II139 eII139 =>
       fl_rt rfl (fun _ => rfl) (by subst eII139; unfold v_194; first | (simp only [if_neg h1, if_neg h2, if_neg h3, if_neg h4, if_pos h5]; done) | rfl))) (fun h5 =>
      fl_dc (c := wh = 5) (fun h6 =>
       fl_td (s' := (90, [.ref 81, .int wh], [], M, J)) (fl_sw h6 rfl) <|
       fl_td (s' := (92, [.ref 81, .int wh], [.int 0, .ref 81], M, J)) (fl_n 2 rfl) <|
       fl_td (s' := (95, [.ref 81, .int wh], [.int (lr_163_4 0 0 M)], M, J)) (fl_cv (o := some (.int (lr_163_4 0 0 M))) rfl rfl rfl rfl (cc_163 M J 0) rfl) <|
       fx_gen (p := fun (II140 : Int32) => fl_dn fB194 (95, [.ref 81, .int wh], [.int II140], M, J) (some (.int (v_194 wh M)), M, J)) (lr_163_4 0 0 M) (fun II140 eII140 =>
        fl_rt rfl (fun _ => rfl) (by subst eII140; unfold v_194; first | (simp only [if_neg h1, if_neg h2, if_neg h3, if_neg h4, if_neg h5, if_pos h6]; done) | rfl))) (fun h6 =>
       fl_dc (c := wh = 6) (fun h7 =>
        fl_td (s' := (96, [.ref 81, .int wh], [], M, J)) (fl_sw h7 rfl) <|
        fl_td (s' := (102, [.ref 81, .int wh], [.int (M 82 3)], M, J)) (fl_n 4 rfl) <|
        fl_rt rfl (fun _ => rfl) (by unfold v_194; first | (simp only [if_neg h1, if_neg h2, if_neg h3, if_neg h4, if_neg h5, if_neg h6, if_pos h7]; done) | rfl)) (fun h7 =>
        fl_dc (c := wh = 7) (fun h8 =>
         fl_td (s' := (103, [.ref 81, .int wh], [], M, J)) (fl_sw h8 rfl) <|
         fl_td (s' := (109, [.ref 81, .int wh], [.int (M 82 2)], M, J)) (fl_n 4 rfl) <|
         fl_rt rfl (fun _ => rfl) (by unfold v_194; first | (simp only [if_neg h1, if_neg h2, if_neg h3, if_neg h4, if_neg h5, if_neg h6, if_neg h7, if_pos h8]; done) | rfl)) (fun h8 =>
         fl_dc (c := wh = 8) (fun h9 =>
          fl_td (s' := (110, [.ref 81, .int wh], [], M, J)) (fl_sw h9 rfl) <|
          fl_td (s' := (111, [.ref 81, .int wh], [.ref 81], M, J)) (fl_n 1 rfl) <|
          fl_td (s' := (114, [.ref 81, .int wh], [.int (lr_147_4 0 M)], M, J)) (fl_cv (o := some (.int (lr_147_4 0 M))) rfl rfl rfl rfl (cc_147 M J) rfl) <|
          fx_gen (p := fun (II141 : Int32) => fl_dn fB194 (114, [.ref 81, .int wh], [.int II141], M, J) (some (.int (v_194 wh M)), M, J)) (lr_147_4 0 M) (fun II141 eII141 =>
           fl_rt rfl (fun _ => rfl) (by subst eII141; unfold v_194; first | (simp only [if_neg h1, if_neg h2, if_neg h3, if_neg h4, if_neg h5, if_neg h6, if_neg h7, if_neg h8, if_pos h9]; done) | rfl))) (fun h9 =>
          fl_dc (c := wh = 9) (fun h10 =>
           fl_td (s' := (115, [.ref 81, .int wh], [], M, J)) (fl_sw h10 rfl) <|
           fl_td (s' := (117, [.ref 81, .int wh], [.int 2, .ref 81], M, J)) (fl_n 2 rfl) <|
           fl_td (s' := (120, [.ref 81, .int wh], [.int (lr_195_4 2 0 M)], M, J)) (fl_cv (o := some (.int (lr_195_4 2 0 M))) rfl rfl rfl rfl (cc_195 M J 2) rfl) <|
           fx_gen (p := fun (II142 : Int32) => fl_dn fB194 (120, [.ref 81, .int wh], [.int II142], M, J) (some (.int (v_194 wh M)), M, J)) (lr_195_4 2 0 M) (fun II142 eII142 =>
            fl_rt rfl (fun _ => rfl) (by subst eII142; unfold v_194; first | (simp only [if_neg h1, if_neg h2, if_neg h3, if_neg h4, if_neg h5, if_neg h6, if_neg h7, if_neg h8, if_neg h9, if_pos h10]; done) | rfl))) (fun h10 =>
           fl_dc (c := wh = 10) (fun h11 =>
            fl_td (s' := (121, [.ref 81, .int wh], [], M, J)) (fl_sw h11 rfl) <|
            fl_td (s' := (123, [.ref 81, .int wh], [.int 3, .ref 81], M, J)) (fl_n 2 rfl) <|
            fl_td (s' := (126, [.ref 81, .int wh], [.int (lr_195_4 3 0 M)], M, J)) (fl_cv (o := some (.int (lr_195_4 3 0 M))) rfl rfl rfl rfl (cc_195 M J 3) rfl) <|
            fx_gen (p := fun (II143 : Int32) => fl_dn fB194 (126, [.ref 81, .int wh], [.int II143], M, J) (some (.int (v_194 wh M)), M, J)) (lr_195_4 3 0 M) (fun II143 eII143 =>
             fl_rt rfl (fun _ => rfl) (by subst eII143; unfold v_194; first | (simp only [if_neg h1, if_neg h2, if_neg h3, if_neg h4, if_neg h5, if_neg h6, if_neg h7, if_neg h8, if_neg h9, if_neg h10, if_pos h11]; done) | rfl))) (fun h11 =>
            fl_td (s' := (127, [.ref 81, .int wh], [], M, J)) (fl_swd rfl rfl (by have e0 := fl_ne 0 rfl h1; have e1 := fl_ne 1 rfl h2; have e2 := fl_ne 2 rfl h3; have e3 := fl_ne 3 rfl h4; have e4 := fl_ne 4 rfl h5; have e5 := fl_ne 5 rfl h6; have e6 := fl_ne 6 rfl h7; have e7 := fl_ne 7 rfl h8; have e8 := fl_ne 8 rfl h9; have e9 := fl_ne 9 rfl h10; have e10 := fl_ne 10 rfl h11; omega)) <|
            fl_td (s' := (129, [.ref 81, .int wh], [.int wh, .ref 81], M, J)) (fl_n 2 rfl) <|
            fl_td (s' := (132, [.ref 81, .int wh], [.int (lr_196_4 wh 0 M)], M, J)) (fl_cv (o := some (.int (lr_196_4 wh 0 M))) rfl rfl rfl rfl (cc_196 M J wh) rfl) <|
            fx_gen (p := fun (II144 : Int32) => fl_dn fB194 (132, [.ref 81, .int wh], [.int II144], M, J) (some (.int (v_194 wh M)), M, J)) (lr_196_4 wh 0 M) (fun II144 eII144 =>
             fl_rt rfl (fun _ => rfl) (by subst eII144; unfold v_194; first | (simp only [if_neg h1, if_neg h2, if_neg h3, if_neg h4, if_neg h5, if_neg h6, if_neg h7, if_neg h8, if_neg h9, if_neg h10, if_neg h11]; done) | rfl)))))))))))))
def fB193 : sm_P := (fun pc => sm_ch sm_t193 pc, sm_Kn 3 2 none, fun x => sm_lk sm_ca3 x, some .int)
set_option maxRecDepth 8000 in
theorem cc_193 (M : fl_M) (J : fl_J) (wh : Int32) : fl_C 193 [.ref 81, .int wh] M J (some (.int (if (¬ (wh < 0)) ∧ (¬ (13 < wh)) then v_194 wh M else (-1))), M, J) :=
 fl_Co (B := fB193) rfl rfl <|
 fl_td (s' := (6, [.ref 81, .int wh], [.long 13, .long 0, .long wh.toInt64], M, J)) (fl_n 4 rfl) <|
 fl_td (s' := (9, [.ref 81, .int wh], [.int (if (¬ (wh < 0)) ∧ (¬ (13 < wh)) then 1 else 0)], M, J)) (fl_cs (o := some (.int (if (¬ (wh < 0)) ∧ (¬ (13 < wh)) then 1 else 0))) rfl rfl rfl (cc_105i M J wh 0 13) rfl) <|
 fl_dnot (fl_if (t := 20) rfl rfl) fl_b0 (fun h1 =>
  fl_td (s' := (14, [.ref 81, .int wh], [.int wh, .ref 81], M, J)) (fl_n 2 rfl) <|
  fl_td (s' := (17, [.ref 81, .int wh], [.int (v_194 wh M)], M, J)) (fl_cv (o := some (.int (v_194 wh M))) rfl rfl rfl rfl (cc_194 M J wh) rfl) <|
  fl_td (s' := (21, [.ref 81, .int wh], [.int (v_194 wh M)], M, J)) (fl_n 1 rfl) <|
  fl_rt rfl (fun _ => rfl) (by skip; first | (simp only [if_pos h1]; done) | rfl)) (fun h1 =>
  fl_td (s' := (21, [.ref 81, .int wh], [.int (-1)], M, J)) (fl_n 1 rfl) <|
  fl_rt rfl (fun _ => rfl) (by skip; first | (simp only [if_neg h1]; done) | rfl))
def fB199 : sm_P := (fun pc => sm_ch sm_t199 pc, sm_Kn 3 5 none, fun x => sm_lk sm_ca3 x, some .long)
-- MiceRegistersModel.digest 6
