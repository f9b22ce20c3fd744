def fB195 : sm_P := (fun pc => sm_ch sm_t195 pc, sm_Kn 3 4 none, fun x => sm_lk sm_ca3 x, some .int)
-- MiceRegistersModel.those 4
def ls_195_4 (i1 : Int32) (M : fl_M) (m : Nat) (q : Int32) : Int32 := (if ((M 85 (Int32.ofNat m).toNatClampNeg) = i1) ∨ (((i1 = 2) ∧ (((M 85 (Int32.ofNat m).toNatClampNeg) = 4) ∨ ((i1 = 3) ∧ ((M 85 (Int32.ofNat m).toNatClampNeg) = 5)))) ∨ ((¬ (i1 = 2)) ∧ ((i1 = 3) ∧ ((M 85 (Int32.ofNat m).toNatClampNeg) = 5)))) then (q + 1) else (q + 0))
def lq_195_4 (i1 i2 : Int32) (M : fl_M) (m : Nat) : Int32 := fx_it (ls_195_4 i1 M) m i2
theorem lqs_195_4 (i1 i2 : Int32) (M : fl_M) (m : Nat) : lq_195_4 i1 i2 M (m + 1) = (ls_195_4 i1 M) m (lq_195_4 i1 i2 M m) := by
  unfold lq_195_4
  exact fx_it_s _ _ _
def lr_195_4 (i1 i2 : Int32) (M : fl_M) : Int32 := (lq_195_4 i1 i2 M (((M 81 4)).toNatClampNeg))
set_option maxRecDepth 8000 in
theorem ts_195_4 {r : fl_Q} (i1 i2 i3 : Int32) (M : fl_M) (J : fl_J) (q1 : (i3 < (M 81 4)) → (((M 85 i3.toNatClampNeg) = i1) ∨ (((i1 = 2) ∧ (((M 85 i3.toNatClampNeg) = 4) ∨ ((i1 = 3) ∧ ((M 85 i3.toNatClampNeg) = 5)))) ∨ ((¬ (i1 = 2)) ∧ ((i1 = 3) ∧ ((M 85 i3.toNatClampNeg) = 5))))) → fl_dn fB195 (4, [.ref 81, .int i1, .int (i2 + 1), .int (i3 + 1)], [], M, J) r) (q2 : (i3 < (M 81 4)) → (¬ (((M 85 i3.toNatClampNeg) = i1) ∨ (((i1 = 2) ∧ (((M 85 i3.toNatClampNeg) = 4) ∨ ((i1 = 3) ∧ ((M 85 i3.toNatClampNeg) = 5)))) ∨ ((¬ (i1 = 2)) ∧ ((i1 = 3) ∧ ((M 85 i3.toNatClampNeg) = 5)))))) → fl_dn fB195 (4, [.ref 81, .int i1, .int (i2 + 0), .int (i3 + 1)], [], M, J) r) (q3 : (¬ (i3 < (M 81 4))) → fl_dn fB195 (35, [.ref 81, .int i1, .int i2, .int i3], [], M, J) r) : fl_dn fB195 (4, [.ref 81, .int i1, .int i2, .int i3], [], M, J) r :=
 fl_td (s' := (9, [.ref 81, .int i1, .int i2, .int i3], [.int (M 81 4), .int i3], M, J)) (fl_n 3 rfl) <|
 fl_dnot (fl_ic (t := 35) rfl rfl) fl_nlt (fun h1 =>
  fl_td (s' := (16, [.ref 81, .int i1, .int i2, .int i3], [.int i1, .int i3, .ref 81, .int i2], M, J)) (fl_n 4 rfl) <|
  fl_td (s' := (19, [.ref 81, .int i1, .int i2, .int i3], [.int (if ((M 85 i3.toNatClampNeg) = i1) ∨ (((i1 = 2) ∧ (((M 85 i3.toNatClampNeg) = 4) ∨ ((i1 = 3) ∧ ((M 85 i3.toNatClampNeg) = 5)))) ∨ ((¬ (i1 = 2)) ∧ ((i1 = 3) ∧ ((M 85 i3.toNatClampNeg) = 5)))) then 1 else 0), .int i2], M, J)) (fl_cv (o := some (.int (if ((M 85 i3.toNatClampNeg) = i1) ∨ (((i1 = 2) ∧ (((M 85 i3.toNatClampNeg) = 4) ∨ ((i1 = 3) ∧ ((M 85 i3.toNatClampNeg) = 5)))) ∨ ((¬ (i1 = 2)) ∧ ((i1 = 3) ∧ ((M 85 i3.toNatClampNeg) = 5)))) then 1 else 0))) rfl rfl rfl rfl (cc_144 M J i3 i1) rfl) <|
  fl_dnot (fl_if (t := 26) rfl rfl) fl_b0 (fun h2 =>
   fl_td (s' := (4, [.ref 81, .int i1, .int (i2 + 1), .int (i3 + 1)], [], M, J)) (fl_n 6 rfl) <|
   (q1 h1 h2)) (fun h2 =>
   fl_td (s' := (4, [.ref 81, .int i1, .int (i2 + 0), .int (i3 + 1)], [], M, J)) (fl_n 5 rfl) <|
   (q2 h1 h2))) (fun h1 =>
  (q3 h1))
theorem lp_195_4 {r : fl_Q} (i1 i2 : Int32) (M : fl_M) (J : fl_J) (hx : ∀ w3 : Value, fl_dn fB195 (35, [.ref 81, .int i1, .int (lr_195_4 i1 i2 M), w3], [], M, J) r) : fl_dn fB195 (4, [.ref 81, .int i1, .int i2, .int 0], [], M, J) r := by
  have hb := fi_bd (M 81 4)
  have key : ∀ (n m : Nat), m + n = ((M 81 4)).toNatClampNeg → fl_dn fB195 (4, [.ref 81, .int i1, .int (lq_195_4 i1 i2 M m), .int (Int32.ofNat m)], [], M, J) r := by
    intro n
    induction n with
    | zero =>
      intro m hm
      have hm : m = ((M 81 4)).toNatClampNeg := by omega
      have hn : ¬ ((Int32.ofNat m) < (M 81 4)) := fun z => by have z := (fi_lt (by omega)).mp z; omega
      exact ts_195_4 i1 (lq_195_4 i1 i2 M m) (Int32.ofNat m) M J (fun h1 h2 => absurd h1 hn) (fun h1 h2 => absurd h1 hn) (fun h1 => (by have e : lr_195_4 i1 i2 M = lq_195_4 i1 i2 M m := (by show lq_195_4 i1 i2 M (((M 81 4)).toNatClampNeg) = _; rw [← hm]); rw [e] at hx; exact hx _))
    | succ n ih =>
      intro m hm
      have hp : (Int32.ofNat m) < (M 81 4) := by exact (fi_lt (by omega)).mpr (by omega)
      refine ts_195_4 i1 (lq_195_4 i1 i2 M m) (Int32.ofNat m) M J (fun h1 h2 => ?_) (fun h1 h2 => ?_) (fun h1 => absurd hp h1)
      · have e : lq_195_4 i1 i2 M (m + 1) = ((lq_195_4 i1 i2 M m) + 1) := by
          rw [lqs_195_4]
          unfold ls_195_4
          simp only [if_pos h2]
        have q := ih (m + 1) (by omega)
        rw [e] at q
        first | (rw [fi_s]; exact q) | (rw [← fi_s] at q; exact q) | (simp only [fi_s] at q ⊢; exact q)
      · have e : lq_195_4 i1 i2 M (m + 1) = ((lq_195_4 i1 i2 M m) + 0) := by
          rw [lqs_195_4]
          unfold ls_195_4
          simp only [if_neg h2]
        have q := ih (m + 1) (by omega)
        rw [e] at q
        first | (rw [fi_s]; exact q) | (rw [← fi_s] at q; exact q) | (simp only [fi_s] at q ⊢; exact q)
  exact key (((M 81 4)).toNatClampNeg) 0 (Nat.zero_add _)
set_option maxRecDepth 8000 in
theorem cc_195 (M : fl_M) (J : fl_J) (kind : Int32) : fl_C 195 [.ref 81, .int kind] M J (some (.int (lr_195_4 kind 0 M)), M, J) :=
 fl_Co (B := fB195) rfl rfl <|
 fl_td (s' := (4, [.ref 81, .int kind, .int 0, .int 0], [], M, J)) (fl_n 4 rfl) <|
 lp_195_4 kind 0 M J (fun u135 =>
  fx_gen (p := fun (II136 : Int32) => fl_dn fB195 (35, [.ref 81, .int kind, .int II136, u135], [], M, J) (some (.int (lr_195_4 kind 0 M)), M, J)) (lr_195_4 kind 0 M) (fun II136 eII136 =>
   fl_td (s' := (36, [.ref 81, .int kind, .int II136, u135], [.int II136], M, J)) (fl_n 1 rfl) <|
   fl_rt rfl (fun _ => rfl) (by subst eII136; rfl)))
def fB196 : sm_P := (fun pc => sm_ch sm_t196 pc, sm_Kn 3 4 none, fun x => sm_lk sm_ca3 x, some .int)
-- MiceRegistersModel.thereOf 4
def ls_196_4 (i1 : Int32) (M : fl_M) (m : Nat) (q : Int32) : Int32 := (if i1 = 11 then (if (M 87 (Int32.ofNat m).toNatClampNeg) < 0 then (q + 0) else (q + 1)) else (if i1 = 12 then (if (Int32.ofNat m) < 4 then (if (M 89 (Int32.ofNat m).toNatClampNeg) < 0 then (q + 0) else (q + 1)) else (q + 0)) else (if (Int32.ofNat m) < 3 then (if (M 82 (((944 * (1 + (Int32.ofNat m))) + 0).toNatClampNeg)) < 0 then (q + 0) else (q + 1)) else (q + 0))))
def lq_196_4 (i1 i2 : Int32) (M : fl_M) (m : Nat) : Int32 := fx_it (ls_196_4 i1 M) m i2
theorem lqs_196_4 (i1 i2 : Int32) (M : fl_M) (m : Nat) : lq_196_4 i1 i2 M (m + 1) = (ls_196_4 i1 M) m (lq_196_4 i1 i2 M m) := by
  unfold lq_196_4
  exact fx_it_s _ _ _
def lr_196_4 (i1 i2 : Int32) (M : fl_M) : Int32 := (lq_196_4 i1 i2 M (6))
set_option maxRecDepth 8000 in
theorem ts_196_4 {r : fl_Q} (i1 i2 i3 : Int32) (M : fl_M) (J : fl_J) (q1 : (i3 < 6) → (i1 = 11) → ((M 87 i3.toNatClampNeg) < 0) → fl_dn fB196 (4, [.ref 81, .int i1, .int (i2 + 0), .int (i3 + 1)], [], M, J) r) (q2 : (i3 < 6) → (i1 = 11) → (¬ ((M 87 i3.toNatClampNeg) < 0)) → fl_dn fB196 (4, [.ref 81, .int i1, .int (i2 + 1), .int (i3 + 1)], [], M, J) r) (q3 : (i3 < 6) → (¬ (i1 = 11)) → (i1 = 12) → (i3 < 4) → ((M 89 i3.toNatClampNeg) < 0) → fl_dn fB196 (4, [.ref 81, .int i1, .int (i2 + 0), .int (i3 + 1)], [], M, J) r) (q4 : (i3 < 6) → (¬ (i1 = 11)) → (i1 = 12) → (i3 < 4) → (¬ ((M 89 i3.toNatClampNeg) < 0)) → fl_dn fB196 (4, [.ref 81, .int i1, .int (i2 + 1), .int (i3 + 1)], [], M, J) r) (q5 : (i3 < 6) → (¬ (i1 = 11)) → (i1 = 12) → (¬ (i3 < 4)) → fl_dn fB196 (4, [.ref 81, .int i1, .int (i2 + 0), .int (i3 + 1)], [], M, J) r) (q6 : (i3 < 6) → (¬ (i1 = 11)) → (¬ (i1 = 12)) → (i3 < 3) → ((M 82 (((944 * (1 + i3)) + 0).toNatClampNeg)) < 0) → fl_dn fB196 (4, [.ref 81, .int i1, .int (i2 + 0), .int (i3 + 1)], [], M, J) r) (q7 : (i3 < 6) → (¬ (i1 = 11)) → (¬ (i1 = 12)) → (i3 < 3) → (¬ ((M 82 (((944 * (1 + i3)) + 0).toNatClampNeg)) < 0)) → fl_dn fB196 (4, [.ref 81, .int i1, .int (i2 + 1), .int (i3 + 1)], [], M, J) r) (q8 : (i3 < 6) → (¬ (i1 = 11)) → (¬ (i1 = 12)) → (¬ (i3 < 3)) → fl_dn fB196 (4, [.ref 81, .int i1, .int (i2 + 0), .int (i3 + 1)], [], M, J) r) (q9 : (¬ (i3 < 6)) → fl_dn fB196 (97, [.ref 81, .int i1, .int i2, .int i3], [], M, J) r) : fl_dn fB196 (4, [.ref 81, .int i1, .int i2, .int i3], [], M, J) r :=
 fl_td (s' := (7, [.ref 81, .int i1, .int i2, .int i3], [.int 6, .int i3], M, J)) (fl_n 2 rfl) <|
 fl_dnot (fl_ic (t := 97) rfl rfl) fl_nlt (fun h1 =>
  fl_td (s' := (14, [.ref 81, .int i1, .int i2, .int i3], [.int 11, .int i1, .int i2], M, J)) (fl_n 3 rfl) <|
  fl_dnot (fl_ic (t := 34) rfl rfl) fl_cF (fun h2 =>
   fl_td (s' := (23, [.ref 81, .int i1, .int i2, .int i3], [.int (M 87 i3.toNatClampNeg), .int i2], M, J)) (fl_n 4 rfl) <|
   fl_dnot (fl_if (t := 30) rfl rfl) fl_nlt (fun h3 =>
    fl_td (s' := (4, [.ref 81, .int i1, .int (i2 + 0), .int (i3 + 1)], [], M, J)) (fl_n 6 rfl) <|
    (q1 h1 h2 h3)) (fun h3 =>
    fl_td (s' := (4, [.ref 81, .int i1, .int (i2 + 1), .int (i3 + 1)], [], M, J)) (fl_n 6 rfl) <|
    (q2 h1 h2 h3))) (fun h2 =>
   fl_td (s' := (37, [.ref 81, .int i1, .int i2, .int i3], [.int 12, .int i1, .int i2], M, J)) (fl_n 2 rfl) <|
   fl_dnot (fl_ic (t := 62) rfl rfl) fl_cF (fun h4 =>
    fl_td (s' := (42, [.ref 81, .int i1, .int i2, .int i3], [.int 4, .int i3, .int i2], M, J)) (fl_n 2 rfl) <|
    fl_dnot (fl_ic (t := 58) rfl rfl) fl_nlt (fun h5 =>
     fl_td (s' := (51, [.ref 81, .int i1, .int i2, .int i3], [.int (M 89 i3.toNatClampNeg), .int i2], M, J)) (fl_n 4 rfl) <|
     fl_dtwo (fl_if (t := 58) rfl rfl) fl_cT (fun h6 =>
      fl_td (s' := (4, [.ref 81, .int i1, .int (i2 + 0), .int (i3 + 1)], [], M, J)) (fl_n 6 rfl) <|
      (q3 h1 h2 h4 h5 h6)) (fun h6 =>
      fl_td (s' := (4, [.ref 81, .int i1, .int (i2 + 1), .int (i3 + 1)], [], M, J)) (fl_n 6 rfl) <|
      (q4 h1 h2 h4 h5 h6))) (fun h5 =>
     fl_td (s' := (4, [.ref 81, .int i1, .int (i2 + 0), .int (i3 + 1)], [], M, J)) (fl_n 6 rfl) <|
     (q5 h1 h2 h4 h5))) (fun h4 =>
    fl_td (s' := (64, [.ref 81, .int i1, .int i2, .int i3], [.int 3, .int i3, .int i2], M, J)) (fl_n 2 rfl) <|
    fl_dnot (fl_ic (t := 88) rfl rfl) fl_nlt (fun h7 =>
     fl_td (s' := (81, [.ref 81, .int i1, .int i2, .int i3], [.int (M 82 (((944 * (1 + i3)) + 0).toNatClampNeg)), .int i2], M, J)) (fl_n 10 rfl) <|
     fl_dtwo (fl_if (t := 88) rfl rfl) fl_cT (fun h8 =>
      fl_td (s' := (4, [.ref 81, .int i1, .int (i2 + 0), .int (i3 + 1)], [], M, J)) (fl_n 5 rfl) <|
      (q6 h1 h2 h4 h7 h8)) (fun h8 =>
      fl_td (s' := (4, [.ref 81, .int i1, .int (i2 + 1), .int (i3 + 1)], [], M, J)) (fl_n 6 rfl) <|
      (q7 h1 h2 h4 h7 h8))) (fun h7 =>
     fl_td (s' := (4, [.ref 81, .int i1, .int (i2 + 0), .int (i3 + 1)], [], M, J)) (fl_n 5 rfl) <|
     (q8 h1 h2 h4 h7))))) (fun h1 =>
  (q9 h1))
