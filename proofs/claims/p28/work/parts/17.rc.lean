def fB170 : sm_P := (fun pc => sm_ch sm_t170 pc, sm_Kn 3 4 none, fun x => sm_lk sm_ca3 x, some .int)
-- MiceRegistersModel.noRow 42
def ls_170_42 (i1 : Int32) (M : fl_M) (m : Nat) (q : Int32) : Int32 := (if q = 0 then 0 else (if (¬ ((M 88 (((40 * i1) + (Int32.ofNat m)).toNatClampNeg)) < 0)) ∧ (¬ ((M 81 1) - 1 < (M 88 (((40 * i1) + (Int32.ofNat m)).toNatClampNeg)))) then 1 else 0))
def lq_170_42 (i1 i2 : Int32) (M : fl_M) (m : Nat) : Int32 := fx_it (ls_170_42 i1 M) m i2
theorem lqs_170_42 (i1 i2 : Int32) (M : fl_M) (m : Nat) : lq_170_42 i1 i2 M (m + 1) = (ls_170_42 i1 M) m (lq_170_42 i1 i2 M m) := by
  unfold lq_170_42
  exact fx_it_s _ _ _
def lr_170_42 (i1 i2 : Int32) (M : fl_M) : Int32 := (lq_170_42 i1 i2 M (((M 87 i1.toNatClampNeg)).toNatClampNeg))
set_option maxRecDepth 8000 in
theorem ts_170_42 {r : fl_Q} (i1 i2 i3 : Int32) (M : fl_M) (J : fl_J) (q1 : (i3 < (M 87 i1.toNatClampNeg)) → (i2 = 0) → fl_dn fB170 (42, [.ref 81, .int i1, .int 0, .int (i3 + 1)], [], M, J) r) (q2 : (i3 < (M 87 i1.toNatClampNeg)) → (¬ (i2 = 0)) → ((¬ ((M 88 (((40 * i1) + i3).toNatClampNeg)) < 0)) ∧ (¬ ((M 81 1) - 1 < (M 88 (((40 * i1) + i3).toNatClampNeg))))) → fl_dn fB170 (42, [.ref 81, .int i1, .int 1, .int (i3 + 1)], [], M, J) r) (q3 : (i3 < (M 87 i1.toNatClampNeg)) → (¬ (i2 = 0)) → (¬ ((¬ ((M 88 (((40 * i1) + i3).toNatClampNeg)) < 0)) ∧ (¬ ((M 81 1) - 1 < (M 88 (((40 * i1) + i3).toNatClampNeg)))))) → fl_dn fB170 (42, [.ref 81, .int i1, .int 0, .int (i3 + 1)], [], M, J) r) (q4 : (¬ (i3 < (M 87 i1.toNatClampNeg))) → fl_dn fB170 (86, [.ref 81, .int i1, .int i2, .int i3], [], M, J) r) : fl_dn fB170 (42, [.ref 81, .int i1, .int i2, .int i3], [], M, J) r :=
 fl_td (s' := (49, [.ref 81, .int i1, .int i2, .int i3], [.int (M 87 i1.toNatClampNeg), .int i3], M, J)) (fl_n 5 rfl) <|
 fl_dnot (fl_ic (t := 86) rfl rfl) fl_nlt (fun h1 =>
  fl_td (s' := (53, [.ref 81, .int i1, .int i2, .int i3], [.int i2], M, J)) (fl_n 1 rfl) <|
  fl_dtwo (fl_if (t := 78) rfl rfl) fl_cT (fun h2 =>
   fl_td (s' := (42, [.ref 81, .int i1, .int 0, .int (i3 + 1)], [], M, J)) (fl_n 4 rfl) <|
   (q1 h1 h2)) (fun h2 =>
   fl_td (s' := (68, [.ref 81, .int i1, .int i2, .int i3], [.int (M 88 (((40 * i1) + i3).toNatClampNeg)), .ref 81], M, J)) (fl_n 9 rfl) <|
   fl_td (s' := (71, [.ref 81, .int i1, .int i2, .int i3], [.int (if (¬ ((M 88 (((40 * i1) + i3).toNatClampNeg)) < 0)) ∧ (¬ ((M 81 1) - 1 < (M 88 (((40 * i1) + i3).toNatClampNeg)))) then 1 else 0)], M, J)) (fl_cv (o := some (.int (if (¬ ((M 88 (((40 * i1) + i3).toNatClampNeg)) < 0)) ∧ (¬ ((M 81 1) - 1 < (M 88 (((40 * i1) + i3).toNatClampNeg)))) then 1 else 0))) rfl rfl rfl rfl (cc_131 M J (M 88 (((40 * i1) + i3).toNatClampNeg))) rfl) <|
   fl_dnot (fl_if (t := 78) rfl rfl) fl_b0 (fun h3 =>
    fl_td (s' := (42, [.ref 81, .int i1, .int 1, .int (i3 + 1)], [], M, J)) (fl_n 5 rfl) <|
    (q2 h1 h2 h3)) (fun h3 =>
    fl_td (s' := (42, [.ref 81, .int i1, .int 0, .int (i3 + 1)], [], M, J)) (fl_n 4 rfl) <|
    (q3 h1 h2 h3)))) (fun h1 =>
  (q4 h1))
theorem lp_170_42 {r : fl_Q} (i1 i2 : Int32) (M : fl_M) (J : fl_J) (hx : ∀ w3 : Value, fl_dn fB170 (86, [.ref 81, .int i1, .int (lr_170_42 i1 i2 M), w3], [], M, J) r) : fl_dn fB170 (42, [.ref 81, .int i1, .int i2, .int 0], [], M, J) r := by
  have hb := fi_bd (M 87 i1.toNatClampNeg)
  have key : ∀ (n m : Nat), m + n = ((M 87 i1.toNatClampNeg)).toNatClampNeg → fl_dn fB170 (42, [.ref 81, .int i1, .int (lq_170_42 i1 i2 M m), .int (Int32.ofNat m)], [], M, J) r := by
    intro n
    induction n with
    | zero =>
      intro m hm
      have hm : m = ((M 87 i1.toNatClampNeg)).toNatClampNeg := by omega
      have hn : ¬ ((Int32.ofNat m) < (M 87 i1.toNatClampNeg)) := fun z => by have z := (fi_lt (by omega)).mp z; omega
      exact ts_170_42 i1 (lq_170_42 i1 i2 M m) (Int32.ofNat m) M J (fun h1 h2 => absurd h1 hn) (fun h1 h2 h3 => absurd h1 hn) (fun h1 h2 h3 => absurd h1 hn) (fun h1 => (by have e : lr_170_42 i1 i2 M = lq_170_42 i1 i2 M m := (by show lq_170_42 i1 i2 M (((M 87 i1.toNatClampNeg)).toNatClampNeg) = _; rw [← hm]); rw [e] at hx; exact hx _))
    | succ n ih =>
      intro m hm
      have hp : (Int32.ofNat m) < (M 87 i1.toNatClampNeg) := by exact (fi_lt (by omega)).mpr (by omega)
      refine ts_170_42 i1 (lq_170_42 i1 i2 M m) (Int32.ofNat m) M J (fun h1 h2 => ?_) (fun h1 h2 h3 => ?_) (fun h1 h2 h3 => ?_) (fun h1 => absurd hp h1)
      · have e : lq_170_42 i1 i2 M (m + 1) = 0 := by
          rw [lqs_170_42]
          unfold ls_170_42
          simp only [if_pos h2]
        have q := ih (m + 1) (by omega)
        rw [e] at q
        first | (rw [fi_s]; exact q) | (rw [← fi_s] at q; exact q) | (simp only [fi_s] at q ⊢; exact q)
      · have e : lq_170_42 i1 i2 M (m + 1) = 1 := by
          rw [lqs_170_42]
          unfold ls_170_42
          simp only [if_neg h2, if_pos h3]
        have q := ih (m + 1) (by omega)
        rw [e] at q
        first | (rw [fi_s]; exact q) | (rw [← fi_s] at q; exact q) | (simp only [fi_s] at q ⊢; exact q)
      · have e : lq_170_42 i1 i2 M (m + 1) = 0 := by
          rw [lqs_170_42]
          unfold ls_170_42
          simp only [if_neg h2, if_neg h3]
        have q := ih (m + 1) (by omega)
        rw [e] at q
        first | (rw [fi_s]; exact q) | (rw [← fi_s] at q; exact q) | (simp only [fi_s] at q ⊢; exact q)
  exact key (((M 87 i1.toNatClampNeg)).toNatClampNeg) 0 (Nat.zero_add _)
def v_170 (r : Int32) (M : fl_M) : Int32 := (if (M 87 r.toNatClampNeg) < 0 then (-3) else (if (¬ (M 87 r.toNatClampNeg < 1)) ∧ (¬ (10 < M 87 r.toNatClampNeg)) then (if (lr_170_42 r 1 M) = 0 then (-3) else 0) else (-3)))
def m_170 (r : Int32) (M : fl_M) : fl_M := (if (M 87 r.toNatClampNeg) < 0 then (fl_u (fl_u M 81 14 1) 91 1 ((M 91 1) + 1)) else (if (¬ (M 87 r.toNatClampNeg < 1)) ∧ (¬ (10 < M 87 r.toNatClampNeg)) then (if (lr_170_42 r 1 M) = 0 then (fl_u (fl_u M 81 14 3) 91 3 ((M 91 3) + 1)) else M) else (fl_u (fl_u M 81 14 5) 91 5 ((M 91 5) + 1))))
set_option maxRecDepth 8000 in
theorem cc_170 (M : fl_M) (J : fl_J) (r : Int32) : fl_C 170 [.ref 81, .int r] M J (some (.int (v_170 r M)), (m_170 r M), J) :=
 fl_Co (B := fB170) rfl rfl <|
 fl_td (s' := (6, [.ref 81, .int r, .null, .null], [.int (M 87 r.toNatClampNeg)], M, J)) (fl_n 4 rfl) <|
 fl_dnot (fl_if (t := 15) rfl rfl) fl_nlt (fun h1 =>
  fl_td (s' := (11, [.ref 81, .int r, .null, .null], [.int 1, .ref 81], M, J)) (fl_n 2 rfl) <|
  fl_td (s' := (14, [.ref 81, .int r, .null, .null], [.int (-3)], (fl_u (fl_u M 81 14 1) 91 1 ((M 91 1) + 1)), J)) (fl_cv (o := some (.int (-3))) rfl rfl rfl rfl (cc_106 M J 1) rfl) <|
  fl_rt rfl (fun _ => rfl) (by unfold v_170 m_170; first | (simp only [if_pos h1]; done) | rfl)) (fun h1 =>
  fl_td (s' := (26, [.ref 81, .int r, .null, .null], [.long 10, .long 1, .long ((M 87 r.toNatClampNeg).toInt64)], M, J)) (fl_n 7 rfl) <|
  fl_td (s' := (29, [.ref 81, .int r, .null, .null], [.int (if (¬ (M 87 r.toNatClampNeg < 1)) ∧ (¬ (10 < M 87 r.toNatClampNeg)) then 1 else 0)], M, J)) (fl_cs (o := some (.int (if (¬ (M 87 r.toNatClampNeg < 1)) ∧ (¬ (10 < M 87 r.toNatClampNeg)) then 1 else 0))) rfl rfl rfl (cc_105i M J (M 87 r.toNatClampNeg) 1 10) rfl) <|
  fl_dtwo (fl_if (t := 38) rfl rfl) fl_b1 (fun h2 =>
   fl_td (s' := (42, [.ref 81, .int r, .int 1, .int 0], [], M, J)) (fl_n 4 rfl) <|
   lp_170_42 r 1 M J (fun u85 =>
    fx_gen (p := fun (II86 : Int32) => fl_dn fB170 (86, [.ref 81, .int r, .int II86, u85], [], M, J) (some (.int (v_170 r M)), (m_170 r M), J)) (lr_170_42 r 1 M) (fun II86 eII86 =>
     fl_td (s' := (87, [.ref 81, .int r, .int II86, u85], [.int II86], M, J)) (fl_n 1 rfl) <|
     fl_dtwo (fl_if (t := 94) rfl rfl) fl_cT (fun h3 =>
      fl_td (s' := (96, [.ref 81, .int r, .int II86, u85], [.int 3, .ref 81], M, J)) (fl_n 2 rfl) <|
      fl_td (s' := (99, [.ref 81, .int r, .int II86, u85], [.int (-3)], (fl_u (fl_u M 81 14 3) 91 3 ((M 91 3) + 1)), J)) (fl_cv (o := some (.int (-3))) rfl rfl rfl rfl (cc_106 M J 3) rfl) <|
      fl_rt rfl (fun _ => rfl) (by subst eII86; unfold v_170 m_170; first | (simp only [if_neg h1, if_pos h2, if_pos h3]; done) | rfl)) (fun h3 =>
      fl_td (s' := (99, [.ref 81, .int r, .int II86, u85], [.int 0], M, J)) (fl_n 2 rfl) <|
      fl_rt rfl (fun _ => rfl) (by subst eII86; unfold v_170 m_170; first | (simp only [if_neg h1, if_pos h2, if_neg h3]; done) | rfl))))) (fun h2 =>
   fl_td (s' := (34, [.ref 81, .int r, .null, .null], [.int 5, .ref 81], M, J)) (fl_n 2 rfl) <|
   fl_td (s' := (37, [.ref 81, .int r, .null, .null], [.int (-3)], (fl_u (fl_u M 81 14 5) 91 5 ((M 91 5) + 1)), J)) (fl_cv (o := some (.int (-3))) rfl rfl rfl rfl (cc_106 M J 5) rfl) <|
   fl_rt rfl (fun _ => rfl) (by unfold v_170 m_170; first | (simp only [if_neg h1, if_neg h2]; done) | rfl)))
def fB171 : sm_P := (fun pc => sm_ch sm_t171 pc, sm_Kn 3 5 none, fun x => sm_lk sm_ca3 x, some .boolean)
-- MiceRegistersModel.isSo 5
def ls_171_5 (i1 i2 : Int32) (m : Nat) (q : (Int32 × fl_M)) : (Int32 × fl_M) := (if q.1 = 0 then (0, (lr_161_2 1 q.2)) else (if ((lr_161_2 1 q.2) 82 ((3796 + i1).toNatClampNeg)) = ((lr_161_2 1 q.2) 88 (((40 * i2) + (Int32.ofNat m)).toNatClampNeg)) then (1, (lr_161_2 1 q.2)) else (0, (lr_161_2 1 q.2))))
def lq_171_5 (i1 i2 i3 : Int32) (M : fl_M) (m : Nat) : (Int32 × fl_M) := fx_it (ls_171_5 i1 i2) m (i3, M)
theorem lqs_171_5 (i1 i2 i3 : Int32) (M : fl_M) (m : Nat) : lq_171_5 i1 i2 i3 M (m + 1) = (ls_171_5 i1 i2) m (lq_171_5 i1 i2 i3 M m) := by
  unfold lq_171_5
  exact fx_it_s _ _ _
def lr_171_5 (i1 i2 i3 : Int32) (M : fl_M) : (Int32 × fl_M) := (lq_171_5 i1 i2 i3 M (((M 87 i2.toNatClampNeg)).toNatClampNeg))
set_option maxRecDepth 8000 in
theorem ts_171_5 {r : fl_Q} (i1 i2 i3 i4 : Int32) (M : fl_M) (J : fl_J) (q1 : (i4 < (M 87 i2.toNatClampNeg)) → (i3 = 0) → fl_dn fB171 (5, [.ref 81, .int i1, .int i2, .int 0, .int (i4 + 1)], [], (lr_161_2 1 M), J) r) (q2 : (i4 < (M 87 i2.toNatClampNeg)) → (¬ (i3 = 0)) → (((lr_161_2 1 M) 82 ((3796 + i1).toNatClampNeg)) = ((lr_161_2 1 M) 88 (((40 * i2) + i4).toNatClampNeg))) → fl_dn fB171 (5, [.ref 81, .int i1, .int i2, .int 1, .int (i4 + 1)], [], (lr_161_2 1 M), J) r) (q3 : (i4 < (M 87 i2.toNatClampNeg)) → (¬ (i3 = 0)) → (¬ (((lr_161_2 1 M) 82 ((3796 + i1).toNatClampNeg)) = ((lr_161_2 1 M) 88 (((40 * i2) + i4).toNatClampNeg)))) → fl_dn fB171 (5, [.ref 81, .int i1, .int i2, .int 0, .int (i4 + 1)], [], (lr_161_2 1 M), J) r) (q4 : (¬ (i4 < (M 87 i2.toNatClampNeg))) → fl_dn fB171 (62, [.ref 81, .int i1, .int i2, .int i3, .int i4], [], M, J) r) : fl_dn fB171 (5, [.ref 81, .int i1, .int i2, .int i3, .int i4], [], M, J) r :=
 fl_td (s' := (13, [.ref 81, .int i1, .int i2, .int i3, .int i4], [.int (M 87 i2.toNatClampNeg), .int i4], M, J)) (fl_n 5 rfl) <|
 fl_dnot (fl_ic (t := 62) rfl rfl) fl_nlt (fun h1 =>
  fl_td (s' := (18, [.ref 81, .int i1, .int i2, .int i3, .int i4], [.int 1, .ref 81], M, J)) (fl_n 2 rfl) <|
  fl_td (s' := (21, [.ref 81, .int i1, .int i2, .int i3, .int i4], [], (lr_161_2 1 M), J)) (fl_cv (o := none) rfl rfl rfl rfl (cc_161 M J 1) rfl) <|
  fx_gen (p := fun (MM87 : fl_M) => fl_dn fB171 (21, [.ref 81, .int i1, .int i2, .int i3, .int i4], [], MM87, J) r) (lr_161_2 1 M) (fun MM87 eMM87 =>
   fl_td (s' := (22, [.ref 81, .int i1, .int i2, .int i3, .int i4], [.int i3], MM87, J)) (fl_n 1 rfl) <|
   fl_dtwo (fl_if (t := 54) rfl rfl) fl_cT (fun h3 =>
    fl_td (s' := (5, [.ref 81, .int i1, .int i2, .int 0, .int (i4 + 1)], [], MM87, J)) (fl_n 4 rfl) <|
    (by subst eMM87; exact (q1 h1 h3))) (fun h3 =>
    fl_td (s' := (47, [.ref 81, .int i1, .int i2, .int i3, .int i4], [.int (MM87 88 (((40 * i2) + i4).toNatClampNeg)), .int (MM87 82 ((3796 + i1).toNatClampNeg))], MM87, J)) (fl_n 14 rfl) <|
    fl_dnot (fl_ic (t := 54) rfl rfl) fl_cF (fun h4 =>
     fl_td (s' := (5, [.ref 81, .int i1, .int i2, .int 1, .int (i4 + 1)], [], MM87, J)) (fl_n 5 rfl) <|
     (by subst eMM87; exact (q2 h1 h3 h4))) (fun h4 =>
     fl_td (s' := (5, [.ref 81, .int i1, .int i2, .int 0, .int (i4 + 1)], [], MM87, J)) (fl_n 4 rfl) <|
     (by subst eMM87; exact (q3 h1 h3 h4)))))) (fun h1 =>
  (q4 h1))
theorem lk_171_5 (i1 i2 i3 : Int32) (M : fl_M) (m : Nat) : (((lq_171_5 i1 i2 i3 M m).2) 87 i2.toNatClampNeg) = (M 87 i2.toNatClampNeg) := by
  induction m with
  | zero => rfl
  | succ m ih =>
    rw [← ih]
    rw [lqs_171_5]
    generalize lq_171_5 i1 i2 i3 M m = q
    unfold ls_171_5
    (repeat' split) <;> first | with_reducible rfl | (simp [fl_u, fw_150_5, fw_150_130, fw_150, fw_149, fw_156, fw_160, fw_161, fw_166]; done) | rfl
theorem lp_171_5 {r : fl_Q} (i1 i2 i3 : Int32) (M : fl_M) (J : fl_J) (hx : ∀ w4 : Value, fl_dn fB171 (62, [.ref 81, .int i1, .int i2, .int ((lr_171_5 i1 i2 i3 M).1), w4], [], ((lr_171_5 i1 i2 i3 M).2), J) r) : fl_dn fB171 (5, [.ref 81, .int i1, .int i2, .int i3, .int 0], [], M, J) r := by
  have hb := fi_bd (M 87 i2.toNatClampNeg)
  have hB := fun m => lk_171_5 i1 i2 i3 M m
  have key : ∀ (n m : Nat), m + n = ((M 87 i2.toNatClampNeg)).toNatClampNeg → fl_dn fB171 (5, [.ref 81, .int i1, .int i2, .int ((lq_171_5 i1 i2 i3 M m).1), .int (Int32.ofNat m)], [], ((lq_171_5 i1 i2 i3 M m).2), J) r := by
    intro n
    induction n with
    | zero =>
      intro m hm
      have hm : m = ((M 87 i2.toNatClampNeg)).toNatClampNeg := by omega
      have hn : ¬ ((Int32.ofNat m) < (((lq_171_5 i1 i2 i3 M m).2) 87 i2.toNatClampNeg)) := fun z => by rw [hB m] at z; have z := (fi_lt (by omega)).mp z; omega
      exact ts_171_5 i1 i2 ((lq_171_5 i1 i2 i3 M m).1) (Int32.ofNat m) ((lq_171_5 i1 i2 i3 M m).2) J (fun h1 h3 => absurd h1 hn) (fun h1 h3 h4 => absurd h1 hn) (fun h1 h3 h4 => absurd h1 hn) (fun h1 => (by have e : lr_171_5 i1 i2 i3 M = lq_171_5 i1 i2 i3 M m := (by show lq_171_5 i1 i2 i3 M (((M 87 i2.toNatClampNeg)).toNatClampNeg) = _; rw [← hm]); rw [e] at hx; exact hx _))
    | succ n ih =>
      intro m hm
      have hp : (Int32.ofNat m) < (((lq_171_5 i1 i2 i3 M m).2) 87 i2.toNatClampNeg) := by rw [hB m]; exact (fi_lt (by omega)).mpr (by omega)
      refine ts_171_5 i1 i2 ((lq_171_5 i1 i2 i3 M m).1) (Int32.ofNat m) ((lq_171_5 i1 i2 i3 M m).2) J (fun h1 h3 => ?_) (fun h1 h3 h4 => ?_) (fun h1 h3 h4 => ?_) (fun h1 => absurd hp h1)
      · have e : lq_171_5 i1 i2 i3 M (m + 1) = (0, (lr_161_2 1 ((lq_171_5 i1 i2 i3 M m).2))) := by
          rw [lqs_171_5]
          unfold ls_171_5
          simp only [if_pos h3]
        have q := ih (m + 1) (by omega)
        rw [e] at q
        first | (rw [fi_s]; exact q) | (rw [← fi_s] at q; exact q) | (simp only [fi_s] at q ⊢; exact q)
      · have e : lq_171_5 i1 i2 i3 M (m + 1) = (1, (lr_161_2 1 ((lq_171_5 i1 i2 i3 M m).2))) := by
          rw [lqs_171_5]
          unfold ls_171_5
          simp only [if_neg h3, if_pos h4]
        have q := ih (m + 1) (by omega)
        rw [e] at q
        first | (rw [fi_s]; exact q) | (rw [← fi_s] at q; exact q) | (simp only [fi_s] at q ⊢; exact q)
      · have e : lq_171_5 i1 i2 i3 M (m + 1) = (0, (lr_161_2 1 ((lq_171_5 i1 i2 i3 M m).2))) := by
          rw [lqs_171_5]
          unfold ls_171_5
          simp only [if_neg h3, if_neg h4]
        have q := ih (m + 1) (by omega)
        rw [e] at q
        first | (rw [fi_s]; exact q) | (rw [← fi_s] at q; exact q) | (simp only [fi_s] at q ⊢; exact q)
  exact key (((M 87 i2.toNatClampNeg)).toNatClampNeg) 0 (Nat.zero_add _)
set_option maxRecDepth 8000 in
theorem cc_171 (M : fl_M) (J : fl_J) (i r : Int32) : fl_C 171 [.ref 81, .int i, .int r] M J (some (.int ((lr_171_5 i r 1 M).1)), ((lr_171_5 i r 1 M).2), J) :=
 fl_Co (B := fB171) rfl rfl <|
 fl_td (s' := (5, [.ref 81, .int i, .int r, .int 1, .int 0], [], M, J)) (fl_n 4 rfl) <|
 lp_171_5 i r 1 M J (fun u88 =>
  fx_gen (p := fun (MM89 : fl_M) => fl_dn fB171 (62, [.ref 81, .int i, .int r, .int ((lr_171_5 i r 1 M).1), u88], [], MM89, J) (some (.int ((lr_171_5 i r 1 M).1)), ((lr_171_5 i r 1 M).2), J)) ((lr_171_5 i r 1 M).2) (fun MM89 eMM89 =>
   fx_gen (p := fun (II90 : Int32) => fl_dn fB171 (62, [.ref 81, .int i, .int r, .int II90, u88], [], MM89, J) (some (.int ((lr_171_5 i r 1 M).1)), ((lr_171_5 i r 1 M).2), J)) ((lr_171_5 i r 1 M).1) (fun II90 eII90 =>
    fl_td (s' := (63, [.ref 81, .int i, .int r, .int II90, u88], [.int II90], MM89, J)) (fl_n 1 rfl) <|
    fl_rt rfl (fun _ => rfl) (by subst eMM89; subst eII90; rfl))))
theorem fw_171 {i r s : Int32} {M : fl_M} {c j : Nat} (g0 : ¬ c = 82) : (lr_171_5 i r s M).2 c j = M c j := by
  unfold lr_171_5 lq_171_5
  refine it_k (fun q : (Int32 × fl_M) => q.2 c j = M c j) rfl (fun m q hq => ?_)
  unfold ls_171_5
  (try repeat' split) <;> first | with_reducible exact hq | (simp [fl_u, g0, fw_161 g0, hq]; done)
def fB169 : sm_P := (fun pc => sm_ch sm_t169 pc, sm_Kn 3 6 none, fun x => sm_lk sm_ca3 x, some .int)
-- MiceRegistersModel.places 35
def ls_169_35 (i1 i2 : Int32) (m : Nat) (q : (Int32 × fl_M)) : (Int32 × fl_M) := (if ((lr_171_5 i1 i2 1 (fl_u (lr_160_2 q.2) 82 ((3796 + i1).toNatClampNeg) (Int32.ofNat m))).1) = 0 then ((q.1 ||| 0), ((lr_171_5 i1 i2 1 (fl_u (lr_160_2 q.2) 82 ((3796 + i1).toNatClampNeg) (Int32.ofNat m))).2)) else ((q.1 ||| ((1 : Int32) <<< ((Int32.ofNat m) &&& 31))), ((lr_171_5 i1 i2 1 (fl_u (lr_160_2 q.2) 82 ((3796 + i1).toNatClampNeg) (Int32.ofNat m))).2)))
def lq_169_35 (i1 i2 i4 : Int32) (M : fl_M) (m : Nat) : (Int32 × fl_M) := fx_it (ls_169_35 i1 i2) m (i4, M)
theorem lqs_169_35 (i1 i2 i4 : Int32) (M : fl_M) (m : Nat) : lq_169_35 i1 i2 i4 M (m + 1) = (ls_169_35 i1 i2) m (lq_169_35 i1 i2 i4 M m) := by
  unfold lq_169_35
  exact fx_it_s _ _ _
def lr_169_35 (i1 i2 i4 : Int32) (M : fl_M) : (Int32 × fl_M) := (lq_169_35 i1 i2 i4 M (((M 81 1)).toNatClampNeg))
set_option maxRecDepth 8000 in
theorem ts_169_35 {r : fl_Q} (i1 i2 i3 i4 i5 : Int32) (M : fl_M) (J : fl_J) (q1 : (i5 < (M 81 1)) → (((lr_171_5 i1 i2 1 (fl_u (lr_160_2 M) 82 ((3796 + i1).toNatClampNeg) i5)).1) = 0) → fl_dn fB169 (35, [.ref 81, .int i1, .int i2, .int i3, .int (i4 ||| 0), .int (i5 + 1)], [], ((lr_171_5 i1 i2 1 (fl_u (lr_160_2 M) 82 ((3796 + i1).toNatClampNeg) i5)).2), J) r) (q2 : (i5 < (M 81 1)) → (¬ (((lr_171_5 i1 i2 1 (fl_u (lr_160_2 M) 82 ((3796 + i1).toNatClampNeg) i5)).1) = 0)) → fl_dn fB169 (35, [.ref 81, .int i1, .int i2, .int i3, .int (i4 ||| ((1 : Int32) <<< (i5 &&& 31))), .int (i5 + 1)], [], ((lr_171_5 i1 i2 1 (fl_u (lr_160_2 M) 82 ((3796 + i1).toNatClampNeg) i5)).2), J) r) (q3 : (¬ (i5 < (M 81 1))) → fl_dn fB169 (88, [.ref 81, .int i1, .int i2, .int i3, .int i4, .int i5], [], M, J) r) : fl_dn fB169 (35, [.ref 81, .int i1, .int i2, .int i3, .int i4, .int i5], [], M, J) r :=
 fl_td (s' := (41, [.ref 81, .int i1, .int i2, .int i3, .int i4, .int i5], [.int (M 81 1), .int i5], M, J)) (fl_n 3 rfl) <|
 fl_dnot (fl_ic (t := 88) rfl rfl) fl_nlt (fun h1 =>
  fl_td (s' := (45, [.ref 81, .int i1, .int i2, .int i3, .int i4, .int i5], [.ref 81], M, J)) (fl_n 1 rfl) <|
  fl_td (s' := (48, [.ref 81, .int i1, .int i2, .int i3, .int i4, .int i5], [], (lr_160_2 M), J)) (fl_cv (o := none) rfl rfl rfl rfl (cc_160 M J) rfl) <|
  fx_gen (p := fun (MM92 : fl_M) => fl_dn fB169 (48, [.ref 81, .int i1, .int i2, .int i3, .int i4, .int i5], [], MM92, J) r) (lr_160_2 M) (fun MM92 eMM92 =>
   fl_td (s' := (65, [.ref 81, .int i1, .int i2, .int i3, .int i4, .int i5], [.int i2, .int i1, .ref 81, .int i4], (fl_u MM92 82 ((3796 + i1).toNatClampNeg) i5), J)) (fl_n 11 rfl) <|
   fl_td (s' := (68, [.ref 81, .int i1, .int i2, .int i3, .int i4, .int i5], [.int ((lr_171_5 i1 i2 1 (fl_u MM92 82 ((3796 + i1).toNatClampNeg) i5)).1), .int i4], ((lr_171_5 i1 i2 1 (fl_u MM92 82 ((3796 + i1).toNatClampNeg) i5)).2), J)) (fl_cv (o := some (.int ((lr_171_5 i1 i2 1 (fl_u MM92 82 ((3796 + i1).toNatClampNeg) i5)).1))) rfl rfl rfl rfl (cc_171 (fl_u MM92 82 ((3796 + i1).toNatClampNeg) i5) J i1 i2) rfl) <|
   fx_gen (p := fun (MM93 : fl_M) => fl_dn fB169 (68, [.ref 81, .int i1, .int i2, .int i3, .int i4, .int i5], [.int ((lr_171_5 i1 i2 1 (fl_u MM92 82 ((3796 + i1).toNatClampNeg) i5)).1), .int i4], MM93, J) r) ((lr_171_5 i1 i2 1 (fl_u MM92 82 ((3796 + i1).toNatClampNeg) i5)).2) (fun MM93 eMM93 =>
    fx_gen (p := fun (II94 : Int32) => fl_dn fB169 (68, [.ref 81, .int i1, .int i2, .int i3, .int i4, .int i5], [.int II94, .int i4], MM93, J) r) ((lr_171_5 i1 i2 1 (fl_u MM92 82 ((3796 + i1).toNatClampNeg) i5)).1) (fun II94 eII94 =>
     fl_dtwo (fl_if (t := 78) rfl rfl) fl_cT (fun h4 =>
      fl_td (s' := (35, [.ref 81, .int i1, .int i2, .int i3, .int (i4 ||| 0), .int (i5 + 1)], [], MM93, J)) (fl_n 5 rfl) <|
      (by subst eMM92; subst eMM93; subst eII94; exact (q1 h1 h4))) (fun h4 =>
      fl_td (s' := (35, [.ref 81, .int i1, .int i2, .int i3, .int (i4 ||| ((1 : Int32) <<< (i5 &&& 31))), .int (i5 + 1)], [], MM93, J)) (fl_n 8 rfl) <|
      (by subst eMM92; subst eMM93; subst eII94; exact (q2 h1 h4))))))) (fun h1 =>
  (q3 h1))
theorem lk_169_35 (i1 i2 i4 : Int32) (M : fl_M) (m : Nat) : (((lq_169_35 i1 i2 i4 M m).2) 81 1) = (M 81 1) := by
  induction m with
  | zero => rfl
  | succ m ih =>
    rw [← ih]
    rw [lqs_169_35]
    generalize lq_169_35 i1 i2 i4 M m = q
    unfold ls_169_35
    (repeat' split) <;> first | with_reducible rfl | (simp [fl_u, fw_150_5, fw_150_130, fw_150, fw_149, fw_156, fw_160, fw_161, fw_166, fw_171]; done) | rfl
theorem lp_169_35 {r : fl_Q} (i1 i2 i3 i4 : Int32) (M : fl_M) (J : fl_J) (hx : ∀ w5 : Value, fl_dn fB169 (88, [.ref 81, .int i1, .int i2, .int i3, .int ((lr_169_35 i1 i2 i4 M).1), w5], [], ((lr_169_35 i1 i2 i4 M).2), J) r) : fl_dn fB169 (35, [.ref 81, .int i1, .int i2, .int i3, .int i4, .int 0], [], M, J) r := by
  have hb := fi_bd (M 81 1)
  have hB := fun m => lk_169_35 i1 i2 i4 M m
  have key : ∀ (n m : Nat), m + n = ((M 81 1)).toNatClampNeg → fl_dn fB169 (35, [.ref 81, .int i1, .int i2, .int i3, .int ((lq_169_35 i1 i2 i4 M m).1), .int (Int32.ofNat m)], [], ((lq_169_35 i1 i2 i4 M m).2), J) r := by
    intro n
    induction n with
    | zero =>
      intro m hm
      have hm : m = ((M 81 1)).toNatClampNeg := by omega
      have hn : ¬ ((Int32.ofNat m) < (((lq_169_35 i1 i2 i4 M m).2) 81 1)) := fun z => by rw [hB m] at z; have z := (fi_lt (by omega)).mp z; omega
      exact ts_169_35 i1 i2 i3 ((lq_169_35 i1 i2 i4 M m).1) (Int32.ofNat m) ((lq_169_35 i1 i2 i4 M m).2) J (fun h1 h4 => absurd h1 hn) (fun h1 h4 => absurd h1 hn) (fun h1 => (by have e : lr_169_35 i1 i2 i4 M = lq_169_35 i1 i2 i4 M m := (by show lq_169_35 i1 i2 i4 M (((M 81 1)).toNatClampNeg) = _; rw [← hm]); rw [e] at hx; exact hx _))
    | succ n ih =>
      intro m hm
      have hp : (Int32.ofNat m) < (((lq_169_35 i1 i2 i4 M m).2) 81 1) := by rw [hB m]; exact (fi_lt (by omega)).mpr (by omega)
      refine ts_169_35 i1 i2 i3 ((lq_169_35 i1 i2 i4 M m).1) (Int32.ofNat m) ((lq_169_35 i1 i2 i4 M m).2) J (fun h1 h4 => ?_) (fun h1 h4 => ?_) (fun h1 => absurd hp h1)
      · have e : lq_169_35 i1 i2 i4 M (m + 1) = ((((lq_169_35 i1 i2 i4 M m).1) ||| 0), ((lr_171_5 i1 i2 1 (fl_u (lr_160_2 ((lq_169_35 i1 i2 i4 M m).2)) 82 ((3796 + i1).toNatClampNeg) (Int32.ofNat m))).2)) := by
          rw [lqs_169_35]
          unfold ls_169_35
          simp only [if_pos h4]
        have q := ih (m + 1) (by omega)
        rw [e] at q
        first | (rw [fi_s]; exact q) | (rw [← fi_s] at q; exact q) | (simp only [fi_s] at q ⊢; exact q)
      · have e : lq_169_35 i1 i2 i4 M (m + 1) = ((((lq_169_35 i1 i2 i4 M m).1) ||| ((1 : Int32) <<< ((Int32.ofNat m) &&& 31))), ((lr_171_5 i1 i2 1 (fl_u (lr_160_2 ((lq_169_35 i1 i2 i4 M m).2)) 82 ((3796 + i1).toNatClampNeg) (Int32.ofNat m))).2)) := by
          rw [lqs_169_35]
          unfold ls_169_35
          simp only [if_neg h4]
        have q := ih (m + 1) (by omega)
        rw [e] at q
        first | (rw [fi_s]; exact q) | (rw [← fi_s] at q; exact q) | (simp only [fi_s] at q ⊢; exact q)
  exact key (((M 81 1)).toNatClampNeg) 0 (Nat.zero_add _)
def v_169 (i r : Int32) (M : fl_M) : Int32 := (if (¬ (i < 0)) ∧ (¬ ((M 81 4) - 1 < i)) then (if (¬ (r < 0)) ∧ (¬ (5 < r)) then (if (v_170 r M) = 0 then ((lr_169_35 i r 0 (m_170 r M)).1) else v_170 r M) else (-1)) else (-1))
def m_169 (i r : Int32) (M : fl_M) : fl_M := (if (¬ (i < 0)) ∧ (¬ ((M 81 4) - 1 < i)) then (if (¬ (r < 0)) ∧ (¬ (5 < r)) then (if (v_170 r M) = 0 then ((lr_169_35 i r 0 (m_170 r M)).2) else (m_170 r M)) else M) else M)
set_option maxRecDepth 8000 in
theorem cc_169 (M : fl_M) (J : fl_J) (i r : Int32) : fl_C 169 [.ref 81, .int i, .int r] M J (some (.int (v_169 i r M)), (m_169 i r M), J) :=
 fl_Co (B := fB169) rfl rfl <|
 fl_td (s' := (2, [.ref 81, .int i, .int r, .null, .null, .null], [.int i, .ref 81], M, J)) (fl_n 2 rfl) <|
 fl_td (s' := (5, [.ref 81, .int i, .int r, .null, .null, .null], [.int (if (¬ (i < 0)) ∧ (¬ ((M 81 4) - 1 < i)) then 1 else 0)], M, J)) (fl_cv (o := some (.int (if (¬ (i < 0)) ∧ (¬ ((M 81 4) - 1 < i)) then 1 else 0))) rfl rfl rfl rfl (cc_140 M J i) rfl) <|
 fl_dnot (fl_if (t := 15) rfl rfl) fl_b0 (fun h1 =>
  fl_td (s' := (9, [.ref 81, .int i, .int r, .null, .null, .null], [.int r], M, J)) (fl_n 1 rfl) <|
  fl_td (s' := (12, [.ref 81, .int i, .int r, .null, .null, .null], [.int (if (¬ (r < 0)) ∧ (¬ (5 < r)) then 1 else 0)], M, J)) (fl_cs (o := some (.int (if (¬ (r < 0)) ∧ (¬ (5 < r)) then 1 else 0))) rfl rfl rfl (cc_104 M J r) rfl) <|
  fl_dtwo (fl_if (t := 17) rfl rfl) fl_b1 (fun h2 =>
   fl_td (s' := (19, [.ref 81, .int i, .int r, .null, .null, .null], [.int r, .ref 81], M, J)) (fl_n 2 rfl) <|
   fl_td (s' := (22, [.ref 81, .int i, .int r, .null, .null, .null], [.int (v_170 r M)], (m_170 r M), J)) (fl_cv (o := some (.int (v_170 r M))) rfl rfl rfl rfl (cc_170 M J r) rfl) <|
   fx_gen (p := fun (MM91 : fl_M) => fl_dn fB169 (22, [.ref 81, .int i, .int r, .null, .null, .null], [.int (v_170 r M)], MM91, J) (some (.int (v_169 i r M)), (m_169 i r M), J)) (m_170 r M) (fun MM91 eMM91 =>
    fl_td (s' := (24, [.ref 81, .int i, .int r, .int (v_170 r M), .null, .null], [.int (v_170 r M)], MM91, J)) (fl_n 2 rfl) <|
    fl_dtwo (fl_if (t := 29) rfl rfl) fl_cT (fun h4 =>
     fl_td (s' := (35, [.ref 81, .int i, .int r, .int (v_170 r M), .int 0, .int 0], [], MM91, J)) (fl_n 4 rfl) <|
     lp_169_35 i r (v_170 r M) 0 MM91 J (fun u95 =>
      fx_gen (p := fun (MM96 : fl_M) => fl_dn fB169 (88, [.ref 81, .int i, .int r, .int (v_170 r M), .int ((lr_169_35 i r 0 MM91).1), u95], [], MM96, J) (some (.int (v_169 i r M)), (m_169 i r M), J)) ((lr_169_35 i r 0 MM91).2) (fun MM96 eMM96 =>
       fx_gen (p := fun (II97 : Int32) => fl_dn fB169 (88, [.ref 81, .int i, .int r, .int (v_170 r M), .int II97, u95], [], MM96, J) (some (.int (v_169 i r M)), (m_169 i r M), J)) ((lr_169_35 i r 0 MM91).1) (fun II97 eII97 =>
        fl_td (s' := (90, [.ref 81, .int i, .int r, .int (v_170 r M), .int II97, u95], [.int II97], MM96, J)) (fl_n 1 rfl) <|
        fl_rt rfl (fun _ => rfl) (by subst eMM91; subst eMM96; subst eII97; unfold v_169 m_169; first | (simp only [if_pos h1, if_pos h2, if_pos h4]; done) | rfl))))) (fun h4 =>
     fl_td (s' := (28, [.ref 81, .int i, .int r, .int (v_170 r M), .null, .null], [.int (v_170 r M)], MM91, J)) (fl_n 1 rfl) <|
     fl_rt rfl (fun _ => rfl) (by subst eMM91; unfold v_169 m_169; first | (simp only [if_pos h1, if_pos h2, if_neg h4]; done) | rfl)))) (fun h2 =>
   fl_td (s' := (16, [.ref 81, .int i, .int r, .null, .null, .null], [.int (-1)], M, J)) (fl_n 1 rfl) <|
   fl_rt rfl (fun _ => rfl) (by unfold v_169 m_169; first | (simp only [if_pos h1, if_neg h2]; done) | rfl))) (fun h1 =>
  fl_td (s' := (16, [.ref 81, .int i, .int r, .null, .null, .null], [.int (-1)], M, J)) (fl_n 1 rfl) <|
  fl_rt rfl (fun _ => rfl) (by unfold v_169 m_169; first | (simp only [if_neg h1]; done) | rfl))
def fB173 : sm_P := (fun pc => sm_ch sm_t173 pc, sm_Kn 3 6 none, fun x => sm_lk sm_ca3 x, some .int)
-- MiceRegistersModel.kindsBy 13
def ls_173_13 (i1 i2 : Int32) (m : Nat) (q : (Int32 × fl_M)) : (Int32 × fl_M) := (if ((lr_171_5 i1 i2 1 (lr_160_2 (fl_u q.2 85 i1.toNatClampNeg (Int32.ofNat m)))).1) = 0 then ((q.1 ||| 0), ((lr_171_5 i1 i2 1 (lr_160_2 (fl_u q.2 85 i1.toNatClampNeg (Int32.ofNat m)))).2)) else ((q.1 ||| ((1 : Int32) <<< ((Int32.ofNat m) &&& 31))), ((lr_171_5 i1 i2 1 (lr_160_2 (fl_u q.2 85 i1.toNatClampNeg (Int32.ofNat m)))).2)))
def lq_173_13 (i1 i2 i4 : Int32) (M : fl_M) (m : Nat) : (Int32 × fl_M) := fx_it (ls_173_13 i1 i2) m (i4, M)
theorem lqs_173_13 (i1 i2 i4 : Int32) (M : fl_M) (m : Nat) : lq_173_13 i1 i2 i4 M (m + 1) = (ls_173_13 i1 i2) m (lq_173_13 i1 i2 i4 M m) := by
  unfold lq_173_13
  exact fx_it_s _ _ _
def lr_173_13 (i1 i2 i4 : Int32) (M : fl_M) : (Int32 × fl_M) := (lq_173_13 i1 i2 i4 M (6))
set_option maxRecDepth 8000 in
theorem ts_173_13 {r : fl_Q} (i1 i2 i3 i4 i5 : Int32) (M : fl_M) (J : fl_J) (q1 : (i5 < 6) → (((lr_171_5 i1 i2 1 (lr_160_2 (fl_u M 85 i1.toNatClampNeg i5))).1) = 0) → fl_dn fB173 (13, [.ref 81, .int i1, .int i2, .int i3, .int (i4 ||| 0), .int (i5 + 1)], [], ((lr_171_5 i1 i2 1 (lr_160_2 (fl_u M 85 i1.toNatClampNeg i5))).2), J) r) (q2 : (i5 < 6) → (¬ (((lr_171_5 i1 i2 1 (lr_160_2 (fl_u M 85 i1.toNatClampNeg i5))).1) = 0)) → fl_dn fB173 (13, [.ref 81, .int i1, .int i2, .int i3, .int (i4 ||| ((1 : Int32) <<< (i5 &&& 31))), .int (i5 + 1)], [], ((lr_171_5 i1 i2 1 (lr_160_2 (fl_u M 85 i1.toNatClampNeg i5))).2), J) r) (q3 : (¬ (i5 < 6)) → fl_dn fB173 (60, [.ref 81, .int i1, .int i2, .int i3, .int i4, .int i5], [], M, J) r) : fl_dn fB173 (13, [.ref 81, .int i1, .int i2, .int i3, .int i4, .int i5], [], M, J) r :=
 fl_td (s' := (17, [.ref 81, .int i1, .int i2, .int i3, .int i4, .int i5], [.int 6, .int i5], M, J)) (fl_n 2 rfl) <|
 fl_dnot (fl_ic (t := 60) rfl rfl) fl_nlt (fun h1 =>
  fl_td (s' := (29, [.ref 81, .int i1, .int i2, .int i3, .int i4, .int i5], [.ref 81], (fl_u M 85 i1.toNatClampNeg i5), J)) (fl_n 6 rfl) <|
  fl_td (s' := (32, [.ref 81, .int i1, .int i2, .int i3, .int i4, .int i5], [], (lr_160_2 (fl_u M 85 i1.toNatClampNeg i5)), J)) (fl_cv (o := none) rfl rfl rfl rfl (cc_160 (fl_u M 85 i1.toNatClampNeg i5) J) rfl) <|
  fx_gen (p := fun (MM98 : fl_M) => fl_dn fB173 (32, [.ref 81, .int i1, .int i2, .int i3, .int i4, .int i5], [], MM98, J) r) (lr_160_2 (fl_u M 85 i1.toNatClampNeg i5)) (fun MM98 eMM98 =>
   fl_td (s' := (37, [.ref 81, .int i1, .int i2, .int i3, .int i4, .int i5], [.int i2, .int i1, .ref 81, .int i4], MM98, J)) (fl_n 4 rfl) <|
   fl_td (s' := (40, [.ref 81, .int i1, .int i2, .int i3, .int i4, .int i5], [.int ((lr_171_5 i1 i2 1 MM98).1), .int i4], ((lr_171_5 i1 i2 1 MM98).2), J)) (fl_cv (o := some (.int ((lr_171_5 i1 i2 1 MM98).1))) rfl rfl rfl rfl (cc_171 MM98 J i1 i2) rfl) <|
   fx_gen (p := fun (MM99 : fl_M) => fl_dn fB173 (40, [.ref 81, .int i1, .int i2, .int i3, .int i4, .int i5], [.int ((lr_171_5 i1 i2 1 MM98).1), .int i4], MM99, J) r) ((lr_171_5 i1 i2 1 MM98).2) (fun MM99 eMM99 =>
    fx_gen (p := fun (II100 : Int32) => fl_dn fB173 (40, [.ref 81, .int i1, .int i2, .int i3, .int i4, .int i5], [.int II100, .int i4], MM99, J) r) ((lr_171_5 i1 i2 1 MM98).1) (fun II100 eII100 =>
     fl_dtwo (fl_if (t := 50) rfl rfl) fl_cT (fun h4 =>
      fl_td (s' := (13, [.ref 81, .int i1, .int i2, .int i3, .int (i4 ||| 0), .int (i5 + 1)], [], MM99, J)) (fl_n 5 rfl) <|
      (by subst eMM98; subst eMM99; subst eII100; exact (q1 h1 h4))) (fun h4 =>
      fl_td (s' := (13, [.ref 81, .int i1, .int i2, .int i3, .int (i4 ||| ((1 : Int32) <<< (i5 &&& 31))), .int (i5 + 1)], [], MM99, J)) (fl_n 8 rfl) <|
      (by subst eMM98; subst eMM99; subst eII100; exact (q2 h1 h4))))))) (fun h1 =>
  (q3 h1))
theorem lp_173_13 {r : fl_Q} (i1 i2 i3 i4 : Int32) (M : fl_M) (J : fl_J) (hx : ∀ w5 : Value, fl_dn fB173 (60, [.ref 81, .int i1, .int i2, .int i3, .int ((lr_173_13 i1 i2 i4 M).1), w5], [], ((lr_173_13 i1 i2 i4 M).2), J) r) : fl_dn fB173 (13, [.ref 81, .int i1, .int i2, .int i3, .int i4, .int 0], [], M, J) r := by
  have hb : (6 : Int32).toNatClampNeg = 6 := rfl
  have key : ∀ (n m : Nat), m + n = 6 → fl_dn fB173 (13, [.ref 81, .int i1, .int i2, .int i3, .int ((lq_173_13 i1 i2 i4 M m).1), .int (Int32.ofNat m)], [], ((lq_173_13 i1 i2 i4 M m).2), J) r := by
    intro n
    induction n with
    | zero =>
      intro m hm
      have hm : m = 6 := by omega
      have hn : ¬ ((Int32.ofNat m) < 6) := fun z => by have z := (fi_lt (by omega)).mp z; omega
      exact ts_173_13 i1 i2 i3 ((lq_173_13 i1 i2 i4 M m).1) (Int32.ofNat m) ((lq_173_13 i1 i2 i4 M m).2) J (fun h1 h4 => absurd h1 hn) (fun h1 h4 => absurd h1 hn) (fun h1 => (by have e : lr_173_13 i1 i2 i4 M = lq_173_13 i1 i2 i4 M m := (by show lq_173_13 i1 i2 i4 M (6) = _; rw [← hm]); rw [e] at hx; exact hx _))
    | succ n ih =>
      intro m hm
      have hp : (Int32.ofNat m) < 6 := by exact (fi_lt (by omega)).mpr (by omega)
      refine ts_173_13 i1 i2 i3 ((lq_173_13 i1 i2 i4 M m).1) (Int32.ofNat m) ((lq_173_13 i1 i2 i4 M m).2) J (fun h1 h4 => ?_) (fun h1 h4 => ?_) (fun h1 => absurd hp h1)
      · have e : lq_173_13 i1 i2 i4 M (m + 1) = ((((lq_173_13 i1 i2 i4 M m).1) ||| 0), ((lr_171_5 i1 i2 1 (lr_160_2 (fl_u ((lq_173_13 i1 i2 i4 M m).2) 85 i1.toNatClampNeg (Int32.ofNat m)))).2)) := by
          rw [lqs_173_13]
          unfold ls_173_13
          simp only [if_pos h4]
        have q := ih (m + 1) (by omega)
        rw [e] at q
        first | (rw [fi_s]; exact q) | (rw [← fi_s] at q; exact q) | (simp only [fi_s] at q ⊢; exact q)
      · have e : lq_173_13 i1 i2 i4 M (m + 1) = ((((lq_173_13 i1 i2 i4 M m).1) ||| ((1 : Int32) <<< ((Int32.ofNat m) &&& 31))), ((lr_171_5 i1 i2 1 (lr_160_2 (fl_u ((lq_173_13 i1 i2 i4 M m).2) 85 i1.toNatClampNeg (Int32.ofNat m)))).2)) := by
          rw [lqs_173_13]
          unfold ls_173_13
          simp only [if_neg h4]
        have q := ih (m + 1) (by omega)
        rw [e] at q
        first | (rw [fi_s]; exact q) | (rw [← fi_s] at q; exact q) | (simp only [fi_s] at q ⊢; exact q)
  exact key (6) 0 (Nat.zero_add _)
set_option maxRecDepth 8000 in
theorem cc_173 (M : fl_M) (J : fl_J) (i r : Int32) : fl_C 173 [.ref 81, .int i, .int r] M J (some (.int ((lr_173_13 i r 0 M).1)), (fl_u ((lr_173_13 i r 0 M).2) 85 i.toNatClampNeg (M 85 i.toNatClampNeg)), J) :=
 fl_Co (B := fB173) rfl rfl <|
 fl_td (s' := (13, [.ref 81, .int i, .int r, .int (M 85 i.toNatClampNeg), .int 0, .int 0], [], M, J)) (fl_n 9 rfl) <|
 lp_173_13 i r (M 85 i.toNatClampNeg) 0 M J (fun u101 =>
  fx_gen (p := fun (MM102 : fl_M) => fl_dn fB173 (60, [.ref 81, .int i, .int r, .int (M 85 i.toNatClampNeg), .int ((lr_173_13 i r 0 M).1), u101], [], MM102, J) (some (.int ((lr_173_13 i r 0 M).1)), (fl_u ((lr_173_13 i r 0 M).2) 85 i.toNatClampNeg (M 85 i.toNatClampNeg)), J)) ((lr_173_13 i r 0 M).2) (fun MM102 eMM102 =>
   fx_gen (p := fun (II103 : Int32) => fl_dn fB173 (60, [.ref 81, .int i, .int r, .int (M 85 i.toNatClampNeg), .int II103, u101], [], MM102, J) (some (.int ((lr_173_13 i r 0 M).1)), (fl_u ((lr_173_13 i r 0 M).2) 85 i.toNatClampNeg (M 85 i.toNatClampNeg)), J)) ((lr_173_13 i r 0 M).1) (fun II103 eII103 =>
    fl_td (s' := (69, [.ref 81, .int i, .int r, .int (M 85 i.toNatClampNeg), .int II103, u101], [.int II103], (fl_u MM102 85 i.toNatClampNeg (M 85 i.toNatClampNeg)), J)) (fl_n 6 rfl) <|
    fl_rt rfl (fun _ => rfl) (by subst eMM102; subst eII103; rfl))))
def fB172 : sm_P := (fun pc => sm_ch sm_t172 pc, sm_Kn 3 4 none, fun x => sm_lk sm_ca3 x, some .int)
def v_172 (i r : Int32) (M : fl_M) : Int32 := (if (¬ (i < 0)) ∧ (¬ ((M 81 4) - 1 < i)) then (if (¬ (r < 0)) ∧ (¬ (5 < r)) then (if (v_170 r M) = 0 then ((lr_173_13 i r 0 (m_170 r M)).1) else v_170 r M) else (-1)) else (-1))
def m_172 (i r : Int32) (M : fl_M) : fl_M := (if (¬ (i < 0)) ∧ (¬ ((M 81 4) - 1 < i)) then (if (¬ (r < 0)) ∧ (¬ (5 < r)) then (if (v_170 r M) = 0 then (fl_u ((lr_173_13 i r 0 (m_170 r M)).2) 85 i.toNatClampNeg ((m_170 r M) 85 i.toNatClampNeg)) else (m_170 r M)) else M) else M)
set_option maxRecDepth 8000 in
theorem cc_172 (M : fl_M) (J : fl_J) (i r : Int32) : fl_C 172 [.ref 81, .int i, .int r] M J (some (.int (v_172 i r M)), (m_172 i r M), J) :=
 fl_Co (B := fB172) rfl rfl <|
 fl_td (s' := (2, [.ref 81, .int i, .int r, .null], [.int i, .ref 81], M, J)) (fl_n 2 rfl) <|
 fl_td (s' := (5, [.ref 81, .int i, .int r, .null], [.int (if (¬ (i < 0)) ∧ (¬ ((M 81 4) - 1 < i)) then 1 else 0)], M, J)) (fl_cv (o := some (.int (if (¬ (i < 0)) ∧ (¬ ((M 81 4) - 1 < i)) then 1 else 0))) rfl rfl rfl rfl (cc_140 M J i) rfl) <|
 fl_dnot (fl_if (t := 15) rfl rfl) fl_b0 (fun h1 =>
  fl_td (s' := (9, [.ref 81, .int i, .int r, .null], [.int r], M, J)) (fl_n 1 rfl) <|
  fl_td (s' := (12, [.ref 81, .int i, .int r, .null], [.int (if (¬ (r < 0)) ∧ (¬ (5 < r)) then 1 else 0)], M, J)) (fl_cs (o := some (.int (if (¬ (r < 0)) ∧ (¬ (5 < r)) then 1 else 0))) rfl rfl rfl (cc_104 M J r) rfl) <|
  fl_dtwo (fl_if (t := 17) rfl rfl) fl_b1 (fun h2 =>
   fl_td (s' := (19, [.ref 81, .int i, .int r, .null], [.int r, .ref 81], M, J)) (fl_n 2 rfl) <|
   fl_td (s' := (22, [.ref 81, .int i, .int r, .null], [.int (v_170 r M)], (m_170 r M), J)) (fl_cv (o := some (.int (v_170 r M))) rfl rfl rfl rfl (cc_170 M J r) rfl) <|
   fx_gen (p := fun (MM104 : fl_M) => fl_dn fB172 (22, [.ref 81, .int i, .int r, .null], [.int (v_170 r M)], MM104, J) (some (.int (v_172 i r M)), (m_172 i r M), J)) (m_170 r M) (fun MM104 eMM104 =>
    fl_td (s' := (24, [.ref 81, .int i, .int r, .int (v_170 r M)], [.int (v_170 r M)], MM104, J)) (fl_n 2 rfl) <|
    fl_dtwo (fl_if (t := 31) rfl rfl) fl_cT (fun h4 =>
     fl_td (s' := (34, [.ref 81, .int i, .int r, .int (v_170 r M)], [.int r, .int i, .ref 81], MM104, J)) (fl_n 3 rfl) <|
     fl_td (s' := (37, [.ref 81, .int i, .int r, .int (v_170 r M)], [.int ((lr_173_13 i r 0 MM104).1)], (fl_u ((lr_173_13 i r 0 MM104).2) 85 i.toNatClampNeg (MM104 85 i.toNatClampNeg)), J)) (fl_cv (o := some (.int ((lr_173_13 i r 0 MM104).1))) rfl rfl rfl rfl (cc_173 MM104 J i r) rfl) <|
     fx_gen (p := fun (MM105 : fl_M) => fl_dn fB172 (37, [.ref 81, .int i, .int r, .int (v_170 r M)], [.int ((lr_173_13 i r 0 MM104).1)], MM105, J) (some (.int (v_172 i r M)), (m_172 i r M), J)) (fl_u ((lr_173_13 i r 0 MM104).2) 85 i.toNatClampNeg (MM104 85 i.toNatClampNeg)) (fun MM105 eMM105 =>
      fx_gen (p := fun (II106 : Int32) => fl_dn fB172 (37, [.ref 81, .int i, .int r, .int (v_170 r M)], [.int II106], MM105, J) (some (.int (v_172 i r M)), (m_172 i r M), J)) ((lr_173_13 i r 0 MM104).1) (fun II106 eII106 =>
       fl_rt rfl (fun _ => rfl) (by subst eMM104; subst eMM105; subst eII106; unfold v_172 m_172; first | (simp only [if_pos h1, if_pos h2, if_pos h4]; done) | rfl)))) (fun h4 =>
     fl_td (s' := (37, [.ref 81, .int i, .int r, .int (v_170 r M)], [.int (v_170 r M)], MM104, J)) (fl_n 2 rfl) <|
     fl_rt rfl (fun _ => rfl) (by subst eMM104; unfold v_172 m_172; first | (simp only [if_pos h1, if_pos h2, if_neg h4]; done) | rfl)))) (fun h2 =>
   fl_td (s' := (16, [.ref 81, .int i, .int r, .null], [.int (-1)], M, J)) (fl_n 1 rfl) <|
   fl_rt rfl (fun _ => rfl) (by unfold v_172 m_172; first | (simp only [if_pos h1, if_neg h2]; done) | rfl))) (fun h1 =>
  fl_td (s' := (16, [.ref 81, .int i, .int r, .null], [.int (-1)], M, J)) (fl_n 1 rfl) <|
  fl_rt rfl (fun _ => rfl) (by unfold v_172 m_172; first | (simp only [if_neg h1]; done) | rfl))
def fB175 : sm_P := (fun pc => sm_ch sm_t175 pc, sm_Kn 3 6 none, fun x => sm_lk sm_ca3 x, none)
-- MiceRegistersModel.layParts 10
def ls_175_10 (m : Nat) (q : fl_M) : fl_M := (fl_u q 95 (Int32.ofNat m).toNatClampNeg 0)
def lq_175_10 (M : fl_M) (m : Nat) : fl_M := fx_it ls_175_10 m M
theorem lqs_175_10 (M : fl_M) (m : Nat) : lq_175_10 M (m + 1) = ls_175_10 m (lq_175_10 M m) := by
  unfold lq_175_10
  exact fx_it_s _ _ _
def lr_175_10 (M : fl_M) : fl_M := (lq_175_10 M (168))
set_option maxRecDepth 8000 in
theorem ts_175_10 {r : fl_Q} (i1 i2 i3 i4 : Int32) (u5 : Value) (M : fl_M) (J : fl_J) (q1 : (i4 < 168) → fl_dn fB175 (10, [.ref 81, .int i1, .int i2, .int i3, .int (i4 + 1), u5], [], (fl_u M 95 i4.toNatClampNeg 0), J) r) (q2 : (¬ (i4 < 168)) → fl_dn fB175 (32, [.ref 81, .int i1, .int i2, .int i3, .int i4, u5], [], M, J) r) : fl_dn fB175 (10, [.ref 81, .int i1, .int i2, .int i3, .int i4, u5], [], M, J) r :=
 fl_td (s' := (15, [.ref 81, .int i1, .int i2, .int i3, .int i4, u5], [.int 168, .int i4], M, J)) (fl_n 2 rfl) <|
 fl_dnot (fl_ic (t := 32) rfl rfl) fl_nlt (fun h1 =>
  fl_td (s' := (10, [.ref 81, .int i1, .int i2, .int i3, .int (i4 + 1), u5], [], (fl_u M 95 i4.toNatClampNeg 0), J)) (fl_n 7 rfl) <|
  (q1 h1)) (fun h1 =>
  (q2 h1))
theorem lp_175_10 {r : fl_Q} (i1 i2 i3 : Int32) (u5 : Value) (M : fl_M) (J : fl_J) (hx : ∀ w4 : Value, fl_dn fB175 (32, [.ref 81, .int i1, .int i2, .int i3, w4, u5], [], (lr_175_10 M), J) r) : fl_dn fB175 (10, [.ref 81, .int i1, .int i2, .int i3, .int 0, u5], [], M, J) r := by
  have hb : (168 : Int32).toNatClampNeg = 168 := rfl
  have key : ∀ (n m : Nat), m + n = 168 → fl_dn fB175 (10, [.ref 81, .int i1, .int i2, .int i3, .int (Int32.ofNat m), u5], [], (lq_175_10 M m), J) r := by
    intro n
    induction n with
    | zero =>
      intro m hm
      have hm : m = 168 := by omega
      have hn : ¬ ((Int32.ofNat m) < 168) := fun z => by have z := (fi_lt (by omega)).mp z; omega
      exact ts_175_10 i1 i2 i3 (Int32.ofNat m) u5 (lq_175_10 M m) J (fun h1 => absurd h1 hn) (fun h1 => (by have e : lr_175_10 M = lq_175_10 M m := (by show lq_175_10 M (168) = _; rw [← hm]); rw [e] at hx; exact hx _))
    | succ n ih =>
      intro m hm
      have hp : (Int32.ofNat m) < 168 := by exact (fi_lt (by omega)).mpr (by omega)
      refine ts_175_10 i1 i2 i3 (Int32.ofNat m) u5 (lq_175_10 M m) J (fun h1 => ?_) (fun h1 => absurd hp h1)
      · have e : lq_175_10 M (m + 1) = (fl_u (lq_175_10 M m) 95 (Int32.ofNat m).toNatClampNeg 0) := by
          rw [lqs_175_10]
          unfold ls_175_10
          rfl
        have q := ih (m + 1) (by omega)
        rw [e] at q
        first | (rw [fi_s]; exact q) | (rw [← fi_s] at q; exact q) | (simp only [fi_s] at q ⊢; exact q)
  exact key (168) 0 (Nat.zero_add _)
-- MiceRegistersModel.layParts 66
def ls_175_66 (i1 : Int32) (m : Nat) (q : fl_M) : fl_M := (fl_u (lr_161_2 1 q) 95 (((8 * (Int32.ofNat (1 + m))) + ((lr_161_2 1 q) 82 ((3796 + i1).toNatClampNeg))).toNatClampNeg) (((lr_161_2 1 q) 95 (((8 * (Int32.ofNat (1 + m))) + ((lr_161_2 1 q) 82 ((3796 + i1).toNatClampNeg))).toNatClampNeg)) + 1))
def lq_175_66 (i1 : Int32) (M : fl_M) (m : Nat) : fl_M := fx_it (ls_175_66 i1) m M
theorem lqs_175_66 (i1 : Int32) (M : fl_M) (m : Nat) : lq_175_66 i1 M (m + 1) = (ls_175_66 i1) m (lq_175_66 i1 M m) := by
  unfold lq_175_66
  exact fx_it_s _ _ _
def lr_175_66 (i1 : Int32) (M : fl_M) : fl_M := (lq_175_66 i1 M (20))
set_option maxRecDepth 8000 in
theorem ts_175_66 {r : fl_Q} (i1 i2 i3 i4 i5 : Int32) (M : fl_M) (J : fl_J) (q1 : (i5 < 21) → fl_dn fB175 (66, [.ref 81, .int i1, .int i2, .int i3, .int i4, .int (i5 + 1)], [], (fl_u (lr_161_2 1 M) 95 (((8 * i5) + ((lr_161_2 1 M) 82 ((3796 + i1).toNatClampNeg))).toNatClampNeg) (((lr_161_2 1 M) 95 (((8 * i5) + ((lr_161_2 1 M) 82 ((3796 + i1).toNatClampNeg))).toNatClampNeg)) + 1)), J) r) (q2 : (¬ (i5 < 21)) → fl_dn fB175 (109, [.ref 81, .int i1, .int i2, .int i3, .int i4, .int i5], [], M, J) r) : fl_dn fB175 (66, [.ref 81, .int i1, .int i2, .int i3, .int i4, .int i5], [], M, J) r :=
 fl_td (s' := (70, [.ref 81, .int i1, .int i2, .int i3, .int i4, .int i5], [.int 21, .int i5], M, J)) (fl_n 2 rfl) <|
 fl_dnot (fl_ic (t := 109) rfl rfl) fl_nlt (fun h1 =>
  fl_td (s' := (75, [.ref 81, .int i1, .int i2, .int i3, .int i4, .int i5], [.int 1, .ref 81], M, J)) (fl_n 2 rfl) <|
  fl_td (s' := (78, [.ref 81, .int i1, .int i2, .int i3, .int i4, .int i5], [], (lr_161_2 1 M), J)) (fl_cv (o := none) rfl rfl rfl rfl (cc_161 M J 1) rfl) <|
  fx_gen (p := fun (MM110 : fl_M) => fl_dn fB175 (78, [.ref 81, .int i1, .int i2, .int i3, .int i4, .int i5], [], MM110, J) r) (lr_161_2 1 M) (fun MM110 eMM110 =>
   fl_td (s' := (66, [.ref 81, .int i1, .int i2, .int i3, .int i4, .int (i5 + 1)], [], (fl_u MM110 95 (((8 * i5) + (MM110 82 ((3796 + i1).toNatClampNeg))).toNatClampNeg) ((MM110 95 (((8 * i5) + (MM110 82 ((3796 + i1).toNatClampNeg))).toNatClampNeg)) + 1)), J)) (fl_n 19 rfl) <|
   (by subst eMM110; exact (q1 h1)))) (fun h1 =>
  (q2 h1))
theorem lp_175_66 {r : fl_Q} (i1 i2 i3 i4 : Int32) (M : fl_M) (J : fl_J) (hx : ∀ w5 : Value, fl_dn fB175 (109, [.ref 81, .int i1, .int i2, .int i3, .int i4, w5], [], (lr_175_66 i1 M), J) r) : fl_dn fB175 (66, [.ref 81, .int i1, .int i2, .int i3, .int i4, .int 1], [], M, J) r := by
  have hb : (21 : Int32).toNatClampNeg = 21 := rfl
  have key : ∀ (n m : Nat), m + n = 20 → fl_dn fB175 (66, [.ref 81, .int i1, .int i2, .int i3, .int i4, .int (Int32.ofNat (1 + m))], [], (lq_175_66 i1 M m), J) r := by
    intro n
    induction n with
    | zero =>
      intro m hm
      have hm : m = 20 := by omega
      have hn : ¬ ((Int32.ofNat (1 + m)) < 21) := fun z => by have z := (fi_lt (by omega)).mp z; omega
      exact ts_175_66 i1 i2 i3 i4 (Int32.ofNat (1 + m)) (lq_175_66 i1 M m) J (fun h1 => absurd h1 hn) (fun h1 => (by have e : lr_175_66 i1 M = lq_175_66 i1 M m := (by show lq_175_66 i1 M (20) = _; rw [← hm]); rw [e] at hx; exact hx _))
    | succ n ih =>
      intro m hm
      have hp : (Int32.ofNat (1 + m)) < 21 := by exact (fi_lt (by omega)).mpr (by omega)
      refine ts_175_66 i1 i2 i3 i4 (Int32.ofNat (1 + m)) (lq_175_66 i1 M m) J (fun h1 => ?_) (fun h1 => absurd hp h1)
      · have e : lq_175_66 i1 M (m + 1) = (fl_u (lr_161_2 1 (lq_175_66 i1 M m)) 95 (((8 * (Int32.ofNat (1 + m))) + ((lr_161_2 1 (lq_175_66 i1 M m)) 82 ((3796 + i1).toNatClampNeg))).toNatClampNeg) (((lr_161_2 1 (lq_175_66 i1 M m)) 95 (((8 * (Int32.ofNat (1 + m))) + ((lr_161_2 1 (lq_175_66 i1 M m)) 82 ((3796 + i1).toNatClampNeg))).toNatClampNeg)) + 1)) := by
          rw [lqs_175_66]
          unfold ls_175_66
          rfl
        have q := ih (m + 1) (by omega)
        rw [e] at q
        first | (rw [fi_s]; exact q) | (rw [← fi_s] at q; exact q) | (simp only [fi_s] at q ⊢; exact q)
  exact key (20) 0 (Nat.zero_add _)
-- MiceRegistersModel.layParts 35
def ls_175_35 (i1 i2 : Int32) (m : Nat) (q : fl_M) : fl_M := (if ((i2 >>> ((Int32.ofNat m) &&& 31)) &&& 1) = 1 then (lr_175_66 i1 (lr_160_2 (fl_u q 85 i1.toNatClampNeg (Int32.ofNat m)))) else q)
def lq_175_35 (i1 i2 : Int32) (M : fl_M) (m : Nat) : fl_M := fx_it (ls_175_35 i1 i2) m M
theorem lqs_175_35 (i1 i2 : Int32) (M : fl_M) (m : Nat) : lq_175_35 i1 i2 M (m + 1) = (ls_175_35 i1 i2) m (lq_175_35 i1 i2 M m) := by
  unfold lq_175_35
  exact fx_it_s _ _ _
def lr_175_35 (i1 i2 : Int32) (M : fl_M) : fl_M := (lq_175_35 i1 i2 M (6))
set_option maxRecDepth 8000 in
theorem ts_175_35 {r : fl_Q} (i1 i2 i3 i4 : Int32) (u5 : Value) (M : fl_M) (J : fl_J) (q1 : (i4 < 6) → (((i2 >>> (i4 &&& 31)) &&& 1) = 1) → ∀ u111 : Value, fl_dn fB175 (35, [.ref 81, .int i1, .int i2, .int i3, .int (i4 + 1), u111], [], (lr_175_66 i1 (lr_160_2 (fl_u M 85 i1.toNatClampNeg i4))), J) r) (q2 : (i4 < 6) → (¬ (((i2 >>> (i4 &&& 31)) &&& 1) = 1)) → fl_dn fB175 (35, [.ref 81, .int i1, .int i2, .int i3, .int (i4 + 1), u5], [], M, J) r) (q3 : (¬ (i4 < 6)) → fl_dn fB175 (115, [.ref 81, .int i1, .int i2, .int i3, .int i4, u5], [], M, J) r) : fl_dn fB175 (35, [.ref 81, .int i1, .int i2, .int i3, .int i4, u5], [], M, J) r :=
 fl_td (s' := (39, [.ref 81, .int i1, .int i2, .int i3, .int i4, u5], [.int 6, .int i4], M, J)) (fl_n 2 rfl) <|
 fl_dnot (fl_ic (t := 115) rfl rfl) fl_nlt (fun h1 =>
  fl_td (s' := (45, [.ref 81, .int i1, .int i2, .int i3, .int i4, u5], [.int i4, .int i2], M, J)) (fl_n 2 rfl) <|
  fl_td (s' := (48, [.ref 81, .int i1, .int i2, .int i3, .int i4, u5], [.int (if ((i2 >>> (i4 &&& 31)) &&& 1) = 1 then 1 else 0)], M, J)) (fl_cs (o := some (.int (if ((i2 >>> (i4 &&& 31)) &&& 1) = 1 then 1 else 0))) rfl rfl rfl (cc_135 M J i2 i4) rfl) <|
  fl_dnot (fl_if (t := 109) rfl rfl) fl_b0 (fun h2 =>
   fl_td (s' := (60, [.ref 81, .int i1, .int i2, .int i3, .int i4, u5], [.ref 81], (fl_u M 85 i1.toNatClampNeg i4), J)) (fl_n 6 rfl) <|
   fl_td (s' := (63, [.ref 81, .int i1, .int i2, .int i3, .int i4, u5], [], (lr_160_2 (fl_u M 85 i1.toNatClampNeg i4)), J)) (fl_cv (o := none) rfl rfl rfl rfl (cc_160 (fl_u M 85 i1.toNatClampNeg i4) J) rfl) <|
   fx_gen (p := fun (MM109 : fl_M) => fl_dn fB175 (63, [.ref 81, .int i1, .int i2, .int i3, .int i4, u5], [], MM109, J) r) (lr_160_2 (fl_u M 85 i1.toNatClampNeg i4)) (fun MM109 eMM109 =>
    fl_td (s' := (66, [.ref 81, .int i1, .int i2, .int i3, .int i4, .int 1], [], MM109, J)) (fl_n 2 rfl) <|
    lp_175_66 i1 i2 i3 i4 MM109 J (fun u111 =>
     fx_gen (p := fun (MM112 : fl_M) => fl_dn fB175 (109, [.ref 81, .int i1, .int i2, .int i3, .int i4, u111], [], MM112, J) r) (lr_175_66 i1 MM109) (fun MM112 eMM112 =>
      fl_td (s' := (35, [.ref 81, .int i1, .int i2, .int i3, .int (i4 + 1), u111], [], MM112, J)) (fl_n 2 rfl) <|
      (by subst eMM109; subst eMM112; exact (q1 h1 h2 u111)))))) (fun h2 =>
   fl_td (s' := (35, [.ref 81, .int i1, .int i2, .int i3, .int (i4 + 1), u5], [], M, J)) (fl_n 2 rfl) <|
   (q2 h1 h2))) (fun h1 =>
  (q3 h1))
theorem lp_175_35 {r : fl_Q} (i1 i2 i3 : Int32) (u5 : Value) (M : fl_M) (J : fl_J) (hx : ∀ w4 w5 : Value, fl_dn fB175 (115, [.ref 81, .int i1, .int i2, .int i3, w4, w5], [], (lr_175_35 i1 i2 M), J) r) : fl_dn fB175 (35, [.ref 81, .int i1, .int i2, .int i3, .int 0, u5], [], M, J) r := by
  have hb : (6 : Int32).toNatClampNeg = 6 := rfl
  have key : ∀ (n m : Nat) (w5 : Value), m + n = 6 → fl_dn fB175 (35, [.ref 81, .int i1, .int i2, .int i3, .int (Int32.ofNat m), w5], [], (lq_175_35 i1 i2 M m), J) r := by
    intro n
    induction n with
    | zero =>
      intro m w5 hm
      have hm : m = 6 := by omega
      have hn : ¬ ((Int32.ofNat m) < 6) := fun z => by have z := (fi_lt (by omega)).mp z; omega
      exact ts_175_35 i1 i2 i3 (Int32.ofNat m) w5 (lq_175_35 i1 i2 M m) J (fun h1 h2 u111 => absurd h1 hn) (fun h1 h2 => absurd h1 hn) (fun h1 => (by have e : lr_175_35 i1 i2 M = lq_175_35 i1 i2 M m := (by show lq_175_35 i1 i2 M (6) = _; rw [← hm]); rw [e] at hx; exact hx _ _))
    | succ n ih =>
      intro m w5 hm
      have hp : (Int32.ofNat m) < 6 := by exact (fi_lt (by omega)).mpr (by omega)
      refine ts_175_35 i1 i2 i3 (Int32.ofNat m) w5 (lq_175_35 i1 i2 M m) J (fun h1 h2 u111 => ?_) (fun h1 h2 => ?_) (fun h1 => absurd hp h1)
      · have e : lq_175_35 i1 i2 M (m + 1) = (lr_175_66 i1 (lr_160_2 (fl_u (lq_175_35 i1 i2 M m) 85 i1.toNatClampNeg (Int32.ofNat m)))) := by
          rw [lqs_175_35]
          unfold ls_175_35
          simp only [if_pos h2]
        have q := ih (m + 1) u111 (by omega)
        rw [e] at q
        first | (rw [fi_s]; exact q) | (rw [← fi_s] at q; exact q) | (simp only [fi_s] at q ⊢; exact q)
      · have e : lq_175_35 i1 i2 M (m + 1) = (lq_175_35 i1 i2 M m) := by
          rw [lqs_175_35]
          unfold ls_175_35
          simp only [if_neg h2]
        have q := ih (m + 1) w5 (by omega)
        rw [e] at q
        first | (rw [fi_s]; exact q) | (rw [← fi_s] at q; exact q) | (simp only [fi_s] at q ⊢; exact q)
  exact key (6) 0 u5 (Nat.zero_add _)
set_option maxRecDepth 8000 in
theorem cc_175 (M : fl_M) (J : fl_J) (i s : Int32) : fl_C 175 [.ref 81, .int i, .int s] M J (none, (fl_u (lr_175_35 i s (lr_175_10 M)) 85 i.toNatClampNeg (M 85 i.toNatClampNeg)), J) :=
 fl_Co (B := fB175) rfl rfl <|
 fl_td (s' := (10, [.ref 81, .int i, .int s, .int (M 85 i.toNatClampNeg), .int 0, .null], [], M, J)) (fl_n 7 rfl) <|
 lp_175_10 i s (M 85 i.toNatClampNeg) .null M J (fun u107 =>
  fx_gen (p := fun (MM108 : fl_M) => fl_dn fB175 (32, [.ref 81, .int i, .int s, .int (M 85 i.toNatClampNeg), u107, .null], [], MM108, J) (none, (fl_u (lr_175_35 i s (lr_175_10 M)) 85 i.toNatClampNeg (M 85 i.toNatClampNeg)), J)) (lr_175_10 M) (fun MM108 eMM108 =>
   fl_td (s' := (35, [.ref 81, .int i, .int s, .int (M 85 i.toNatClampNeg), .int 0, .null], [], MM108, J)) (fl_n 2 rfl) <|
   lp_175_35 i s (M 85 i.toNatClampNeg) .null MM108 J (fun u113 u114 =>
    fx_gen (p := fun (MM115 : fl_M) => fl_dn fB175 (115, [.ref 81, .int i, .int s, .int (M 85 i.toNatClampNeg), u113, u114], [], MM115, J) (none, (fl_u (lr_175_35 i s (lr_175_10 M)) 85 i.toNatClampNeg (M 85 i.toNatClampNeg)), J)) (lr_175_35 i s MM108) (fun MM115 eMM115 =>
     fl_td (s' := (122, [.ref 81, .int i, .int s, .int (M 85 i.toNatClampNeg), u113, u114], [], (fl_u MM115 85 i.toNatClampNeg (M 85 i.toNatClampNeg)), J)) (fl_n 5 rfl) <|
     fl_rt rfl (fun _ => rfl) (by subst eMM108; subst eMM115; rfl)))))
def fB174 : sm_P := (fun pc => sm_ch sm_t174 pc, sm_Kn 3 10 none, fun x => sm_lk sm_ca3 x, some .int)
-- MiceRegistersModel.look 76
def ls_174_76 (i7 : Int32) (M : fl_M) (m : Nat) (q : Int32) : Int32 := (if q < (M 95 (((8 * i7) + (Int32.ofNat m)).toNatClampNeg)) then (M 95 (((8 * i7) + (Int32.ofNat m)).toNatClampNeg)) else q)
def lq_174_76 (i7 i8 : Int32) (M : fl_M) (m : Nat) : Int32 := fx_it (ls_174_76 i7 M) m i8
theorem lqs_174_76 (i7 i8 : Int32) (M : fl_M) (m : Nat) : lq_174_76 i7 i8 M (m + 1) = (ls_174_76 i7 M) m (lq_174_76 i7 i8 M m) := by
  unfold lq_174_76
  exact fx_it_s _ _ _
def lr_174_76 (i7 i8 : Int32) (M : fl_M) : Int32 := (lq_174_76 i7 i8 M (8))
set_option maxRecDepth 8000 in
theorem ts_174_76 {r : fl_Q} (i1 i2 i3 i4 i5 i6 i7 i8 i9 : Int32) (M : fl_M) (J : fl_J) (q1 : (i9 < 8) → (i8 < (M 95 (((8 * i7) + i9).toNatClampNeg))) → fl_dn fB174 (76, [.ref 81, .int i1, .int i2, .int i3, .int i4, .int i5, .int i6, .int i7, .int (M 95 (((8 * i7) + i9).toNatClampNeg)), .int (i9 + 1)], [], M, J) r) (q2 : (i9 < 8) → (¬ (i8 < (M 95 (((8 * i7) + i9).toNatClampNeg)))) → fl_dn fB174 (76, [.ref 81, .int i1, .int i2, .int i3, .int i4, .int i5, .int i6, .int i7, .int i8, .int (i9 + 1)], [], M, J) r) (q3 : (¬ (i9 < 8)) → fl_dn fB174 (127, [.ref 81, .int i1, .int i2, .int i3, .int i4, .int i5, .int i6, .int i7, .int i8, .int i9], [], M, J) r) : fl_dn fB174 (76, [.ref 81, .int i1, .int i2, .int i3, .int i4, .int i5, .int i6, .int i7, .int i8, .int i9], [], M, J) r :=
 fl_td (s' := (80, [.ref 81, .int i1, .int i2, .int i3, .int i4, .int i5, .int i6, .int i7, .int i8, .int i9], [.int 8, .int i9], M, J)) (fl_n 2 rfl) <|
 fl_dnot (fl_ic (t := 127) rfl rfl) fl_nlt (fun h1 =>
  fl_td (s' := (98, [.ref 81, .int i1, .int i2, .int i3, .int i4, .int i5, .int i6, .int i7, .int i8, .int i9], [.int i8, .int (M 95 (((8 * i7) + i9).toNatClampNeg))], M, J)) (fl_n 9 rfl) <|
  fl_dnot (fl_ic (t := 117) rfl rfl) fl_nle (fun h2 =>
   fl_td (s' := (76, [.ref 81, .int i1, .int i2, .int i3, .int i4, .int i5, .int i6, .int i7, .int (M 95 (((8 * i7) + i9).toNatClampNeg)), .int (i9 + 1)], [], M, J)) (fl_n 12 rfl) <|
   (q1 h1 h2)) (fun h2 =>
   fl_td (s' := (76, [.ref 81, .int i1, .int i2, .int i3, .int i4, .int i5, .int i6, .int i7, .int i8, .int (i9 + 1)], [], M, J)) (fl_n 4 rfl) <|
   (q2 h1 h2))) (fun h1 =>
  (q3 h1))
theorem lp_174_76 {r : fl_Q} (i1 i2 i3 i4 i5 i6 i7 i8 : Int32) (M : fl_M) (J : fl_J) (hx : ∀ w9 : Value, fl_dn fB174 (127, [.ref 81, .int i1, .int i2, .int i3, .int i4, .int i5, .int i6, .int i7, .int (lr_174_76 i7 i8 M), w9], [], M, J) r) : fl_dn fB174 (76, [.ref 81, .int i1, .int i2, .int i3, .int i4, .int i5, .int i6, .int i7, .int i8, .int 0], [], M, J) r := by
  have hb : (8 : Int32).toNatClampNeg = 8 := rfl
  have key : ∀ (n m : Nat), m + n = 8 → fl_dn fB174 (76, [.ref 81, .int i1, .int i2, .int i3, .int i4, .int i5, .int i6, .int i7, .int (lq_174_76 i7 i8 M m), .int (Int32.ofNat m)], [], M, J) r := by
    intro n
    induction n with
    | zero =>
      intro m hm
      have hm : m = 8 := by omega
      have hn : ¬ ((Int32.ofNat m) < 8) := fun z => by have z := (fi_lt (by omega)).mp z; omega
      exact ts_174_76 i1 i2 i3 i4 i5 i6 i7 (lq_174_76 i7 i8 M m) (Int32.ofNat m) M J (fun h1 h2 => absurd h1 hn) (fun h1 h2 => absurd h1 hn) (fun h1 => (by have e : lr_174_76 i7 i8 M = lq_174_76 i7 i8 M m := (by show lq_174_76 i7 i8 M (8) = _; rw [← hm]); rw [e] at hx; exact hx _))
    | succ n ih =>
      intro m hm
      have hp : (Int32.ofNat m) < 8 := by exact (fi_lt (by omega)).mpr (by omega)
      refine ts_174_76 i1 i2 i3 i4 i5 i6 i7 (lq_174_76 i7 i8 M m) (Int32.ofNat m) M J (fun h1 h2 => ?_) (fun h1 h2 => ?_) (fun h1 => absurd hp h1)
      · have e : lq_174_76 i7 i8 M (m + 1) = (M 95 (((8 * i7) + (Int32.ofNat m)).toNatClampNeg)) := by
          rw [lqs_174_76]
          unfold ls_174_76
          simp only [if_pos h2]
        have q := ih (m + 1) (by omega)
        rw [e] at q
        first | (rw [fi_s]; exact q) | (rw [← fi_s] at q; exact q) | (simp only [fi_s] at q ⊢; exact q)
      · have e : lq_174_76 i7 i8 M (m + 1) = (lq_174_76 i7 i8 M m) := by
          rw [lqs_174_76]
          unfold ls_174_76
          simp only [if_neg h2]
        have q := ih (m + 1) (by omega)
        rw [e] at q
        first | (rw [fi_s]; exact q) | (rw [← fi_s] at q; exact q) | (simp only [fi_s] at q ⊢; exact q)
  exact key (8) 0 (Nat.zero_add _)
-- MiceRegistersModel.look 63
def ls_174_63 (M : fl_M) (m : Nat) (q : (Int32 × Int32)) : (Int32 × Int32) := (if (lr_174_76 (Int32.ofNat (1 + m)) 0 M) < q.2 then ((Int32.ofNat (1 + m)), (lr_174_76 (Int32.ofNat (1 + m)) 0 M)) else (q.1, q.2))
def lq_174_63 (i5 i6 : Int32) (M : fl_M) (m : Nat) : (Int32 × Int32) := fx_it (ls_174_63 M) m (i5, i6)
theorem lqs_174_63 (i5 i6 : Int32) (M : fl_M) (m : Nat) : lq_174_63 i5 i6 M (m + 1) = (ls_174_63 M) m (lq_174_63 i5 i6 M m) := by
  unfold lq_174_63
  exact fx_it_s _ _ _
def lr_174_63 (i5 i6 : Int32) (M : fl_M) : (Int32 × Int32) := (lq_174_63 i5 i6 M (20))
set_option maxRecDepth 8000 in
theorem ts_174_63 {r : fl_Q} (i1 i2 i3 i4 i5 i6 i7 : Int32) (u8 u9 : Value) (M : fl_M) (J : fl_J) (q1 : (i7 < 21) → ∀ u120 : Value, ((lr_174_76 i7 0 M) < i6) → ((lr_174_76 i7 0 M) < i6) → fl_dn fB174 (63, [.ref 81, .int i1, .int i2, .int i3, .int i4, .int i7, .int (lr_174_76 i7 0 M), .int (i7 + 1), .int (lr_174_76 i7 0 M), u120], [], M, J) r) (q2 : (i7 < 21) → ∀ u120 : Value, (¬ ((lr_174_76 i7 0 M) < i6)) → (¬ ((lr_174_76 i7 0 M) < i6)) → fl_dn fB174 (63, [.ref 81, .int i1, .int i2, .int i3, .int i4, .int i5, .int i6, .int (i7 + 1), .int (lr_174_76 i7 0 M), u120], [], M, J) r) (q3 : (¬ (i7 < 21)) → fl_dn fB174 (165, [.ref 81, .int i1, .int i2, .int i3, .int i4, .int i5, .int i6, .int i7, u8, u9], [], M, J) r) : fl_dn fB174 (63, [.ref 81, .int i1, .int i2, .int i3, .int i4, .int i5, .int i6, .int i7, u8, u9], [], M, J) r :=
 fl_td (s' := (67, [.ref 81, .int i1, .int i2, .int i3, .int i4, .int i5, .int i6, .int i7, u8, u9], [.int 21, .int i7], M, J)) (fl_n 2 rfl) <|
 fl_dnot (fl_ic (t := 165) rfl rfl) fl_nlt (fun h1 =>
  fl_td (s' := (76, [.ref 81, .int i1, .int i2, .int i3, .int i4, .int i5, .int i6, .int i7, .int 0, .int 0], [], M, J)) (fl_n 4 rfl) <|
  lp_174_76 i1 i2 i3 i4 i5 i6 i7 0 M J (fun u120 =>
   fx_gen (p := fun (II121 : Int32) => fl_dn fB174 (127, [.ref 81, .int i1, .int i2, .int i3, .int i4, .int i5, .int i6, .int i7, .int II121, u120], [], M, J) r) (lr_174_76 i7 0 M) (fun II121 eII121 =>
    fl_td (s' := (131, [.ref 81, .int i1, .int i2, .int i3, .int i4, .int i5, .int i6, .int i7, .int II121, u120], [.int i6, .int II121], M, J)) (fl_n 2 rfl) <|
    fl_dnot (fl_ic (t := 139) rfl rfl) fl_nlt (fun h2 =>
     fl_td (s' := (147, [.ref 81, .int i1, .int i2, .int i3, .int i4, .int i7, .int i6, .int i7, .int II121, u120], [.int i6, .int II121], M, J)) (fl_n 5 rfl) <|
     fl_dnot (fl_ic (t := 155) rfl rfl) fl_nlt (fun h3 =>
      fl_td (s' := (63, [.ref 81, .int i1, .int i2, .int i3, .int i4, .int i7, .int II121, .int (i7 + 1), .int II121, u120], [], M, J)) (fl_n 5 rfl) <|
      (by subst eII121; exact (q1 h1 u120 h2 h3))) (fun h3 =>
      (by subst eII121; exact absurd h2 h3))) (fun h2 =>
     fl_td (s' := (147, [.ref 81, .int i1, .int i2, .int i3, .int i4, .int i5, .int i6, .int i7, .int II121, u120], [.int i6, .int II121], M, J)) (fl_n 4 rfl) <|
     fl_dnot (fl_ic (t := 155) rfl rfl) fl_nlt (fun h4 =>
      (by subst eII121; exact absurd h4 h2)) (fun h4 =>
      fl_td (s' := (63, [.ref 81, .int i1, .int i2, .int i3, .int i4, .int i5, .int i6, .int (i7 + 1), .int II121, u120], [], M, J)) (fl_n 4 rfl) <|
      (by subst eII121; exact (q2 h1 u120 h2 h4))))))) (fun h1 =>
  (q3 h1))
theorem lp_174_63 {r : fl_Q} (i1 i2 i3 i4 i5 i6 : Int32) (u8 u9 : Value) (M : fl_M) (J : fl_J) (hx : ∀ w7 w8 w9 : Value, fl_dn fB174 (165, [.ref 81, .int i1, .int i2, .int i3, .int i4, .int ((lr_174_63 i5 i6 M).1), .int ((lr_174_63 i5 i6 M).2), w7, w8, w9], [], M, J) r) : fl_dn fB174 (63, [.ref 81, .int i1, .int i2, .int i3, .int i4, .int i5, .int i6, .int 1, u8, u9], [], M, J) r := by
  have hb : (21 : Int32).toNatClampNeg = 21 := rfl
  have key : ∀ (n m : Nat) (w8 w9 : Value), m + n = 20 → fl_dn fB174 (63, [.ref 81, .int i1, .int i2, .int i3, .int i4, .int ((lq_174_63 i5 i6 M m).1), .int ((lq_174_63 i5 i6 M m).2), .int (Int32.ofNat (1 + m)), w8, w9], [], M, J) r := by
    intro n
    induction n with
    | zero =>
      intro m w8 w9 hm
      have hm : m = 20 := by omega
      have hn : ¬ ((Int32.ofNat (1 + m)) < 21) := fun z => by have z := (fi_lt (by omega)).mp z; omega
      exact ts_174_63 i1 i2 i3 i4 ((lq_174_63 i5 i6 M m).1) ((lq_174_63 i5 i6 M m).2) (Int32.ofNat (1 + m)) w8 w9 M J (fun h1 u120 h2 h3 => absurd h1 hn) (fun h1 u120 h2 h4 => absurd h1 hn) (fun h1 => (by have e : lr_174_63 i5 i6 M = lq_174_63 i5 i6 M m := (by show lq_174_63 i5 i6 M (20) = _; rw [← hm]); rw [e] at hx; exact hx _ _ _))
    | succ n ih =>
      intro m w8 w9 hm
      have hp : (Int32.ofNat (1 + m)) < 21 := by exact (fi_lt (by omega)).mpr (by omega)
      refine ts_174_63 i1 i2 i3 i4 ((lq_174_63 i5 i6 M m).1) ((lq_174_63 i5 i6 M m).2) (Int32.ofNat (1 + m)) w8 w9 M J (fun h1 u120 h2 h3 => ?_) (fun h1 u120 h2 h4 => ?_) (fun h1 => absurd hp h1)
      · have e : lq_174_63 i5 i6 M (m + 1) = ((Int32.ofNat (1 + m)), (lr_174_76 (Int32.ofNat (1 + m)) 0 M)) := by
          rw [lqs_174_63]
          unfold ls_174_63
          simp only [if_pos h2, if_pos h3]
        have q := ih (m + 1) (.int (lr_174_76 (Int32.ofNat (1 + m)) 0 M)) u120 (by omega)
        rw [e] at q
        first | (rw [fi_s]; exact q) | (rw [← fi_s] at q; exact q) | (simp only [fi_s] at q ⊢; exact q)
      · have e : lq_174_63 i5 i6 M (m + 1) = (((lq_174_63 i5 i6 M m).1), ((lq_174_63 i5 i6 M m).2)) := by
          rw [lqs_174_63]
          unfold ls_174_63
          simp only [if_neg h2, if_neg h4]
        have q := ih (m + 1) (.int (lr_174_76 (Int32.ofNat (1 + m)) 0 M)) u120 (by omega)
        rw [e] at q
        first | (rw [fi_s]; exact q) | (rw [← fi_s] at q; exact q) | (simp only [fi_s] at q ⊢; exact q)
  exact key (20) 0 u8 u9 (Nat.zero_add _)
def v_174 (i r : Int32) (M : fl_M) : Int32 := (if (¬ (i < 0)) ∧ (¬ ((M 81 4) - 1 < i)) then (if (¬ (r < 0)) ∧ (¬ (5 < r)) then (if (v_170 r M) = 0 then (if ((lr_173_13 i r 0 (m_170 r M)).1) = 0 then (-9) else ((lr_174_63 (-9) 99999 (fl_u (lr_175_35 i ((lr_173_13 i r 0 (m_170 r M)).1) (lr_175_10 (fl_u ((lr_173_13 i r 0 (m_170 r M)).2) 85 i.toNatClampNeg ((m_170 r M) 85 i.toNatClampNeg)))) 85 i.toNatClampNeg ((fl_u ((lr_173_13 i r 0 (m_170 r M)).2) 85 i.toNatClampNeg ((m_170 r M) 85 i.toNatClampNeg)) 85 i.toNatClampNeg))).1)) else v_170 r M) else (-1)) else (-1))
def m_174 (i r : Int32) (M : fl_M) : fl_M := (if (¬ (i < 0)) ∧ (¬ ((M 81 4) - 1 < i)) then (if (¬ (r < 0)) ∧ (¬ (5 < r)) then (if (v_170 r M) = 0 then (if ((lr_173_13 i r 0 (m_170 r M)).1) = 0 then (fl_u ((lr_173_13 i r 0 (m_170 r M)).2) 85 i.toNatClampNeg ((m_170 r M) 85 i.toNatClampNeg)) else (fl_u (fl_u (lr_175_35 i ((lr_173_13 i r 0 (m_170 r M)).1) (lr_175_10 (fl_u ((lr_173_13 i r 0 (m_170 r M)).2) 85 i.toNatClampNeg ((m_170 r M) 85 i.toNatClampNeg)))) 85 i.toNatClampNeg ((fl_u ((lr_173_13 i r 0 (m_170 r M)).2) 85 i.toNatClampNeg ((m_170 r M) 85 i.toNatClampNeg)) 85 i.toNatClampNeg)) 81 11 ((lr_174_63 (-9) 99999 (fl_u (lr_175_35 i ((lr_173_13 i r 0 (m_170 r M)).1) (lr_175_10 (fl_u ((lr_173_13 i r 0 (m_170 r M)).2) 85 i.toNatClampNeg ((m_170 r M) 85 i.toNatClampNeg)))) 85 i.toNatClampNeg ((fl_u ((lr_173_13 i r 0 (m_170 r M)).2) 85 i.toNatClampNeg ((m_170 r M) 85 i.toNatClampNeg)) 85 i.toNatClampNeg))).2))) else (m_170 r M)) else M) else M)
set_option maxRecDepth 8000 in
theorem cc_174 (M : fl_M) (J : fl_J) (i r : Int32) : fl_C 174 [.ref 81, .int i, .int r] M J (some (.int (v_174 i r M)), (m_174 i r M), J) :=
 fl_Co (B := fB174) rfl rfl <|
 fl_td (s' := (2, [.ref 81, .int i, .int r, .null, .null, .null, .null, .null, .null, .null], [.int i, .ref 81], M, J)) (fl_n 2 rfl) <|
 fl_td (s' := (5, [.ref 81, .int i, .int r, .null, .null, .null, .null, .null, .null, .null], [.int (if (¬ (i < 0)) ∧ (¬ ((M 81 4) - 1 < i)) then 1 else 0)], M, J)) (fl_cv (o := some (.int (if (¬ (i < 0)) ∧ (¬ ((M 81 4) - 1 < i)) then 1 else 0))) rfl rfl rfl rfl (cc_140 M J i) rfl) <|
 fl_dnot (fl_if (t := 15) rfl rfl) fl_b0 (fun h1 =>
  fl_td (s' := (9, [.ref 81, .int i, .int r, .null, .null, .null, .null, .null, .null, .null], [.int r], M, J)) (fl_n 1 rfl) <|
  fl_td (s' := (12, [.ref 81, .int i, .int r, .null, .null, .null, .null, .null, .null, .null], [.int (if (¬ (r < 0)) ∧ (¬ (5 < r)) then 1 else 0)], M, J)) (fl_cs (o := some (.int (if (¬ (r < 0)) ∧ (¬ (5 < r)) then 1 else 0))) rfl rfl rfl (cc_104 M J r) rfl) <|
  fl_dtwo (fl_if (t := 17) rfl rfl) fl_b1 (fun h2 =>
   fl_td (s' := (19, [.ref 81, .int i, .int r, .null, .null, .null, .null, .null, .null, .null], [.int r, .ref 81], M, J)) (fl_n 2 rfl) <|
   fl_td (s' := (22, [.ref 81, .int i, .int r, .null, .null, .null, .null, .null, .null, .null], [.int (v_170 r M)], (m_170 r M), J)) (fl_cv (o := some (.int (v_170 r M))) rfl rfl rfl rfl (cc_170 M J r) rfl) <|
   fx_gen (p := fun (MM116 : fl_M) => fl_dn fB174 (22, [.ref 81, .int i, .int r, .null, .null, .null, .null, .null, .null, .null], [.int (v_170 r M)], MM116, J) (some (.int (v_174 i r M)), (m_174 i r M), J)) (m_170 r M) (fun MM116 eMM116 =>
    fl_td (s' := (24, [.ref 81, .int i, .int r, .int (v_170 r M), .null, .null, .null, .null, .null, .null], [.int (v_170 r M)], MM116, J)) (fl_n 2 rfl) <|
    fl_dtwo (fl_if (t := 29) rfl rfl) fl_cT (fun h4 =>
     fl_td (s' := (32, [.ref 81, .int i, .int r, .int (v_170 r M), .null, .null, .null, .null, .null, .null], [.int r, .int i, .ref 81], MM116, J)) (fl_n 3 rfl) <|
     fl_td (s' := (35, [.ref 81, .int i, .int r, .int (v_170 r M), .null, .null, .null, .null, .null, .null], [.int ((lr_173_13 i r 0 MM116).1)], (fl_u ((lr_173_13 i r 0 MM116).2) 85 i.toNatClampNeg (MM116 85 i.toNatClampNeg)), J)) (fl_cv (o := some (.int ((lr_173_13 i r 0 MM116).1))) rfl rfl rfl rfl (cc_173 MM116 J i r) rfl) <|
     fx_gen (p := fun (MM117 : fl_M) => fl_dn fB174 (35, [.ref 81, .int i, .int r, .int (v_170 r M), .null, .null, .null, .null, .null, .null], [.int ((lr_173_13 i r 0 MM116).1)], MM117, J) (some (.int (v_174 i r M)), (m_174 i r M), J)) (fl_u ((lr_173_13 i r 0 MM116).2) 85 i.toNatClampNeg (MM116 85 i.toNatClampNeg)) (fun MM117 eMM117 =>
      fx_gen (p := fun (II118 : Int32) => fl_dn fB174 (35, [.ref 81, .int i, .int r, .int (v_170 r M), .null, .null, .null, .null, .null, .null], [.int II118], MM117, J) (some (.int (v_174 i r M)), (m_174 i r M), J)) ((lr_173_13 i r 0 MM116).1) (fun II118 eII118 =>
       fl_td (s' := (39, [.ref 81, .int i, .int r, .int (v_170 r M), .int II118, .null, .null, .null, .null, .null], [.int II118], MM117, J)) (fl_n 2 rfl) <|
       fl_dnot (fl_if (t := 45) rfl rfl) fl_cF (fun h6 =>
        fl_td (s' := (44, [.ref 81, .int i, .int r, .int (v_170 r M), .int II118, .null, .null, .null, .null, .null], [.int (-9)], MM117, J)) (fl_n 1 rfl) <|
        fl_rt rfl (fun _ => rfl) (by subst eMM116; subst eMM117; subst eII118; unfold v_174 m_174; first | (simp only [if_pos h1, if_pos h2, if_pos h4, if_pos h6]; done) | rfl)) (fun h6 =>
        fl_td (s' := (49, [.ref 81, .int i, .int r, .int (v_170 r M), .int II118, .null, .null, .null, .null, .null], [.int II118, .int i, .ref 81], MM117, J)) (fl_n 3 rfl) <|
        fl_td (s' := (52, [.ref 81, .int i, .int r, .int (v_170 r M), .int II118, .null, .null, .null, .null, .null], [], (fl_u (lr_175_35 i II118 (lr_175_10 MM117)) 85 i.toNatClampNeg (MM117 85 i.toNatClampNeg)), J)) (fl_cv (o := none) rfl rfl rfl rfl (cc_175 MM117 J i II118) rfl) <|
        fx_gen (p := fun (MM119 : fl_M) => fl_dn fB174 (52, [.ref 81, .int i, .int r, .int (v_170 r M), .int II118, .null, .null, .null, .null, .null], [], MM119, J) (some (.int (v_174 i r M)), (m_174 i r M), J)) (fl_u (lr_175_35 i II118 (lr_175_10 MM117)) 85 i.toNatClampNeg (MM117 85 i.toNatClampNeg)) (fun MM119 eMM119 =>
         fl_td (s' := (63, [.ref 81, .int i, .int r, .int (v_170 r M), .int II118, .int (-9), .int 99999, .int 1, .null, .null], [], MM119, J)) (fl_n 6 rfl) <|
         lp_174_63 i r (v_170 r M) II118 (-9) 99999 .null .null MM119 J (fun u122 u123 u124 =>
          fx_gen (p := fun (II125 : Int32) => fl_dn fB174 (165, [.ref 81, .int i, .int r, .int (v_170 r M), .int II118, .int II125, .int ((lr_174_63 (-9) 99999 MM119).2), u122, u123, u124], [], MM119, J) (some (.int (v_174 i r M)), (m_174 i r M), J)) ((lr_174_63 (-9) 99999 MM119).1) (fun II125 eII125 =>
           fx_gen (p := fun (II126 : Int32) => fl_dn fB174 (165, [.ref 81, .int i, .int r, .int (v_170 r M), .int II118, .int II125, .int II126, u122, u123, u124], [], MM119, J) (some (.int (v_174 i r M)), (m_174 i r M), J)) ((lr_174_63 (-9) 99999 MM119).2) (fun II126 eII126 =>
            fl_td (s' := (173, [.ref 81, .int i, .int r, .int (v_170 r M), .int II118, .int II125, .int II126, u122, u123, u124], [.int II125], (fl_u MM119 81 11 II126), J)) (fl_n 4 rfl) <|
            fl_rt rfl (fun _ => rfl) (by subst eMM116; subst eMM117; subst eII118; subst eMM119; subst eII125; subst eII126; unfold v_174 m_174; first | (simp only [if_pos h1, if_pos h2, if_pos h4, if_neg h6]; done) | rfl))))))))) (fun h4 =>
     fl_td (s' := (28, [.ref 81, .int i, .int r, .int (v_170 r M), .null, .null, .null, .null, .null, .null], [.int (v_170 r M)], MM116, J)) (fl_n 1 rfl) <|
     fl_rt rfl (fun _ => rfl) (by subst eMM116; unfold v_174 m_174; first | (simp only [if_pos h1, if_pos h2, if_neg h4]; done) | rfl)))) (fun h2 =>
   fl_td (s' := (16, [.ref 81, .int i, .int r, .null, .null, .null, .null, .null, .null, .null], [.int (-1)], M, J)) (fl_n 1 rfl) <|
   fl_rt rfl (fun _ => rfl) (by unfold v_174 m_174; first | (simp only [if_pos h1, if_neg h2]; done) | rfl))) (fun h1 =>
  fl_td (s' := (16, [.ref 81, .int i, .int r, .null, .null, .null, .null, .null, .null, .null], [.int (-1)], M, J)) (fl_n 1 rfl) <|
  fl_rt rfl (fun _ => rfl) (by unfold v_174 m_174; first | (simp only [if_neg h1]; done) | rfl))
def fB178 : sm_P := (fun pc => sm_ch sm_t178 pc, sm_Kn 3 4 none, fun x => sm_lk sm_ca3 x, some .int)
-- MiceRegistersModel.leftOf 4
def ls_178_4 (i1 : Int32) (M : fl_M) (m : Nat) (q : Int32) : Int32 := (if ((i1 >>> ((Int32.ofNat m) &&& 31)) &&& 1) = 1 then (q + (M 82 ((4 + (Int32.ofNat m)).toNatClampNeg))) else (q + 0))
def lq_178_4 (i1 i2 : Int32) (M : fl_M) (m : Nat) : Int32 := fx_it (ls_178_4 i1 M) m i2
theorem lqs_178_4 (i1 i2 : Int32) (M : fl_M) (m : Nat) : lq_178_4 i1 i2 M (m + 1) = (ls_178_4 i1 M) m (lq_178_4 i1 i2 M m) := by
  unfold lq_178_4
  exact fx_it_s _ _ _
def lr_178_4 (i1 i2 : Int32) (M : fl_M) : Int32 := (lq_178_4 i1 i2 M (((M 81 1)).toNatClampNeg))
set_option maxRecDepth 8000 in
theorem ts_178_4 {r : fl_Q} (i1 i2 i3 : Int32) (M : fl_M) (J : fl_J) (q1 : (i3 < (M 81 1)) → (((i1 >>> (i3 &&& 31)) &&& 1) = 1) → fl_dn fB178 (4, [.ref 81, .int i1, .int (i2 + (M 82 ((4 + i3).toNatClampNeg))), .int (i3 + 1)], [], M, J) r) (q2 : (i3 < (M 81 1)) → (¬ (((i1 >>> (i3 &&& 31)) &&& 1) = 1)) → fl_dn fB178 (4, [.ref 81, .int i1, .int (i2 + 0), .int (i3 + 1)], [], M, J) r) (q3 : (¬ (i3 < (M 81 1))) → fl_dn fB178 (41, [.ref 81, .int i1, .int i2, .int i3], [], M, J) r) : fl_dn fB178 (4, [.ref 81, .int i1, .int i2, .int i3], [], M, J) r :=
 fl_td (s' := (9, [.ref 81, .int i1, .int i2, .int i3], [.int (M 81 1), .int i3], M, J)) (fl_n 3 rfl) <|
 fl_dnot (fl_ic (t := 41) rfl rfl) fl_nlt (fun h1 =>
  fl_td (s' := (15, [.ref 81, .int i1, .int i2, .int i3], [.int i3, .int i1, .int i2], M, J)) (fl_n 3 rfl) <|
  fl_td (s' := (18, [.ref 81, .int i1, .int i2, .int i3], [.int (if ((i1 >>> (i3 &&& 31)) &&& 1) = 1 then 1 else 0), .int i2], M, J)) (fl_cs (o := some (.int (if ((i1 >>> (i3 &&& 31)) &&& 1) = 1 then 1 else 0))) rfl rfl rfl (cc_135 M J i1 i3) rfl) <|
  fl_dnot (fl_if (t := 32) rfl rfl) fl_b0 (fun h2 =>
   fl_td (s' := (4, [.ref 81, .int i1, .int (i2 + (M 82 ((4 + i3).toNatClampNeg))), .int (i3 + 1)], [], M, J)) (fl_n 11 rfl) <|
   (q1 h1 h2)) (fun h2 =>
   fl_td (s' := (4, [.ref 81, .int i1, .int (i2 + 0), .int (i3 + 1)], [], M, J)) (fl_n 5 rfl) <|
   (q2 h1 h2))) (fun h1 =>
  (q3 h1))
theorem lp_178_4 {r : fl_Q} (i1 i2 : Int32) (M : fl_M) (J : fl_J) (hx : ∀ w3 : Value, fl_dn fB178 (41, [.ref 81, .int i1, .int (lr_178_4 i1 i2 M), w3], [], M, J) r) : fl_dn fB178 (4, [.ref 81, .int i1, .int i2, .int 0], [], M, J) r := by
  have hb := fi_bd (M 81 1)
  have key : ∀ (n m : Nat), m + n = ((M 81 1)).toNatClampNeg → fl_dn fB178 (4, [.ref 81, .int i1, .int (lq_178_4 i1 i2 M m), .int (Int32.ofNat m)], [], M, J) r := by
    intro n
    induction n with
    | zero =>
      intro m hm
      have hm : m = ((M 81 1)).toNatClampNeg := by omega
      have hn : ¬ ((Int32.ofNat m) < (M 81 1)) := fun z => by have z := (fi_lt (by omega)).mp z; omega
      exact ts_178_4 i1 (lq_178_4 i1 i2 M m) (Int32.ofNat m) M J (fun h1 h2 => absurd h1 hn) (fun h1 h2 => absurd h1 hn) (fun h1 => (by have e : lr_178_4 i1 i2 M = lq_178_4 i1 i2 M m := (by show lq_178_4 i1 i2 M (((M 81 1)).toNatClampNeg) = _; rw [← hm]); rw [e] at hx; exact hx _))
    | succ n ih =>
      intro m hm
      have hp : (Int32.ofNat m) < (M 81 1) := by exact (fi_lt (by omega)).mpr (by omega)
      refine ts_178_4 i1 (lq_178_4 i1 i2 M m) (Int32.ofNat m) M J (fun h1 h2 => ?_) (fun h1 h2 => ?_) (fun h1 => absurd hp h1)
      · have e : lq_178_4 i1 i2 M (m + 1) = ((lq_178_4 i1 i2 M m) + (M 82 ((4 + (Int32.ofNat m)).toNatClampNeg))) := by
          rw [lqs_178_4]
          unfold ls_178_4
          simp only [if_pos h2]
        have q := ih (m + 1) (by omega)
        rw [e] at q
        first | (rw [fi_s]; exact q) | (rw [← fi_s] at q; exact q) | (simp only [fi_s] at q ⊢; exact q)
      · have e : lq_178_4 i1 i2 M (m + 1) = ((lq_178_4 i1 i2 M m) + 0) := by
          rw [lqs_178_4]
          unfold ls_178_4
          simp only [if_neg h2]
        have q := ih (m + 1) (by omega)
        rw [e] at q
        first | (rw [fi_s]; exact q) | (rw [← fi_s] at q; exact q) | (simp only [fi_s] at q ⊢; exact q)
  exact key (((M 81 1)).toNatClampNeg) 0 (Nat.zero_add _)
set_option maxRecDepth 8000 in
theorem cc_178 (M : fl_M) (J : fl_J) (s : Int32) : fl_C 178 [.ref 81, .int s] M J (some (.int (lr_178_4 s 0 M)), M, J) :=
 fl_Co (B := fB178) rfl rfl <|
 fl_td (s' := (4, [.ref 81, .int s, .int 0, .int 0], [], M, J)) (fl_n 4 rfl) <|
 lp_178_4 s 0 M J (fun u127 =>
  fx_gen (p := fun (II128 : Int32) => fl_dn fB178 (41, [.ref 81, .int s, .int II128, u127], [], M, J) (some (.int (lr_178_4 s 0 M)), M, J)) (lr_178_4 s 0 M) (fun II128 eII128 =>
   fl_td (s' := (42, [.ref 81, .int s, .int II128, u127], [.int II128], M, J)) (fl_n 1 rfl) <|
   fl_rt rfl (fun _ => rfl) (by subst eII128; rfl)))
def fB177 : sm_P := (fun pc => sm_ch sm_t177 pc, sm_Kn 3 2 none, fun x => sm_lk sm_ca3 x, some .int)
def v_177 (v : Int32) (M : fl_M) : Int32 := (if (¬ (v < 0)) ∧ (¬ (320 < v)) then (if (M 81 4) = 0 then (-4) else 0) else (-1))
set_option maxRecDepth 8000 in
theorem cc_177 (M : fl_M) (J : fl_J) (v : Int32) : fl_C 177 [.ref 81, .int v] M J (some (.int (v_177 v M)), M, J) :=
 fl_Co (B := fB177) rfl rfl <|
 fl_td (s' := (6, [.ref 81, .int v], [.long 320, .long 0, .long v.toInt64], M, J)) (fl_n 4 rfl) <|
 fl_td (s' := (9, [.ref 81, .int v], [.int (if (¬ (v < 0)) ∧ (¬ (320 < v)) then 1 else 0)], M, J)) (fl_cs (o := some (.int (if (¬ (v < 0)) ∧ (¬ (320 < v)) then 1 else 0))) rfl rfl rfl (cc_105i M J v 0 320) rfl) <|
 fl_dtwo (fl_if (t := 16) rfl rfl) fl_b1 (fun h1 =>
  fl_td (s' := (20, [.ref 81, .int v], [.int (M 81 4)], M, J)) (fl_n 2 rfl) <|
  fl_dnot (fl_if (t := 28) rfl rfl) fl_cF (fun h2 =>
   fl_td (s' := (29, [.ref 81, .int v], [.int (-4)], M, J)) (fl_n 2 rfl) <|
   fl_rt rfl (fun _ => rfl) (by unfold v_177; first | (simp only [if_pos h1, if_pos h2]; done) | rfl)) (fun h2 =>
   fl_td (s' := (29, [.ref 81, .int v], [.int 0], M, J)) (fl_n 1 rfl) <|
   fl_rt rfl (fun _ => rfl) (by unfold v_177; first | (simp only [if_pos h1, if_neg h2]; done) | rfl))) (fun h1 =>
  fl_td (s' := (29, [.ref 81, .int v], [.int (-1)], M, J)) (fl_n 2 rfl) <|
  fl_rt rfl (fun _ => rfl) (by unfold v_177; first | (simp only [if_neg h1]; done) | rfl))
def fB181 : sm_P := (fun pc => sm_ch sm_t181 pc, sm_Kn 3 5 none, fun x => sm_lk sm_ca3 x, some .int)
-- MiceRegistersModel.moreLeft 7
def ls_181_7 (m : Nat) (q : fl_M) : fl_M := (if (q 96 (Int32.ofNat m).toNatClampNeg) < (q 81 1) then (if (q 82 ((3788 + (q 96 (Int32.ofNat m).toNatClampNeg)).toNatClampNeg)) < 20 then (fl_u q 82 ((3788 + (q 96 (Int32.ofNat m).toNatClampNeg)).toNatClampNeg) ((q 82 ((3788 + (q 96 (Int32.ofNat m).toNatClampNeg)).toNatClampNeg)) + 1)) else q) else q)
def lq_181_7 (M : fl_M) (m : Nat) : fl_M := fx_it ls_181_7 m M
theorem lqs_181_7 (M : fl_M) (m : Nat) : lq_181_7 M (m + 1) = ls_181_7 m (lq_181_7 M m) := by
  unfold lq_181_7
  exact fx_it_s _ _ _
def lr_181_7 (i3 : Int32) (M : fl_M) : fl_M := (lq_181_7 M ((i3).toNatClampNeg))
set_option maxRecDepth 8000 in
theorem ts_181_7 {r : fl_Q} (i1 i2 i3 i4 : Int32) (M : fl_M) (J : fl_J) (q1 : (i4 < i3) → ((M 96 i4.toNatClampNeg) < (M 81 1)) → ((M 82 ((3788 + (M 96 i4.toNatClampNeg)).toNatClampNeg)) < 20) → fl_dn fB181 (7, [.ref 81, .int i1, .int i2, .int i3, .int (i4 + 1)], [], (fl_u M 82 ((3788 + (M 96 i4.toNatClampNeg)).toNatClampNeg) ((M 82 ((3788 + (M 96 i4.toNatClampNeg)).toNatClampNeg)) + 1)), J) r) (q2 : (i4 < i3) → ((M 96 i4.toNatClampNeg) < (M 81 1)) → (¬ ((M 82 ((3788 + (M 96 i4.toNatClampNeg)).toNatClampNeg)) < 20)) → fl_dn fB181 (7, [.ref 81, .int i1, .int i2, .int i3, .int (i4 + 1)], [], M, J) r) (q3 : (i4 < i3) → (¬ ((M 96 i4.toNatClampNeg) < (M 81 1))) → fl_dn fB181 (7, [.ref 81, .int i1, .int i2, .int i3, .int (i4 + 1)], [], M, J) r) (q4 : (¬ (i4 < i3)) → fl_dn fB181 (74, [.ref 81, .int i1, .int i2, .int i3, .int i4], [], M, J) r) : fl_dn fB181 (7, [.ref 81, .int i1, .int i2, .int i3, .int i4], [], M, J) r :=
 fl_td (s' := (10, [.ref 81, .int i1, .int i2, .int i3, .int i4], [.int i3, .int i4], M, J)) (fl_n 2 rfl) <|
 fl_dnot (fl_ic (t := 74) rfl rfl) fl_nlt (fun h1 =>
  fl_td (s' := (24, [.ref 81, .int i1, .int i2, .int i3, .int i4], [.int (M 81 1), .int (M 96 i4.toNatClampNeg)], M, J)) (fl_n 6 rfl) <|
  fl_dnot (fl_ic (t := 68) rfl rfl) fl_nlt (fun h2 =>
   fl_td (s' := (45, [.ref 81, .int i1, .int i2, .int i3, .int i4], [.int 20, .int (M 82 ((3788 + (M 96 i4.toNatClampNeg)).toNatClampNeg))], M, J)) (fl_n 10 rfl) <|
   fl_dnot (fl_ic (t := 68) rfl rfl) fl_nlt (fun h3 =>
    fl_td (s' := (7, [.ref 81, .int i1, .int i2, .int i3, .int (i4 + 1)], [], (fl_u M 82 ((3788 + (M 96 i4.toNatClampNeg)).toNatClampNeg) ((M 82 ((3788 + (M 96 i4.toNatClampNeg)).toNatClampNeg)) + 1)), J)) (fl_n 15 rfl) <|
    (q1 h1 h2 h3)) (fun h3 =>
    fl_td (s' := (7, [.ref 81, .int i1, .int i2, .int i3, .int (i4 + 1)], [], M, J)) (fl_n 2 rfl) <|
    (q2 h1 h2 h3))) (fun h2 =>
   fl_td (s' := (7, [.ref 81, .int i1, .int i2, .int i3, .int (i4 + 1)], [], M, J)) (fl_n 2 rfl) <|
   (q3 h1 h2))) (fun h1 =>
  (q4 h1))
theorem lp_181_7 {r : fl_Q} (i1 i2 i3 : Int32) (M : fl_M) (J : fl_J) (hx : ∀ w4 : Value, fl_dn fB181 (74, [.ref 81, .int i1, .int i2, .int i3, w4], [], (lr_181_7 i3 M), J) r) : fl_dn fB181 (7, [.ref 81, .int i1, .int i2, .int i3, .int 0], [], M, J) r := by
  have hb := fi_bd i3
  have key : ∀ (n m : Nat), m + n = (i3).toNatClampNeg → fl_dn fB181 (7, [.ref 81, .int i1, .int i2, .int i3, .int (Int32.ofNat m)], [], (lq_181_7 M m), J) r := by
    intro n
    induction n with
    | zero =>
      intro m hm
      have hm : m = (i3).toNatClampNeg := by omega
      have hn : ¬ ((Int32.ofNat m) < i3) := fun z => by have z := (fi_lt (by omega)).mp z; omega
      exact ts_181_7 i1 i2 i3 (Int32.ofNat m) (lq_181_7 M m) J (fun h1 h2 h3 => absurd h1 hn) (fun h1 h2 h3 => absurd h1 hn) (fun h1 h2 => absurd h1 hn) (fun h1 => (by have e : lr_181_7 i3 M = lq_181_7 M m := (by show lq_181_7 M ((i3).toNatClampNeg) = _; rw [← hm]); rw [e] at hx; exact hx _))
    | succ n ih =>
      intro m hm
      have hp : (Int32.ofNat m) < i3 := by exact (fi_lt (by omega)).mpr (by omega)
      refine ts_181_7 i1 i2 i3 (Int32.ofNat m) (lq_181_7 M m) J (fun h1 h2 h3 => ?_) (fun h1 h2 h3 => ?_) (fun h1 h2 => ?_) (fun h1 => absurd hp h1)
      · have e : lq_181_7 M (m + 1) = (fl_u (lq_181_7 M m) 82 ((3788 + ((lq_181_7 M m) 96 (Int32.ofNat m).toNatClampNeg)).toNatClampNeg) (((lq_181_7 M m) 82 ((3788 + ((lq_181_7 M m) 96 (Int32.ofNat m).toNatClampNeg)).toNatClampNeg)) + 1)) := by
          rw [lqs_181_7]
          unfold ls_181_7
          simp only [if_pos h2, if_pos h3]
        have q := ih (m + 1) (by omega)
        rw [e] at q
        first | (rw [fi_s]; exact q) | (rw [← fi_s] at q; exact q) | (simp only [fi_s] at q ⊢; exact q)
      · have e : lq_181_7 M (m + 1) = (lq_181_7 M m) := by
          rw [lqs_181_7]
          unfold ls_181_7
          simp only [if_pos h2, if_neg h3]
        have q := ih (m + 1) (by omega)
        rw [e] at q
        first | (rw [fi_s]; exact q) | (rw [← fi_s] at q; exact q) | (simp only [fi_s] at q ⊢; exact q)
      · have e : lq_181_7 M (m + 1) = (lq_181_7 M m) := by
          rw [lqs_181_7]
          unfold ls_181_7
          simp only [if_neg h2]
        have q := ih (m + 1) (by omega)
        rw [e] at q
        first | (rw [fi_s]; exact q) | (rw [← fi_s] at q; exact q) | (simp only [fi_s] at q ⊢; exact q)
  exact key ((i3).toNatClampNeg) 0 (Nat.zero_add _)
def v_181 (a b t : Int32) (M : fl_M) : Int32 := ((lr_161_2 1 (lr_181_7 t (lr_160_2 M))) 82 ((3780 + a).toNatClampNeg)) - ((lr_161_2 1 (lr_181_7 t (lr_160_2 M))) 82 ((3780 + b).toNatClampNeg))
set_option maxRecDepth 8000 in
theorem cc_181 (M : fl_M) (J : fl_J) (a b t : Int32) : fl_C 181 [.ref 81, .int a, .int b, .int t] M J (some (.int (v_181 a b t M)), (lr_161_2 1 (lr_181_7 t (lr_160_2 M))), J) :=
 fl_Co (B := fB181) rfl rfl <|
 fl_td (s' := (1, [.ref 81, .int a, .int b, .int t, .null], [.ref 81], M, J)) (fl_n 1 rfl) <|
 fl_td (s' := (4, [.ref 81, .int a, .int b, .int t, .null], [], (lr_160_2 M), J)) (fl_cv (o := none) rfl rfl rfl rfl (cc_160 M J) rfl) <|
 fx_gen (p := fun (MM129 : fl_M) => fl_dn fB181 (4, [.ref 81, .int a, .int b, .int t, .null], [], MM129, J) (some (.int (v_181 a b t M)), (lr_161_2 1 (lr_181_7 t (lr_160_2 M))), J)) (lr_160_2 M) (fun MM129 eMM129 =>
  fl_td (s' := (7, [.ref 81, .int a, .int b, .int t, .int 0], [], MM129, J)) (fl_n 2 rfl) <|
  lp_181_7 a b t MM129 J (fun u130 =>
   fx_gen (p := fun (MM131 : fl_M) => fl_dn fB181 (74, [.ref 81, .int a, .int b, .int t, u130], [], MM131, J) (some (.int (v_181 a b t M)), (lr_161_2 1 (lr_181_7 t (lr_160_2 M))), J)) (lr_181_7 t MM129) (fun MM131 eMM131 =>
    fl_td (s' := (76, [.ref 81, .int a, .int b, .int t, u130], [.int 1, .ref 81], MM131, J)) (fl_n 2 rfl) <|
    fl_td (s' := (79, [.ref 81, .int a, .int b, .int t, u130], [], (lr_161_2 1 MM131), J)) (fl_cv (o := none) rfl rfl rfl rfl (cc_161 MM131 J 1) rfl) <|
    fx_gen (p := fun (MM132 : fl_M) => fl_dn fB181 (79, [.ref 81, .int a, .int b, .int t, u130], [], MM132, J) (some (.int (v_181 a b t M)), (lr_161_2 1 (lr_181_7 t (lr_160_2 M))), J)) (lr_161_2 1 MM131) (fun MM132 eMM132 =>
     fl_td (s' := (100, [.ref 81, .int a, .int b, .int t, u130], [.int ((MM132 82 ((3780 + a).toNatClampNeg)) - (MM132 82 ((3780 + b).toNatClampNeg)))], MM132, J)) (fl_n 13 rfl) <|
     fl_rt rfl (fun _ => rfl) (by subst eMM129; subst eMM131; subst eMM132; rfl)))))
def fB182 : sm_P := (fun pc => sm_ch sm_t182 pc, sm_Kn 3 2 none, fun x => sm_lk sm_ca3 x, none)
def m_182 (t : Int32) (M : fl_M) : fl_M := (if (t - t / 2 * 2) = 0 then (fl_u (fl_u M 96 t.toNatClampNeg 0) 97 t.toNatClampNeg (-99999)) else (fl_u (fl_u M 96 t.toNatClampNeg 0) 97 t.toNatClampNeg 99999))
set_option maxRecDepth 8000 in
theorem cc_182 (M : fl_M) (J : fl_J) (t : Int32) : fl_C 182 [.ref 81, .int t] M J (none, (m_182 t M), J) :=
 fl_Co (B := fB182) rfl rfl <|
 fl_td (s' := (15, [.ref 81, .int t], [.int (t - t / 2 * 2), .int t, .ref 97], (fl_u M 96 t.toNatClampNeg 0), J)) (fl_n 11 rfl) <|
 fl_dnot (fl_if (t := 24) rfl rfl) fl_cF (fun h1 =>
  fl_td (s' := (27, [.ref 81, .int t], [], (fl_u (fl_u M 96 t.toNatClampNeg 0) 97 t.toNatClampNeg (-99999)), J)) (fl_n 3 rfl) <|
  fl_rt rfl (fun _ => rfl) (by unfold m_182; first | (simp only [if_pos h1]; done) | rfl)) (fun h1 =>
  fl_td (s' := (27, [.ref 81, .int t], [], (fl_u (fl_u M 96 t.toNatClampNeg 0) 97 t.toNatClampNeg 99999), J)) (fl_n 2 rfl) <|
  fl_rt rfl (fun _ => rfl) (by unfold m_182; first | (simp only [if_neg h1]; done) | rfl))
def fB183 : sm_P := (fun pc => sm_ch sm_t183 pc, sm_Kn 3 3 none, fun x => sm_lk sm_ca3 x, some .int)
def v_183 (t a b : Int32) : Int32 := (if (t - t / 2 * 2) = 0 then (if b < a then a else b) else (if a < b then a else b))
set_option maxRecDepth 8000 in
theorem cc_183 (M : fl_M) (J : fl_J) (t a b : Int32) : fl_C 183 [.int t, .int a, .int b] M J (some (.int (v_183 t a b)), M, J) :=
 fl_Co (B := fB183) rfl rfl <|
 fl_td (s' := (3, [.int t, .int a, .int b], [.int (t - t / 2 * 2)], M, J)) (fl_n 3 rfl) <|
 fl_dnot (fl_if (t := 19) rfl rfl) fl_cF (fun h1 =>
  fl_td (s' := (8, [.int t, .int a, .int b], [.int b, .int a], M, J)) (fl_n 2 rfl) <|
  fl_dnot (fl_ic (t := 15) rfl rfl) fl_nle (fun h2 =>
   fl_td (s' := (29, [.int t, .int a, .int b], [.int a], M, J)) (fl_n 2 rfl) <|
   fl_rt rfl (fun _ => rfl) (by unfold v_183; first | (simp only [if_pos h1, if_pos h2]; done) | rfl)) (fun h2 =>
   fl_td (s' := (29, [.int t, .int a, .int b], [.int b], M, J)) (fl_n 2 rfl) <|
   fl_rt rfl (fun _ => rfl) (by unfold v_183; first | (simp only [if_pos h1, if_neg h2]; done) | rfl))) (fun h1 =>
  fl_td (s' := (21, [.int t, .int a, .int b], [.int b, .int a], M, J)) (fl_n 2 rfl) <|
  fl_dnot (fl_ic (t := 28) rfl rfl) fl_nlt (fun h3 =>
   fl_td (s' := (29, [.int t, .int a, .int b], [.int a], M, J)) (fl_n 2 rfl) <|
   fl_rt rfl (fun _ => rfl) (by unfold v_183; first | (simp only [if_neg h1, if_pos h3]; done) | rfl)) (fun h3 =>
   fl_td (s' := (29, [.int t, .int a, .int b], [.int b], M, J)) (fl_n 1 rfl) <|
   fl_rt rfl (fun _ => rfl) (by unfold v_183; first | (simp only [if_neg h1, if_neg h3]; done) | rfl)))
def fB185 : sm_P := (fun pc => sm_ch sm_t185 pc, sm_Kn 3 6 none, fun x => sm_lk sm_ca3 x, some .long)
-- MiceRegistersModel.chancesOf 5
def ls_185_5 (i1 i2 : Int32) (m : Nat) (q : Int64) : Int64 := (if ((i1 >>> ((Int32.ofNat m) &&& 31)) &&& 1) = 1 then (q * i2.toInt64) else (q * ((12 - i2).toInt64)))
def lq_185_5 (i1 i2 : Int32) (l3 : Int64) (m : Nat) : Int64 := fx_it (ls_185_5 i1 i2) m l3
theorem lqs_185_5 (i1 i2 : Int32) (l3 : Int64) (m : Nat) : lq_185_5 i1 i2 l3 (m + 1) = (ls_185_5 i1 i2) m (lq_185_5 i1 i2 l3 m) := by
  unfold lq_185_5
  exact fx_it_s _ _ _
def lr_185_5 (i1 i2 : Int32) (l3 : Int64) (M : fl_M) : Int64 := (lq_185_5 i1 i2 l3 (((M 81 4)).toNatClampNeg))
set_option maxRecDepth 8000 in
theorem ts_185_5 {r : fl_Q} (i1 i2 i5 : Int32) (l3 : Int64) (M : fl_M) (J : fl_J) (q1 : (i5 < (M 81 4)) → (((i1 >>> (i5 &&& 31)) &&& 1) = 1) → fl_dn fB185 (5, [.ref 81, .int i1, .int i2, .long (l3 * i2.toInt64), .null, .int (i5 + 1)], [], M, J) r) (q2 : (i5 < (M 81 4)) → (¬ (((i1 >>> (i5 &&& 31)) &&& 1) = 1)) → fl_dn fB185 (5, [.ref 81, .int i1, .int i2, .long (l3 * ((12 - i2).toInt64)), .null, .int (i5 + 1)], [], M, J) r) (q3 : (¬ (i5 < (M 81 4))) → fl_dn fB185 (42, [.ref 81, .int i1, .int i2, .long l3, .null, .int i5], [], M, J) r) : fl_dn fB185 (5, [.ref 81, .int i1, .int i2, .long l3, .null, .int i5], [], M, J) r :=
 fl_td (s' := (11, [.ref 81, .int i1, .int i2, .long l3, .null, .int i5], [.int (M 81 4), .int i5], M, J)) (fl_n 3 rfl) <|
 fl_dnot (fl_ic (t := 42) rfl rfl) fl_nlt (fun h1 =>
  fl_td (s' := (18, [.ref 81, .int i1, .int i2, .long l3, .null, .int i5], [.int i5, .int i1, .long l3], M, J)) (fl_n 3 rfl) <|
  fl_td (s' := (21, [.ref 81, .int i1, .int i2, .long l3, .null, .int i5], [.int (if ((i1 >>> (i5 &&& 31)) &&& 1) = 1 then 1 else 0), .long l3], M, J)) (fl_cs (o := some (.int (if ((i1 >>> (i5 &&& 31)) &&& 1) = 1 then 1 else 0))) rfl rfl rfl (cc_135 M J i1 i5) rfl) <|
  fl_dnot (fl_if (t := 29) rfl rfl) fl_b0 (fun h2 =>
   fl_td (s' := (5, [.ref 81, .int i1, .int i2, .long (l3 * i2.toInt64), .null, .int (i5 + 1)], [], M, J)) (fl_n 7 rfl) <|
   (q1 h1 h2)) (fun h2 =>
   fl_td (s' := (5, [.ref 81, .int i1, .int i2, .long (l3 * ((12 - i2).toInt64)), .null, .int (i5 + 1)], [], M, J)) (fl_n 8 rfl) <|
   (q2 h1 h2))) (fun h1 =>
  (q3 h1))
theorem lp_185_5 {r : fl_Q} (i1 i2 : Int32) (l3 : Int64) (M : fl_M) (J : fl_J) (hx : ∀ w5 : Value, fl_dn fB185 (42, [.ref 81, .int i1, .int i2, .long (lr_185_5 i1 i2 l3 M), .null, w5], [], M, J) r) : fl_dn fB185 (5, [.ref 81, .int i1, .int i2, .long l3, .null, .int 0], [], M, J) r := by
  have hb := fi_bd (M 81 4)
  have key : ∀ (n m : Nat), m + n = ((M 81 4)).toNatClampNeg → fl_dn fB185 (5, [.ref 81, .int i1, .int i2, .long (lq_185_5 i1 i2 l3 m), .null, .int (Int32.ofNat m)], [], M, J) r := by
    intro n
    induction n with
    | zero =>
      intro m hm
      have hm : m = ((M 81 4)).toNatClampNeg := by omega
      have hn : ¬ ((Int32.ofNat m) < (M 81 4)) := fun z => by have z := (fi_lt (by omega)).mp z; omega
      exact ts_185_5 i1 i2 (Int32.ofNat m) (lq_185_5 i1 i2 l3 m) M J (fun h1 h2 => absurd h1 hn) (fun h1 h2 => absurd h1 hn) (fun h1 => (by have e : lr_185_5 i1 i2 l3 M = lq_185_5 i1 i2 l3 m := (by show lq_185_5 i1 i2 l3 (((M 81 4)).toNatClampNeg) = _; rw [← hm]); rw [e] at hx; exact hx _))
    | succ n ih =>
      intro m hm
      have hp : (Int32.ofNat m) < (M 81 4) := by exact (fi_lt (by omega)).mpr (by omega)
      refine ts_185_5 i1 i2 (Int32.ofNat m) (lq_185_5 i1 i2 l3 m) M J (fun h1 h2 => ?_) (fun h1 h2 => ?_) (fun h1 => absurd hp h1)
      · have e : lq_185_5 i1 i2 l3 (m + 1) = ((lq_185_5 i1 i2 l3 m) * i2.toInt64) := by
          rw [lqs_185_5]
          unfold ls_185_5
          simp only [if_pos h2]
        have q := ih (m + 1) (by omega)
        rw [e] at q
        first | (rw [fi_s]; exact q) | (rw [← fi_s] at q; exact q) | (simp only [fi_s] at q ⊢; exact q)
      · have e : lq_185_5 i1 i2 l3 (m + 1) = ((lq_185_5 i1 i2 l3 m) * ((12 - i2).toInt64)) := by
          rw [lqs_185_5]
          unfold ls_185_5
          simp only [if_neg h2]
        have q := ih (m + 1) (by omega)
        rw [e] at q
        first | (rw [fi_s]; exact q) | (rw [← fi_s] at q; exact q) | (simp only [fi_s] at q ⊢; exact q)
  exact key (((M 81 4)).toNatClampNeg) 0 (Nat.zero_add _)
set_option maxRecDepth 8000 in
theorem cc_185 (M : fl_M) (J : fl_J) (s p : Int32) : fl_C 185 [.ref 81, .int s, .int p] M J (some (.long (lr_185_5 s p 1 M)), M, J) :=
 fl_Co (B := fB185) rfl rfl <|
 fl_td (s' := (5, [.ref 81, .int s, .int p, .long 1, .null, .int 0], [], M, J)) (fl_n 4 rfl) <|
 lp_185_5 s p 1 M J (fun u133 =>
  fx_gen (p := fun (LL134 : Int64) => fl_dn fB185 (42, [.ref 81, .int s, .int p, .long LL134, .null, u133], [], M, J) (some (.long (lr_185_5 s p 1 M)), M, J)) (lr_185_5 s p 1 M) (fun LL134 eLL134 =>
   fl_td (s' := (43, [.ref 81, .int s, .int p, .long LL134, .null, u133], [.long LL134], M, J)) (fl_n 1 rfl) <|
   fl_rt rfl (fun _ => rfl) (by subst eLL134; rfl)))
def fB190 : sm_P := (fun pc => sm_ch sm_t190 pc, sm_Kn 3 1 none, fun x => sm_lk sm_ca3 x, some .int)
set_option maxRecDepth 8000 in
theorem cc_190 (M : fl_M) (J : fl_J) : fl_C 190 [.ref 81] M J (some (.int (M 81 11)), M, J) :=
 fl_Co (B := fB190) rfl rfl <|
 fl_td (s' := (4, [.ref 81], [.int (M 81 11)], M, J)) (fl_n 2 rfl) <|
 fl_rt rfl (fun _ => rfl) rfl
def fB191 : sm_P := (fun pc => sm_ch sm_t191 pc, sm_Kn 3 1 none, fun x => sm_lk sm_ca3 x, some .long)
set_option maxRecDepth 8000 in
theorem cc_191 (M : fl_M) (J : fl_J) : fl_C 191 [.ref 81] M J (some (.long (J 81 12)), M, J) :=
 fl_Co (B := fB191) rfl rfl <|
 fl_td (s' := (4, [.ref 81], [.long (J 81 12)], M, J)) (fl_n 2 rfl) <|
 fl_rt rfl (fun _ => rfl) rfl
def fB192 : sm_P := (fun pc => sm_ch sm_t192 pc, sm_Kn 3 1 none, fun x => sm_lk sm_ca3 x, some .long)
set_option maxRecDepth 8000 in
theorem cc_192 (M : fl_M) (J : fl_J) : fl_C 192 [.ref 81] M J (some (.long (J 81 13)), M, J) :=
 fl_Co (B := fB192) rfl rfl <|
 fl_td (s' := (4, [.ref 81], [.long (J 81 13)], M, J)) (fl_n 2 rfl) <|
 fl_rt rfl (fun _ => rfl) rfl
def fB197 : sm_P := (fun pc => sm_ch sm_t197 pc, sm_Kn 3 1 none, fun x => sm_lk sm_ca3 x, some .int)
set_option maxRecDepth 8000 in
theorem cc_197 (M : fl_M) (J : fl_J) : fl_C 197 [.ref 81] M J (some (.int (M 81 14)), M, J) :=
 fl_Co (B := fB197) rfl rfl <|
 fl_td (s' := (4, [.ref 81], [.int (M 81 14)], M, J)) (fl_n 2 rfl) <|
 fl_rt rfl (fun _ => rfl) rfl
def fB198 : sm_P := (fun pc => sm_ch sm_t198 pc, sm_Kn 3 2 none, fun x => sm_lk sm_ca3 x, some .int)
def v_198 (f : Int32) (M : fl_M) : Int32 := (if (¬ (f < 1)) ∧ (¬ (5 < f)) then M 91 f.toNatClampNeg else (-1))
set_option maxRecDepth 8000 in
theorem cc_198 (M : fl_M) (J : fl_J) (f : Int32) : fl_C 198 [.ref 81, .int f] M J (some (.int (v_198 f M)), M, J) :=
 fl_Co (B := fB198) rfl rfl <|
 fl_td (s' := (6, [.ref 81, .int f], [.long 5, .long 1, .long f.toInt64], M, J)) (fl_n 4 rfl) <|
 fl_td (s' := (9, [.ref 81, .int f], [.int (if (¬ (f < 1)) ∧ (¬ (5 < f)) then 1 else 0)], M, J)) (fl_cs (o := some (.int (if (¬ (f < 1)) ∧ (¬ (5 < f)) then 1 else 0))) rfl rfl rfl (cc_105i M J f 1 5) rfl) <|
 fl_dnot (fl_if (t := 21) rfl rfl) fl_b0 (fun h1 =>
  fl_td (s' := (22, [.ref 81, .int f], [.int (M 91 f.toNatClampNeg)], M, J)) (fl_n 5 rfl) <|
  fl_rt rfl (fun _ => rfl) (by unfold v_198; first | (simp only [if_pos h1]; done) | rfl)) (fun h1 =>
  fl_td (s' := (22, [.ref 81, .int f], [.int (-1)], M, J)) (fl_n 1 rfl) <|
  fl_rt rfl (fun _ => rfl) (by unfold v_198; first | (simp only [if_neg h1]; done) | rfl))
