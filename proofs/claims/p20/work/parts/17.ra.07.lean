theorem lp_146_4 {r : fl_Q} (i1 : Int32) (M : fl_M) (J : fl_J) (hx : ∀ w2 : Value, fl_dn fB146 (36, [.ref 81, .int (lr_146_4 i1 M), w2], [], M, J) r) : fl_dn fB146 (4, [.ref 81, .int i1, .int 0], [], M, J) r := by
  have hb := fi_bd (M 81 1)
  have key : ∀ (n m : Nat), m + n = ((M 81 1)).toNatClampNeg → fl_dn fB146 (4, [.ref 81, .int (lq_146_4 i1 M m), .int (Int32.ofNat m)], [], M, J) r := by
    intro n
    induction n with
    | zero =>
      intro m hm
      have hm : m = ((M 81 1)).toNatClampNeg := by omega
      have hn : ¬ ((Int32.ofNat m) < (M 81 1)) := fun z => by have z := (fi_lt (by omega)).mp z; omega
      exact ts_146_4 (lq_146_4 i1 M m) (Int32.ofNat m) M J (fun h1 h2 => absurd h1 hn) (fun h1 h2 => absurd h1 hn) (fun h1 => (by have e : lr_146_4 i1 M = lq_146_4 i1 M m := (by show lq_146_4 i1 M (((M 81 1)).toNatClampNeg) = _; rw [← hm]); rw [e] at hx; exact hx _))
    | succ n ih =>
      intro m hm
      have hp : (Int32.ofNat m) < (M 81 1) := by exact (fi_lt (by omega)).mpr (by omega)
      refine ts_146_4 (lq_146_4 i1 M m) (Int32.ofNat m) M J (fun h1 h2 => ?_) (fun h1 h2 => ?_) (fun h1 => absurd hp h1)
      · have e : lq_146_4 i1 M (m + 1) = ((lq_146_4 i1 M m) + 1) := by
          rw [lqs_146_4]
          unfold ls_146_4
          simp only [if_pos h2]
        have q := ih (m + 1) (by omega)
        rw [e] at q
        first | (rw [fi_s]; exact q) | (rw [← fi_s] at q; exact q) | (simp only [fi_s] at q ⊢; exact q)
      · have e : lq_146_4 i1 M (m + 1) = ((lq_146_4 i1 M m) + 0) := by
          rw [lqs_146_4]
          unfold ls_146_4
          simp only [if_neg h2]
        have q := ih (m + 1) (by omega)
        rw [e] at q
        first | (rw [fi_s]; exact q) | (rw [← fi_s] at q; exact q) | (simp only [fi_s] at q ⊢; exact q)
  exact key (((M 81 1)).toNatClampNeg) 0 (Nat.zero_add _)
set_option maxRecDepth 8000 in
theorem cc_146 (M : fl_M) (J : fl_J) : fl_C 146 [.ref 81] M J (some (.int (lr_146_4 0 M)), M, J) :=
 fl_Co (B := fB146) rfl rfl <|
 fl_td (s' := (4, [.ref 81, .int 0, .int 0], [], M, J)) (fl_n 4 rfl) <|
 lp_146_4 0 M J (fun u22 =>
  fx_gen (p := fun (II23 : Int32) => fl_dn fB146 (36, [.ref 81, .int II23, u22], [], M, J) (some (.int (lr_146_4 0 M)), M, J)) (lr_146_4 0 M) (fun II23 eII23 =>
   fl_td (s' := (37, [.ref 81, .int II23, u22], [.int II23], M, J)) (fl_n 1 rfl) <|
   fl_rt rfl (fun _ => rfl) (by subst eII23; rfl)))
def fB147 : sm_P := (fun pc => sm_ch sm_t147 pc, sm_Kn 3 3 none, fun x => sm_lk sm_ca3 x, some .int)
-- MiceRegistersModel.cheeses 4
def ls_147_4 (M : fl_M) (m : Nat) (q : Int32) : Int32 := (q + (M 82 ((12 + (Int32.ofNat m)).toNatClampNeg)))
def lq_147_4 (i1 : Int32) (M : fl_M) (m : Nat) : Int32 := fx_it (ls_147_4 M) m i1
theorem lqs_147_4 (i1 : Int32) (M : fl_M) (m : Nat) : lq_147_4 i1 M (m + 1) = (ls_147_4 M) m (lq_147_4 i1 M m) := by
  unfold lq_147_4
  exact fx_it_s _ _ _
def lr_147_4 (i1 : Int32) (M : fl_M) : Int32 := (lq_147_4 i1 M (8))
set_option maxRecDepth 8000 in
theorem ts_147_4 {r : fl_Q} (i1 i2 : Int32) (M : fl_M) (J : fl_J) (q1 : (i2 < 8) → fl_dn fB147 (4, [.ref 81, .int (i1 + (M 82 ((12 + i2).toNatClampNeg))), .int (i2 + 1)], [], M, J) r) (q2 : (¬ (i2 < 8)) → fl_dn fB147 (28, [.ref 81, .int i1, .int i2], [], M, J) r) : fl_dn fB147 (4, [.ref 81, .int i1, .int i2], [], M, J) r :=
 fl_td (s' := (7, [.ref 81, .int i1, .int i2], [.int 8, .int i2], M, J)) (fl_n 2 rfl) <|
 fl_dnot (fl_ic (t := 28) rfl rfl) fl_nlt (fun h1 =>
  fl_td (s' := (4, [.ref 81, .int (i1 + (M 82 ((12 + i2).toNatClampNeg))), .int (i2 + 1)], [], M, J)) (fl_n 11 rfl) <|
  (q1 h1)) (fun h1 =>
  (q2 h1))
theorem lp_147_4 {r : fl_Q} (i1 : Int32) (M : fl_M) (J : fl_J) (hx : ∀ w2 : Value, fl_dn fB147 (28, [.ref 81, .int (lr_147_4 i1 M), w2], [], M, J) r) : fl_dn fB147 (4, [.ref 81, .int i1, .int 0], [], M, J) r := by
  have hb : (8 : Int32).toNatClampNeg = 8 := rfl
  have key : ∀ (n m : Nat), m + n = 8 → fl_dn fB147 (4, [.ref 81, .int (lq_147_4 i1 M m), .int (Int32.ofNat m)], [], M, J) r := by
    intro n
    induction n with
    | zero =>
      intro m hm
      have hm : m = 8 := by omega
      have hn : ¬ ((Int32.ofNat m) < 8) := fun z => by have z := (fi_lt (by omega)).mp z; omega
      exact ts_147_4 (lq_147_4 i1 M m) (Int32.ofNat m) M J (fun h1 => absurd h1 hn) (fun h1 => (by have e : lr_147_4 i1 M = lq_147_4 i1 M m := (by show lq_147_4 i1 M (8) = _; rw [← hm]); rw [e] at hx; exact hx _))
    | succ n ih =>
      intro m hm
      have hp : (Int32.ofNat m) < 8 := by exact (fi_lt (by omega)).mpr (by omega)
      refine ts_147_4 (lq_147_4 i1 M m) (Int32.ofNat m) M J (fun h1 => ?_) (fun h1 => absurd hp h1)
      · have e : lq_147_4 i1 M (m + 1) = ((lq_147_4 i1 M m) + (M 82 ((12 + (Int32.ofNat m)).toNatClampNeg))) := by
          rw [lqs_147_4]
          unfold ls_147_4
          rfl
        have q := ih (m + 1) (by omega)
        rw [e] at q
        first | (rw [fi_s]; exact q) | (rw [← fi_s] at q; exact q) | (simp only [fi_s] at q ⊢; exact q)
  exact key (8) 0 (Nat.zero_add _)
set_option maxRecDepth 8000 in
theorem cc_147 (M : fl_M) (J : fl_J) : fl_C 147 [.ref 81] M J (some (.int (lr_147_4 0 M)), M, J) :=
 fl_Co (B := fB147) rfl rfl <|
 fl_td (s' := (4, [.ref 81, .int 0, .int 0], [], M, J)) (fl_n 4 rfl) <|
 lp_147_4 0 M J (fun u24 =>
  fx_gen (p := fun (II25 : Int32) => fl_dn fB147 (28, [.ref 81, .int II25, u24], [], M, J) (some (.int (lr_147_4 0 M)), M, J)) (lr_147_4 0 M) (fun II25 eII25 =>
   fl_td (s' := (29, [.ref 81, .int II25, u24], [.int II25], M, J)) (fl_n 1 rfl) <|
   fl_rt rfl (fun _ => rfl) (by subst eII25; rfl)))
def fB143 : sm_P := (fun pc => sm_ch sm_t143 pc, sm_Kn 3 3 none, fun x => sm_lk sm_ca3 x, some .int)
def v_143 (i kind : Int32) (M : fl_M) : Int32 := (if (¬ (i < 0)) ∧ (¬ ((M 81 4) - 1 < i)) then (if (¬ (kind < 1)) ∧ (¬ (5 < kind)) then (if ((M 85 i.toNatClampNeg) = kind) ∨ (((kind = 2) ∧ (((M 85 i.toNatClampNeg) = 4) ∨ ((kind = 3) ∧ ((M 85 i.toNatClampNeg) = 5)))) ∨ ((¬ (kind = 2)) ∧ ((kind = 3) ∧ ((M 85 i.toNatClampNeg) = 5)))) then (if kind = 1 then (lr_145_4 i 0 M) else (if kind = 2 then (lr_146_4 0 M) else (if kind = 3 then (((M 82 ((4 + (M 82 ((20 + i).toNatClampNeg))).toNatClampNeg)) + (v_142 i M)) - 1) / (v_142 i M) else (if kind = 4 then (M 86 i.toNatClampNeg) - (v_142 i M) else (lr_147_4 0 M))))) else (-3)) else (-1)) else (-1))
def m_143 (i kind : Int32) (M : fl_M) : fl_M := (if (¬ (i < 0)) ∧ (¬ ((M 81 4) - 1 < i)) then (if (¬ (kind < 1)) ∧ (¬ (5 < kind)) then (if ((M 85 i.toNatClampNeg) = kind) ∨ (((kind = 2) ∧ (((M 85 i.toNatClampNeg) = 4) ∨ ((kind = 3) ∧ ((M 85 i.toNatClampNeg) = 5)))) ∨ ((¬ (kind = 2)) ∧ ((kind = 3) ∧ ((M 85 i.toNatClampNeg) = 5)))) then M else (fl_u (fl_u M 81 14 3) 91 3 ((M 91 3) + 1))) else M) else M)
set_option maxRecDepth 8000 in
theorem cc_143 (M : fl_M) (J : fl_J) (i kind : Int32) : fl_C 143 [.ref 81, .int i, .int kind] M J (some (.int (v_143 i kind M)), (m_143 i kind M), J) :=
 fl_Co (B := fB143) rfl rfl <|
 fl_td (s' := (2, [.ref 81, .int i, .int kind], [.int i, .ref 81], M, J)) (fl_n 2 rfl) <|
 fl_td (s' := (5, [.ref 81, .int i, .int kind], [.int (if (¬ (i < 0)) ∧ (¬ ((M 81 4) - 1 < i)) then 1 else 0)], M, J)) (fl_cv (o := some (.int (if (¬ (i < 0)) ∧ (¬ ((M 81 4) - 1 < i)) then 1 else 0))) rfl rfl rfl rfl (cc_140 M J i) rfl) <|
 fl_dnot (fl_if (t := 20) rfl rfl) fl_b0 (fun h1 =>
  fl_td (s' := (14, [.ref 81, .int i, .int kind], [.long 5, .long 1, .long kind.toInt64], M, J)) (fl_n 4 rfl) <|
  fl_td (s' := (17, [.ref 81, .int i, .int kind], [.int (if (¬ (kind < 1)) ∧ (¬ (5 < kind)) then 1 else 0)], M, J)) (fl_cs (o := some (.int (if (¬ (kind < 1)) ∧ (¬ (5 < kind)) then 1 else 0))) rfl rfl rfl (cc_105i M J kind 1 5) rfl) <|
  fl_dtwo (fl_if (t := 22) rfl rfl) fl_b1 (fun h2 =>
   fl_td (s' := (25, [.ref 81, .int i, .int kind], [.int kind, .int i, .ref 81], M, J)) (fl_n 3 rfl) <|
   fl_td (s' := (28, [.ref 81, .int i, .int kind], [.int (if ((M 85 i.toNatClampNeg) = kind) ∨ (((kind = 2) ∧ (((M 85 i.toNatClampNeg) = 4) ∨ ((kind = 3) ∧ ((M 85 i.toNatClampNeg) = 5)))) ∨ ((¬ (kind = 2)) ∧ ((kind = 3) ∧ ((M 85 i.toNatClampNeg) = 5)))) then 1 else 0)], M, J)) (fl_cv (o := some (.int (if ((M 85 i.toNatClampNeg) = kind) ∨ (((kind = 2) ∧ (((M 85 i.toNatClampNeg) = 4) ∨ ((kind = 3) ∧ ((M 85 i.toNatClampNeg) = 5)))) ∨ ((¬ (kind = 2)) ∧ ((kind = 3) ∧ ((M 85 i.toNatClampNeg) = 5)))) then 1 else 0))) rfl rfl rfl rfl (cc_144 M J i kind) rfl) <|
   fl_dtwo (fl_if (t := 37) rfl rfl) fl_b1 (fun h3 =>
    fl_td (s' := (38, [.ref 81, .int i, .int kind], [.int kind], M, J)) (fl_n 1 rfl) <|
    fl_dc (c := kind = 1) (fun h4 =>
     fl_td (s' := (68, [.ref 81, .int i, .int kind], [], M, J)) (fl_sw h4 rfl) <|
     fl_td (s' := (70, [.ref 81, .int i, .int kind], [.int i, .ref 81], M, J)) (fl_n 2 rfl) <|
     fl_td (s' := (73, [.ref 81, .int i, .int kind], [.int (lr_145_4 i 0 M)], M, J)) (fl_cv (o := some (.int (lr_145_4 i 0 M))) rfl rfl rfl rfl (cc_145 M J i) rfl) <|
     fx_gen (p := fun (II26 : Int32) => fl_dn fB143 (73, [.ref 81, .int i, .int kind], [.int II26], M, J) (some (.int (v_143 i kind M)), (m_143 i kind M), J)) (lr_145_4 i 0 M) (fun II26 eII26 =>
      fl_rt rfl (fun _ => rfl) (by subst eII26; unfold v_143 m_143; first | (simp only [if_pos h1, if_pos h2, if_pos h3, if_pos h4]; done) | rfl))) (fun h4 =>
     fl_dc (c := kind = 2) (fun h5 =>
      fl_td (s' := (74, [.ref 81, .int i, .int kind], [], M, J)) (fl_sw h5 rfl) <|
      fl_td (s' := (75, [.ref 81, .int i, .int kind], [.ref 81], M, J)) (fl_n 1 rfl) <|
      fl_td (s' := (78, [.ref 81, .int i, .int kind], [.int (lr_146_4 0 M)], M, J)) (fl_cv (o := some (.int (lr_146_4 0 M))) rfl rfl rfl rfl (cc_146 M J) rfl) <|
      fx_gen (p := fun (II27 : Int32) => fl_dn fB143 (78, [.ref 81, .int i, .int kind], [.int II27], M, J) (some (.int (v_143 i kind M)), (m_143 i kind M), J)) (lr_146_4 0 M) (fun II27 eII27 =>
       fl_rt rfl (fun _ => rfl) (by subst eII27; unfold v_143 m_143; first | (simp only [if_pos h1, if_pos h2, if_pos h3, if_neg h4, if_pos h5]; done) | rfl))) (fun h5 =>
      fl_dc (c := kind = 3) (fun h6 =>
       fl_td (s' := (79, [.ref 81, .int i, .int kind], [], M, J)) (fl_sw h6 rfl) <|
       fl_td (s' := (97, [.ref 81, .int i, .int kind], [.int i, .ref 81, .int (M 82 ((4 + (M 82 ((20 + i).toNatClampNeg))).toNatClampNeg))], M, J)) (fl_n 13 rfl) <|
       fl_td (s' := (100, [.ref 81, .int i, .int kind], [.int (v_142 i M), .int (M 82 ((4 + (M 82 ((20 + i).toNatClampNeg))).toNatClampNeg))], M, J)) (fl_cv (o := some (.int (v_142 i M))) rfl rfl rfl rfl (cc_142 M J i) rfl) <|
       fl_td (s' := (105, [.ref 81, .int i, .int kind], [.int i, .ref 81, .int (((M 82 ((4 + (M 82 ((20 + i).toNatClampNeg))).toNatClampNeg)) + (v_142 i M)) - 1)], M, J)) (fl_n 5 rfl) <|
       fl_td (s' := (108, [.ref 81, .int i, .int kind], [.int (v_142 i M), .int (((M 82 ((4 + (M 82 ((20 + i).toNatClampNeg))).toNatClampNeg)) + (v_142 i M)) - 1)], M, J)) (fl_cv (o := some (.int (v_142 i M))) rfl rfl rfl rfl (cc_142 M J i) rfl) <|
       fl_td (s' := (109, [.ref 81, .int i, .int kind], [.int ((((M 82 ((4 + (M 82 ((20 + i).toNatClampNeg))).toNatClampNeg)) + (v_142 i M)) - 1) / (v_142 i M))], M, J)) (fl_n 1 rfl) <|
       fl_rt rfl (fun _ => rfl) (by unfold v_143 m_143; first | (simp only [if_pos h1, if_pos h2, if_pos h3, if_neg h4, if_neg h5, if_pos h6]; done) | rfl)) (fun h6 =>
       fl_dc (c := kind = 4) (fun h7 =>
        fl_td (s' := (110, [.ref 81, .int i, .int kind], [], M, J)) (fl_sw h7 rfl) <|
        fl_td (s' := (118, [.ref 81, .int i, .int kind], [.int i, .ref 81, .int (M 86 i.toNatClampNeg)], M, J)) (fl_n 6 rfl) <|
        fl_td (s' := (121, [.ref 81, .int i, .int kind], [.int (v_142 i M), .int (M 86 i.toNatClampNeg)], M, J)) (fl_cv (o := some (.int (v_142 i M))) rfl rfl rfl rfl (cc_142 M J i) rfl) <|
        fl_td (s' := (122, [.ref 81, .int i, .int kind], [.int ((M 86 i.toNatClampNeg) - (v_142 i M))], M, J)) (fl_n 1 rfl) <|
        fl_rt rfl (fun _ => rfl) (by unfold v_143 m_143; first | (simp only [if_pos h1, if_pos h2, if_pos h3, if_neg h4, if_neg h5, if_neg h6, if_pos h7]; done) | rfl)) (fun h7 =>
        fl_td (s' := (123, [.ref 81, .int i, .int kind], [], M, J)) (fl_swd rfl rfl (by have e0 := fl_ne 1 rfl h4; have e1 := fl_ne 2 rfl h5; have e2 := fl_ne 3 rfl h6; have e3 := fl_ne 4 rfl h7; omega)) <|
        fl_td (s' := (124, [.ref 81, .int i, .int kind], [.ref 81], M, J)) (fl_n 1 rfl) <|
        fl_td (s' := (127, [.ref 81, .int i, .int kind], [.int (lr_147_4 0 M)], M, J)) (fl_cv (o := some (.int (lr_147_4 0 M))) rfl rfl rfl rfl (cc_147 M J) rfl) <|
        fx_gen (p := fun (II28 : Int32) => fl_dn fB143 (127, [.ref 81, .int i, .int kind], [.int II28], M, J) (some (.int (v_143 i kind M)), (m_143 i kind M), J)) (lr_147_4 0 M) (fun II28 eII28 =>
         fl_rt rfl (fun _ => rfl) (by subst eII28; unfold v_143 m_143; first | (simp only [if_pos h1, if_pos h2, if_pos h3, if_neg h4, if_neg h5, if_neg h6, if_neg h7]; done) | rfl))))))) (fun h3 =>
    fl_td (s' := (33, [.ref 81, .int i, .int kind], [.int 3, .ref 81], M, J)) (fl_n 2 rfl) <|
    fl_td (s' := (36, [.ref 81, .int i, .int kind], [.int (-3)], (fl_u (fl_u M 81 14 3) 91 3 ((M 91 3) + 1)), J)) (fl_cv (o := some (.int (-3))) rfl rfl rfl rfl (cc_106 M J 3) rfl) <|
    fl_rt rfl (fun _ => rfl) (by unfold v_143 m_143; first | (simp only [if_pos h1, if_pos h2, if_neg h3]; done) | rfl))) (fun h2 =>
   fl_td (s' := (21, [.ref 81, .int i, .int kind], [.int (-1)], M, J)) (fl_n 1 rfl) <|
   fl_rt rfl (fun _ => rfl) (by unfold v_143 m_143; first | (simp only [if_pos h1, if_neg h2]; done) | rfl))) (fun h1 =>
  fl_td (s' := (21, [.ref 81, .int i, .int kind], [.int (-1)], M, J)) (fl_n 1 rfl) <|
  fl_rt rfl (fun _ => rfl) (by unfold v_143 m_143; first | (simp only [if_neg h1]; done) | rfl))

