def fB149 : sm_P := (fun pc => sm_ch sm_t149 pc, sm_Kn 3 2 none, fun x => sm_lk sm_ca3 x, none)
-- MiceRegistersModel.keepPast 2
def ls_149_2 (m : Nat) (q : fl_M) : fl_M := (fl_u q 82 (((24 + (23 * (q 82 0))) + (Int32.ofNat m)).toNatClampNeg) (q 82 ((1 + (Int32.ofNat m)).toNatClampNeg)))
def lq_149_2 (M : fl_M) (m : Nat) : fl_M := fx_it ls_149_2 m M
theorem lqs_149_2 (M : fl_M) (m : Nat) : lq_149_2 M (m + 1) = ls_149_2 m (lq_149_2 M m) := by
  unfold lq_149_2
  exact fx_it_s _ _ _
def lr_149_2 (M : fl_M) : fl_M := (lq_149_2 M (23))
set_option maxRecDepth 8000 in
theorem ts_149_2 {r : fl_Q} (i1 : Int32) (M : fl_M) (J : fl_J) (q1 : (i1 < 23) → fl_dn fB149 (2, [.ref 81, .int (i1 + 1)], [], (fl_u M 82 (((24 + (23 * (M 82 0))) + i1).toNatClampNeg) (M 82 ((1 + i1).toNatClampNeg))), J) r) (q2 : (¬ (i1 < 23)) → fl_dn fB149 (41, [.ref 81, .int i1], [], M, J) r) : fl_dn fB149 (2, [.ref 81, .int i1], [], M, J) r :=
 fl_td (s' := (5, [.ref 81, .int i1], [.int 23, .int i1], M, J)) (fl_n 2 rfl) <|
 fl_dnot (fl_ic (t := 41) rfl rfl) fl_nlt (fun h1 =>
  fl_td (s' := (2, [.ref 81, .int (i1 + 1)], [], (fl_u M 82 (((24 + (23 * (M 82 0))) + i1).toNatClampNeg) (M 82 ((1 + i1).toNatClampNeg))), J)) (fl_n 21 rfl) <|
  (q1 h1)) (fun h1 =>
  (q2 h1))
theorem lp_149_2 {r : fl_Q} (M : fl_M) (J : fl_J) (hx : ∀ w1 : Value, fl_dn fB149 (41, [.ref 81, w1], [], (lr_149_2 M), J) r) : fl_dn fB149 (2, [.ref 81, .int 0], [], M, J) r := by
  have hb : (23 : Int32).toNatClampNeg = 23 := rfl
  have key : ∀ (n m : Nat), m + n = 23 → fl_dn fB149 (2, [.ref 81, .int (Int32.ofNat m)], [], (lq_149_2 M m), J) r := by
    intro n
    induction n with
    | zero =>
      intro m hm
      have hm : m = 23 := by omega
      have hn : ¬ ((Int32.ofNat m) < 23) := fun z => by have z := (fi_lt (by omega)).mp z; omega
      exact ts_149_2 (Int32.ofNat m) (lq_149_2 M m) J (fun h1 => absurd h1 hn) (fun h1 => (by have e : lr_149_2 M = lq_149_2 M m := (by show lq_149_2 M (23) = _; rw [← hm]); rw [e] at hx; exact hx _))
    | succ n ih =>
      intro m hm
      have hp : (Int32.ofNat m) < 23 := by exact (fi_lt (by omega)).mpr (by omega)
      refine ts_149_2 (Int32.ofNat m) (lq_149_2 M m) J (fun h1 => ?_) (fun h1 => absurd hp h1)
      · have e : lq_149_2 M (m + 1) = (fl_u (lq_149_2 M m) 82 (((24 + (23 * ((lq_149_2 M m) 82 0))) + (Int32.ofNat m)).toNatClampNeg) ((lq_149_2 M m) 82 ((1 + (Int32.ofNat m)).toNatClampNeg))) := by
          rw [lqs_149_2]
          unfold ls_149_2
          rfl
        have q := ih (m + 1) (by omega)
        rw [e] at q
        first | (rw [fi_s]; exact q) | (rw [← fi_s] at q; exact q) | (simp only [fi_s] at q ⊢; exact q)
  exact key (23) 0 (Nat.zero_add _)
set_option maxRecDepth 8000 in
theorem cc_149 (M : fl_M) (J : fl_J) : fl_C 149 [.ref 81] M J (none, (fl_u (lr_149_2 M) 82 0 (((lr_149_2 M) 82 0) + 1)), J) :=
 fl_Co (B := fB149) rfl rfl <|
 fl_td (s' := (2, [.ref 81, .int 0], [], M, J)) (fl_n 2 rfl) <|
 lp_149_2 M J (fun u29 =>
  fx_gen (p := fun (MM30 : fl_M) => fl_dn fB149 (41, [.ref 81, u29], [], MM30, J) (none, (fl_u (lr_149_2 M) 82 0 (((lr_149_2 M) 82 0) + 1)), J)) (lr_149_2 M) (fun MM30 eMM30 =>
   fl_td (s' := (51, [.ref 81, u29], [], (fl_u MM30 82 0 ((MM30 82 0) + 1)), J)) (fl_n 8 rfl) <|
   fl_rt rfl (fun _ => rfl) (by subst eMM30; rfl)))
theorem fw_149  {M : fl_M} {c j : Nat} (g0 : ¬ c = 82) : (lr_149_2 M) c j = M c j := by
  unfold lr_149_2 lq_149_2
  refine it_k (fun q : fl_M => q c j = M c j) rfl (fun m q hq => ?_)
  unfold ls_149_2
  (try repeat' split) <;> first | with_reducible exact hq | (simp [fl_u, g0, hq]; done)
def fB148 : sm_P := (fun pc => sm_ch sm_t148 pc, sm_Kn 3 1 none, fun x => sm_lk sm_ca3 x, some .int)
def v_148 (M : fl_M) : Int32 := (if (M 81 4) = 0 then (-4) else (if (M 82 0) = 40 then (-2) else ((lr_150_5 0 0 0 (fl_u (lr_149_2 M) 82 0 (((lr_149_2 M) 82 0) + 1))).1)))
def m_148 (M : fl_M) : fl_M := (if (M 81 4) = 0 then M else (if (M 82 0) = 40 then M else (m_150 0 0 (fl_u (lr_149_2 M) 82 0 (((lr_149_2 M) 82 0) + 1)))))
set_option maxRecDepth 8000 in
theorem cc_148 (M : fl_M) (J : fl_J) : fl_C 148 [.ref 81] M J (some (.int (v_148 M)), (m_148 M), J) :=
 fl_Co (B := fB148) rfl rfl <|
 fl_td (s' := (4, [.ref 81], [.int (M 81 4)], M, J)) (fl_n 2 rfl) <|
 fl_dnot (fl_if (t := 10) rfl rfl) fl_cF (fun h1 =>
  fl_td (s' := (9, [.ref 81], [.int (-4)], M, J)) (fl_n 1 rfl) <|
  fl_rt rfl (fun _ => rfl) (by unfold v_148 m_148; first | (simp only [if_pos h1]; done) | rfl)) (fun h1 =>
  fl_td (s' := (18, [.ref 81], [.int 40, .int (M 82 0)], M, J)) (fl_n 5 rfl) <|
  fl_dnot (fl_ic (t := 24) rfl rfl) fl_cF (fun h2 =>
   fl_td (s' := (23, [.ref 81], [.int (-2)], M, J)) (fl_n 1 rfl) <|
   fl_rt rfl (fun _ => rfl) (by unfold v_148 m_148; first | (simp only [if_neg h1, if_pos h2]; done) | rfl)) (fun h2 =>
   fl_td (s' := (25, [.ref 81], [.ref 81], M, J)) (fl_n 1 rfl) <|
   fl_td (s' := (28, [.ref 81], [], (fl_u (lr_149_2 M) 82 0 (((lr_149_2 M) 82 0) + 1)), J)) (fl_cv (o := none) rfl rfl rfl rfl (cc_149 M J) rfl) <|
   fx_gen (p := fun (MM31 : fl_M) => fl_dn fB148 (28, [.ref 81], [], MM31, J) (some (.int (v_148 M)), (m_148 M), J)) (fl_u (lr_149_2 M) 82 0 (((lr_149_2 M) 82 0) + 1)) (fun MM31 eMM31 =>
    fl_td (s' := (31, [.ref 81], [.int 0, .int 0, .ref 81], MM31, J)) (fl_n 3 rfl) <|
    fl_td (s' := (34, [.ref 81], [.int ((lr_150_5 0 0 0 MM31).1)], (m_150 0 0 MM31), J)) (fl_cv (o := some (.int ((lr_150_5 0 0 0 MM31).1))) rfl rfl rfl rfl (cc_150 MM31 J 0 0) rfl) <|
    fx_gen (p := fun (MM32 : fl_M) => fl_dn fB148 (34, [.ref 81], [.int ((lr_150_5 0 0 0 MM31).1)], MM32, J) (some (.int (v_148 M)), (m_148 M), J)) (m_150 0 0 MM31) (fun MM32 eMM32 =>
     fx_gen (p := fun (II33 : Int32) => fl_dn fB148 (34, [.ref 81], [.int II33], MM32, J) (some (.int (v_148 M)), (m_148 M), J)) ((lr_150_5 0 0 0 MM31).1) (fun II33 eII33 =>
      fl_rt rfl (fun _ => rfl) (by subst eMM31; subst eMM32; subst eII33; unfold v_148 m_148; first | (simp only [if_neg h1, if_neg h2]; done) | rfl))))))
def fB151 : sm_P := (fun pc => sm_ch sm_t151 pc, sm_Kn 3 3 none, fun x => sm_lk sm_ca3 x, some .int)
def v_151 (l n : Int32) (M : fl_M) : Int32 := (if (¬ (l < 0)) ∧ (¬ ((M 81 1) - 1 < l)) then (if (¬ (n < 1)) ∧ (¬ (9 < n)) then (if 20 < ((M 82 ((12 + l).toNatClampNeg)) + n) then (-4) else (if (M 82 0) = 40 then (-2) else (fl_u (fl_u (lr_149_2 M) 82 0 (((lr_149_2 M) 82 0) + 1)) 82 ((12 + l).toNatClampNeg) (((fl_u (lr_149_2 M) 82 0 (((lr_149_2 M) 82 0) + 1)) 82 ((12 + l).toNatClampNeg)) + n)) 82 ((12 + l).toNatClampNeg))) else (-1)) else (-1))
def m_151 (l n : Int32) (M : fl_M) : fl_M := (if (¬ (l < 0)) ∧ (¬ ((M 81 1) - 1 < l)) then (if (¬ (n < 1)) ∧ (¬ (9 < n)) then (if 20 < ((M 82 ((12 + l).toNatClampNeg)) + n) then M else (if (M 82 0) = 40 then M else (fl_u (fl_u (lr_149_2 M) 82 0 (((lr_149_2 M) 82 0) + 1)) 82 ((12 + l).toNatClampNeg) (((fl_u (lr_149_2 M) 82 0 (((lr_149_2 M) 82 0) + 1)) 82 ((12 + l).toNatClampNeg)) + n)))) else M) else M)
set_option maxRecDepth 8000 in
theorem cc_151 (M : fl_M) (J : fl_J) (l n : Int32) : fl_C 151 [.ref 81, .int l, .int n] M J (some (.int (v_151 l n M)), (m_151 l n M), J) :=
 fl_Co (B := fB151) rfl rfl <|
 fl_td (s' := (2, [.ref 81, .int l, .int n], [.int l, .ref 81], M, J)) (fl_n 2 rfl) <|
 fl_td (s' := (5, [.ref 81, .int l, .int n], [.int (if (¬ (l < 0)) ∧ (¬ ((M 81 1) - 1 < l)) then 1 else 0)], M, J)) (fl_cv (o := some (.int (if (¬ (l < 0)) ∧ (¬ ((M 81 1) - 1 < l)) then 1 else 0))) rfl rfl rfl rfl (cc_131 M J l) rfl) <|
 fl_dnot (fl_if (t := 20) rfl rfl) fl_b0 (fun h1 =>
  fl_td (s' := (14, [.ref 81, .int l, .int n], [.long 9, .long 1, .long n.toInt64], M, J)) (fl_n 4 rfl) <|
  fl_td (s' := (17, [.ref 81, .int l, .int n], [.int (if (¬ (n < 1)) ∧ (¬ (9 < n)) then 1 else 0)], M, J)) (fl_cs (o := some (.int (if (¬ (n < 1)) ∧ (¬ (9 < n)) then 1 else 0))) rfl rfl rfl (cc_105i M J n 1 9) rfl) <|
  fl_dtwo (fl_if (t := 22) rfl rfl) fl_b1 (fun h2 =>
   fl_td (s' := (35, [.ref 81, .int l, .int n], [.int 20, .int ((M 82 ((12 + l).toNatClampNeg)) + n)], M, J)) (fl_n 9 rfl) <|
   fl_dnot (fl_ic (t := 41) rfl rfl) fl_nle (fun h3 =>
    fl_td (s' := (40, [.ref 81, .int l, .int n], [.int (-4)], M, J)) (fl_n 1 rfl) <|
    fl_rt rfl (fun _ => rfl) (by unfold v_151 m_151; first | (simp only [if_pos h1, if_pos h2, if_pos h3]; done) | rfl)) (fun h3 =>
    fl_td (s' := (49, [.ref 81, .int l, .int n], [.int 40, .int (M 82 0)], M, J)) (fl_n 5 rfl) <|
    fl_dnot (fl_ic (t := 55) rfl rfl) fl_cF (fun h4 =>
     fl_td (s' := (54, [.ref 81, .int l, .int n], [.int (-2)], M, J)) (fl_n 1 rfl) <|
     fl_rt rfl (fun _ => rfl) (by unfold v_151 m_151; first | (simp only [if_pos h1, if_pos h2, if_neg h3, if_pos h4]; done) | rfl)) (fun h4 =>
     fl_td (s' := (56, [.ref 81, .int l, .int n], [.ref 81], M, J)) (fl_n 1 rfl) <|
     fl_td (s' := (59, [.ref 81, .int l, .int n], [], (fl_u (lr_149_2 M) 82 0 (((lr_149_2 M) 82 0) + 1)), J)) (fl_cv (o := none) rfl rfl rfl rfl (cc_149 M J) rfl) <|
     fx_gen (p := fun (MM34 : fl_M) => fl_dn fB151 (59, [.ref 81, .int l, .int n], [], MM34, J) (some (.int (v_151 l n M)), (m_151 l n M), J)) (fl_u (lr_149_2 M) 82 0 (((lr_149_2 M) 82 0) + 1)) (fun MM34 eMM34 =>
      fl_td (s' := (81, [.ref 81, .int l, .int n], [.int ((fl_u MM34 82 ((12 + l).toNatClampNeg) ((MM34 82 ((12 + l).toNatClampNeg)) + n)) 82 ((12 + l).toNatClampNeg))], (fl_u MM34 82 ((12 + l).toNatClampNeg) ((MM34 82 ((12 + l).toNatClampNeg)) + n)), J)) (fl_n 16 rfl) <|
      fl_rt rfl (fun _ => rfl) (by subst eMM34; unfold v_151 m_151; first | (simp only [if_pos h1, if_pos h2, if_neg h3, if_neg h4]; done) | rfl))))) (fun h2 =>
   fl_td (s' := (21, [.ref 81, .int l, .int n], [.int (-1)], M, J)) (fl_n 1 rfl) <|
   fl_rt rfl (fun _ => rfl) (by unfold v_151 m_151; first | (simp only [if_pos h1, if_neg h2]; done) | rfl))) (fun h1 =>
  fl_td (s' := (21, [.ref 81, .int l, .int n], [.int (-1)], M, J)) (fl_n 1 rfl) <|
  fl_rt rfl (fun _ => rfl) (by unfold v_151 m_151; first | (simp only [if_neg h1]; done) | rfl))
def fB152 : sm_P := (fun pc => sm_ch sm_t152 pc, sm_Kn 3 3 none, fun x => sm_lk sm_ca3 x, some .int)
def v_152 (l : Int32) (M : fl_M) : Int32 := (if l = (-9) then (if (M 81 4) = 0 then (-4) else (if (M 82 2) = l then (-4) else (if (M 82 0) = 40 then (-2) else M 82 2))) else (if (¬ (l < 0)) ∧ (¬ ((M 81 1) - 1 < l)) then (if (M 81 4) = 0 then (-4) else (if (M 82 2) = l then (-4) else (if (M 82 0) = 40 then (-2) else M 82 2))) else (-1)))
def m_152 (l : Int32) (M : fl_M) : fl_M := (if l = (-9) then (if (M 81 4) = 0 then M else (if (M 82 2) = l then M else (if (M 82 0) = 40 then M else (fl_u (fl_u (lr_149_2 M) 82 0 (((lr_149_2 M) 82 0) + 1)) 82 2 l)))) else (if (¬ (l < 0)) ∧ (¬ ((M 81 1) - 1 < l)) then (if (M 81 4) = 0 then M else (if (M 82 2) = l then M else (if (M 82 0) = 40 then M else (fl_u (fl_u (lr_149_2 M) 82 0 (((lr_149_2 M) 82 0) + 1)) 82 2 l)))) else M))
set_option maxRecDepth 8000 in
theorem cc_152 (M : fl_M) (J : fl_J) (l : Int32) : fl_C 152 [.ref 81, .int l] M J (some (.int (v_152 l M)), (m_152 l M), J) :=
 fl_Co (B := fB152) rfl rfl <|
 fl_td (s' := (3, [.ref 81, .int l, .null], [.int (-9), .int l], M, J)) (fl_n 2 rfl) <|
 fl_dtwo (fl_ic (t := 16) rfl rfl) fl_cT (fun h1 =>
  fl_td (s' := (27, [.ref 81, .int l, .int (M 82 2)], [.int (M 81 4)], M, J)) (fl_n 7 rfl) <|
  fl_dtwo (fl_if (t := 35) rfl rfl) fl_cT (fun h2 =>
   fl_td (s' := (37, [.ref 81, .int l, .int (M 82 2)], [.int (-4)], M, J)) (fl_n 1 rfl) <|
   fl_rt rfl (fun _ => rfl) (by unfold v_152 m_152; first | (simp only [if_pos h1, if_pos h2]; done) | rfl)) (fun h2 =>
   fl_td (s' := (32, [.ref 81, .int l, .int (M 82 2)], [.int l, .int (M 82 2)], M, J)) (fl_n 2 rfl) <|
   fl_dnot (fl_ic (t := 38) rfl rfl) fl_cF (fun h3 =>
    fl_td (s' := (37, [.ref 81, .int l, .int (M 82 2)], [.int (-4)], M, J)) (fl_n 1 rfl) <|
    fl_rt rfl (fun _ => rfl) (by unfold v_152 m_152; first | (simp only [if_pos h1, if_neg h2, if_pos h3]; done) | rfl)) (fun h3 =>
    fl_td (s' := (46, [.ref 81, .int l, .int (M 82 2)], [.int 40, .int (M 82 0)], M, J)) (fl_n 5 rfl) <|
    fl_dnot (fl_ic (t := 52) rfl rfl) fl_cF (fun h4 =>
     fl_td (s' := (51, [.ref 81, .int l, .int (M 82 2)], [.int (-2)], M, J)) (fl_n 1 rfl) <|
     fl_rt rfl (fun _ => rfl) (by unfold v_152 m_152; first | (simp only [if_pos h1, if_neg h2, if_neg h3, if_pos h4]; done) | rfl)) (fun h4 =>
     fl_td (s' := (53, [.ref 81, .int l, .int (M 82 2)], [.ref 81], M, J)) (fl_n 1 rfl) <|
     fl_td (s' := (56, [.ref 81, .int l, .int (M 82 2)], [], (fl_u (lr_149_2 M) 82 0 (((lr_149_2 M) 82 0) + 1)), J)) (fl_cv (o := none) rfl rfl rfl rfl (cc_149 M J) rfl) <|
     fx_gen (p := fun (MM35 : fl_M) => fl_dn fB152 (56, [.ref 81, .int l, .int (M 82 2)], [], MM35, J) (some (.int (v_152 l M)), (m_152 l M), J)) (fl_u (lr_149_2 M) 82 0 (((lr_149_2 M) 82 0) + 1)) (fun MM35 eMM35 =>
      fl_td (s' := (64, [.ref 81, .int l, .int (M 82 2)], [.int (M 82 2)], (fl_u MM35 82 2 l), J)) (fl_n 6 rfl) <|
      fl_rt rfl (fun _ => rfl) (by subst eMM35; unfold v_152 m_152; first | (simp only [if_pos h1, if_neg h2, if_neg h3, if_neg h4]; done) | rfl)))))) (fun h1 =>
  fl_td (s' := (8, [.ref 81, .int l, .null], [.int l, .ref 81], M, J)) (fl_n 2 rfl) <|
  fl_td (s' := (11, [.ref 81, .int l, .null], [.int (if (¬ (l < 0)) ∧ (¬ ((M 81 1) - 1 < l)) then 1 else 0)], M, J)) (fl_cv (o := some (.int (if (¬ (l < 0)) ∧ (¬ ((M 81 1) - 1 < l)) then 1 else 0))) rfl rfl rfl rfl (cc_131 M J l) rfl) <|
  fl_dtwo (fl_if (t := 16) rfl rfl) fl_b1 (fun h6 =>
   fl_td (s' := (27, [.ref 81, .int l, .int (M 82 2)], [.int (M 81 4)], M, J)) (fl_n 7 rfl) <|
   fl_dtwo (fl_if (t := 35) rfl rfl) fl_cT (fun h7 =>
    fl_td (s' := (37, [.ref 81, .int l, .int (M 82 2)], [.int (-4)], M, J)) (fl_n 1 rfl) <|
    fl_rt rfl (fun _ => rfl) (by unfold v_152 m_152; first | (simp only [if_neg h1, if_pos h6, if_pos h7]; done) | rfl)) (fun h7 =>
    fl_td (s' := (32, [.ref 81, .int l, .int (M 82 2)], [.int l, .int (M 82 2)], M, J)) (fl_n 2 rfl) <|
    fl_dnot (fl_ic (t := 38) rfl rfl) fl_cF (fun h8 =>
     fl_td (s' := (37, [.ref 81, .int l, .int (M 82 2)], [.int (-4)], M, J)) (fl_n 1 rfl) <|
     fl_rt rfl (fun _ => rfl) (by unfold v_152 m_152; first | (simp only [if_neg h1, if_pos h6, if_neg h7, if_pos h8]; done) | rfl)) (fun h8 =>
     fl_td (s' := (46, [.ref 81, .int l, .int (M 82 2)], [.int 40, .int (M 82 0)], M, J)) (fl_n 5 rfl) <|
     fl_dnot (fl_ic (t := 52) rfl rfl) fl_cF (fun h9 =>
      fl_td (s' := (51, [.ref 81, .int l, .int (M 82 2)], [.int (-2)], M, J)) (fl_n 1 rfl) <|
      fl_rt rfl (fun _ => rfl) (by unfold v_152 m_152; first | (simp only [if_neg h1, if_pos h6, if_neg h7, if_neg h8, if_pos h9]; done) | rfl)) (fun h9 =>
      fl_td (s' := (53, [.ref 81, .int l, .int (M 82 2)], [.ref 81], M, J)) (fl_n 1 rfl) <|
      fl_td (s' := (56, [.ref 81, .int l, .int (M 82 2)], [], (fl_u (lr_149_2 M) 82 0 (((lr_149_2 M) 82 0) + 1)), J)) (fl_cv (o := none) rfl rfl rfl rfl (cc_149 M J) rfl) <|
      fx_gen (p := fun (MM36 : fl_M) => fl_dn fB152 (56, [.ref 81, .int l, .int (M 82 2)], [], MM36, J) (some (.int (v_152 l M)), (m_152 l M), J)) (fl_u (lr_149_2 M) 82 0 (((lr_149_2 M) 82 0) + 1)) (fun MM36 eMM36 =>
       fl_td (s' := (64, [.ref 81, .int l, .int (M 82 2)], [.int (M 82 2)], (fl_u MM36 82 2 l), J)) (fl_n 6 rfl) <|
       fl_rt rfl (fun _ => rfl) (by subst eMM36; unfold v_152 m_152; first | (simp only [if_neg h1, if_pos h6, if_neg h7, if_neg h8, if_neg h9]; done) | rfl)))))) (fun h6 =>
   fl_td (s' := (15, [.ref 81, .int l, .null], [.int (-1)], M, J)) (fl_n 1 rfl) <|
   fl_rt rfl (fun _ => rfl) (by unfold v_152 m_152; first | (simp only [if_neg h1, if_neg h6]; done) | rfl)))
def fB153 : sm_P := (fun pc => sm_ch sm_t153 pc, sm_Kn 3 2 none, fun x => sm_lk sm_ca3 x, some .int)
def v_153 (l : Int32) (M : fl_M) : Int32 := (if (¬ (l < 0)) ∧ (¬ ((M 81 1) - 1 < l)) then (if (M 82 0) = 40 then (-2) else ((((fl_u (lr_149_2 M) 82 0 (((lr_149_2 M) 82 0) + 1)) 82 3) ^^^ ((1 : Int32) <<< (l &&& 31))) >>> (l &&& 31)) &&& 1) else (-1))
def m_153 (l : Int32) (M : fl_M) : fl_M := (if (¬ (l < 0)) ∧ (¬ ((M 81 1) - 1 < l)) then (if (M 82 0) = 40 then M else (fl_u (fl_u (lr_149_2 M) 82 0 (((lr_149_2 M) 82 0) + 1)) 82 3 (((fl_u (lr_149_2 M) 82 0 (((lr_149_2 M) 82 0) + 1)) 82 3) ^^^ ((1 : Int32) <<< (l &&& 31))))) else M)
set_option maxRecDepth 8000 in
theorem cc_153 (M : fl_M) (J : fl_J) (l : Int32) : fl_C 153 [.ref 81, .int l] M J (some (.int (v_153 l M)), (m_153 l M), J) :=
 fl_Co (B := fB153) rfl rfl <|
 fl_td (s' := (2, [.ref 81, .int l], [.int l, .ref 81], M, J)) (fl_n 2 rfl) <|
 fl_td (s' := (5, [.ref 81, .int l], [.int (if (¬ (l < 0)) ∧ (¬ ((M 81 1) - 1 < l)) then 1 else 0)], M, J)) (fl_cv (o := some (.int (if (¬ (l < 0)) ∧ (¬ ((M 81 1) - 1 < l)) then 1 else 0))) rfl rfl rfl rfl (cc_131 M J l) rfl) <|
 fl_dtwo (fl_if (t := 10) rfl rfl) fl_b1 (fun h1 =>
  fl_td (s' := (18, [.ref 81, .int l], [.int 40, .int (M 82 0)], M, J)) (fl_n 5 rfl) <|
  fl_dnot (fl_ic (t := 24) rfl rfl) fl_cF (fun h2 =>
   fl_td (s' := (23, [.ref 81, .int l], [.int (-2)], M, J)) (fl_n 1 rfl) <|
   fl_rt rfl (fun _ => rfl) (by unfold v_153 m_153; first | (simp only [if_pos h1, if_pos h2]; done) | rfl)) (fun h2 =>
   fl_td (s' := (25, [.ref 81, .int l], [.ref 81], M, J)) (fl_n 1 rfl) <|
   fl_td (s' := (28, [.ref 81, .int l], [], (fl_u (lr_149_2 M) 82 0 (((lr_149_2 M) 82 0) + 1)), J)) (fl_cv (o := none) rfl rfl rfl rfl (cc_149 M J) rfl) <|
   fx_gen (p := fun (MM37 : fl_M) => fl_dn fB153 (28, [.ref 81, .int l], [], MM37, J) (some (.int (v_153 l M)), (m_153 l M), J)) (fl_u (lr_149_2 M) 82 0 (((lr_149_2 M) 82 0) + 1)) (fun MM37 eMM37 =>
    fl_td (s' := (50, [.ref 81, .int l], [.int ((((MM37 82 3) ^^^ ((1 : Int32) <<< (l &&& 31))) >>> (l &&& 31)) &&& 1)], (fl_u MM37 82 3 ((MM37 82 3) ^^^ ((1 : Int32) <<< (l &&& 31)))), J)) (fl_n 18 rfl) <|
    fl_rt rfl (fun _ => rfl) (by subst eMM37; unfold v_153 m_153; first | (simp only [if_pos h1, if_neg h2]; done) | rfl)))) (fun h1 =>
  fl_td (s' := (9, [.ref 81, .int l], [.int (-1)], M, J)) (fl_n 1 rfl) <|
  fl_rt rfl (fun _ => rfl) (by unfold v_153 m_153; first | (simp only [if_neg h1]; done) | rfl))
def fB154 : sm_P := (fun pc => sm_ch sm_t154 pc, sm_Kn 3 4 none, fun x => sm_lk sm_ca3 x, some .int)
-- MiceRegistersModel.undo 29
def ls_154_29 (i1 i2 : Int32) (m : Nat) (q : fl_M) : fl_M ⊕ fl_M := (if 0 < i2 then (.inr (fl_u q 82 ((1 + (Int32.ofNat m)).toNatClampNeg) (q 82 (((24 + (23 * i1)) + (Int32.ofNat m)).toNatClampNeg)))) else (.inl q))
def lq_154_29 (i1 i2 : Int32) (M : fl_M) (m : Nat) : fl_M ⊕ fl_M := fx_ix (ls_154_29 i1 i2) m M
theorem lqs_154_29 (i1 i2 : Int32) (M : fl_M) {m : Nat} {a : fl_M} {v : fl_M ⊕ fl_M} (h : lq_154_29 i1 i2 M m = .inr a) (e : (ls_154_29 i1 i2) m a = v) : lq_154_29 i1 i2 M (m + 1) = v := by
  unfold lq_154_29 at h ⊢
  exact ix_s1 h e
def lr_154_29 (i1 i2 : Int32) (M : fl_M) : fl_M := fx_ib (lq_154_29 i1 i2 M (23))
set_option maxRecDepth 8000 in
theorem ts_154_29 {r : fl_Q} (i1 i2 i3 : Int32) (M : fl_M) (J : fl_J) (q1 : (i3 < 23) → (0 < i2) → fl_dn fB154 (29, [.ref 81, .int i1, .int i2, .int (i3 + 1)], [], (fl_u M 82 ((1 + i3).toNatClampNeg) (M 82 (((24 + (23 * i1)) + i3).toNatClampNeg))), J) r) (q2 : (i3 < 23) → (¬ (0 < i2)) → fl_dn fB154 (67, [.ref 81, .int i1, .int i2, .int i3], [], M, J) r) (q3 : (¬ (i3 < 23)) → fl_dn fB154 (67, [.ref 81, .int i1, .int i2, .int i3], [], M, J) r) : fl_dn fB154 (29, [.ref 81, .int i1, .int i2, .int i3], [], M, J) r :=
 fl_td (s' := (32, [.ref 81, .int i1, .int i2, .int i3], [.int 23, .int i3], M, J)) (fl_n 2 rfl) <|
 fl_dnot (fl_ic (t := 67) rfl rfl) fl_nlt (fun h1 =>
  fl_td (s' := (36, [.ref 81, .int i1, .int i2, .int i3], [.int i2], M, J)) (fl_n 1 rfl) <|
  fl_dnot (fl_if (t := 67) rfl rfl) fl_nle (fun h2 =>
   fl_td (s' := (29, [.ref 81, .int i1, .int i2, .int (i3 + 1)], [], (fl_u M 82 ((1 + i3).toNatClampNeg) (M 82 (((24 + (23 * i1)) + i3).toNatClampNeg))), J)) (fl_n 18 rfl) <|
   (q1 h1 h2)) (fun h2 =>
   (q2 h1 h2))) (fun h1 =>
  (q3 h1))
theorem lp_154_29 {r : fl_Q} (i1 i2 : Int32) (M : fl_M) (J : fl_J) (hx : ∀ w3 : Value, fl_dn fB154 (67, [.ref 81, .int i1, .int i2, w3], [], (lr_154_29 i1 i2 M), J) r) : fl_dn fB154 (29, [.ref 81, .int i1, .int i2, .int 0], [], M, J) r := by
  have hb : (23 : Int32).toNatClampNeg = 23 := rfl
  have key : ∀ (n m : Nat) (a : fl_M) (ha : lq_154_29 i1 i2 M m = .inr a), m + n = 23 → fl_dn fB154 (29, [.ref 81, .int i1, .int i2, .int (Int32.ofNat m)], [], a, J) r := by
    intro n
    induction n with
    | zero =>
      intro m a ha hm
      have hm : m = 23 := by omega
      have hn : ¬ ((Int32.ofNat m) < 23) := fun z => by have z := (fi_lt (by omega)).mp z; omega
      exact ts_154_29 i1 i2 (Int32.ofNat m) a J (fun h1 h2 => absurd h1 hn) (fun h1 h2 => absurd h1 hn) (fun h1 => (by have e : lr_154_29 i1 i2 M = a := (by show fx_ib (lq_154_29 i1 i2 M (23)) = _; rw [← hm, ha]; rfl); rw [e] at hx; exact hx _))
    | succ n ih =>
      intro m a ha hm
      have hp : (Int32.ofNat m) < 23 := by exact (fi_lt (by omega)).mpr (by omega)
      refine ts_154_29 i1 i2 (Int32.ofNat m) a J (fun h1 h2 => ?_) (fun h1 h2 => ?_) (fun h1 => absurd hp h1)
      · have e : lq_154_29 i1 i2 M (m + 1) = .inr (fl_u a 82 ((1 + (Int32.ofNat m)).toNatClampNeg) (a 82 (((24 + (23 * i1)) + (Int32.ofNat m)).toNatClampNeg))) := lqs_154_29 i1 i2 M ha (by
          show (ls_154_29 i1 i2) m a = _
          unfold ls_154_29
          simp only [if_pos h2])
        have q := ih (m + 1) _ e (by omega)
        first | (rw [fi_s]; exact q) | (rw [← fi_s] at q; exact q) | (simp only [fi_s] at q ⊢; exact q)
      · have e : lq_154_29 i1 i2 M (m + 1) = .inl a := lqs_154_29 i1 i2 M ha (by
          show (ls_154_29 i1 i2) m a = _
          unfold ls_154_29
          simp only [if_neg h2])
        have e : lq_154_29 i1 i2 M (23) = .inl a := ix_l e (by omega)
        have e2 : lr_154_29 i1 i2 M = a := (by show fx_ib (lq_154_29 i1 i2 M (23)) = _; rw [e]; rfl)
        rw [e2] at hx
        exact hx _
  exact key (23) 0 _ rfl (Nat.zero_add _)
def v_154 (n : Int32) (M : fl_M) : Int32 := (if (¬ (n < 0)) ∧ (¬ (M 82 0 < n)) then (M 82 0) - n else (-1))
def m_154 (n : Int32) (M : fl_M) : fl_M := (if (¬ (n < 0)) ∧ (¬ (M 82 0 < n)) then (fl_u (lr_154_29 n ((M 82 0) - n) M) 82 0 n) else M)
set_option maxRecDepth 8000 in
theorem cc_154 (M : fl_M) (J : fl_J) (n : Int32) : fl_C 154 [.ref 81, .int n] M J (some (.int (v_154 n M)), (m_154 n M), J) :=
 fl_Co (B := fB154) rfl rfl <|
 fl_td (s' := (10, [.ref 81, .int n, .null, .null], [.long ((M 82 0).toInt64), .long 0, .long n.toInt64], M, J)) (fl_n 8 rfl) <|
 fl_td (s' := (13, [.ref 81, .int n, .null, .null], [.int (if (¬ (n < 0)) ∧ (¬ (M 82 0 < n)) then 1 else 0)], M, J)) (fl_cs (o := some (.int (if (¬ (n < 0)) ∧ (¬ (M 82 0 < n)) then 1 else 0))) rfl rfl rfl (cc_105i M J n 0 (M 82 0)) rfl) <|
 fl_dtwo (fl_if (t := 18) rfl rfl) fl_b1 (fun h1 =>
  fl_td (s' := (29, [.ref 81, .int n, .int ((M 82 0) - n), .int 0], [], M, J)) (fl_n 9 rfl) <|
  lp_154_29 n ((M 82 0) - n) M J (fun u38 =>
   fx_gen (p := fun (MM39 : fl_M) => fl_dn fB154 (67, [.ref 81, .int n, .int ((M 82 0) - n), u38], [], MM39, J) (some (.int (v_154 n M)), (m_154 n M), J)) (lr_154_29 n ((M 82 0) - n) M) (fun MM39 eMM39 =>
    fl_td (s' := (75, [.ref 81, .int n, .int ((M 82 0) - n), u38], [.int ((M 82 0) - n)], (fl_u MM39 82 0 n), J)) (fl_n 6 rfl) <|
    fl_rt rfl (fun _ => rfl) (by subst eMM39; unfold v_154 m_154; first | (simp only [if_pos h1]; done) | rfl)))) (fun h1 =>
  fl_td (s' := (17, [.ref 81, .int n, .null, .null], [.int (-1)], M, J)) (fl_n 1 rfl) <|
  fl_rt rfl (fun _ => rfl) (by unfold v_154 m_154; first | (simp only [if_neg h1]; done) | rfl))
def fB156 : sm_P := (fun pc => sm_ch sm_t156 pc, sm_Kn 3 4 none, fun x => sm_lk sm_ca3 x, none)
-- MiceRegistersModel.copyRegister 2
def ls_156_2 (i1 i2 : Int32) (m : Nat) (q : fl_M) : fl_M := (fl_u q 82 ((i2 + (Int32.ofNat m)).toNatClampNeg) (q 82 ((i1 + (Int32.ofNat m)).toNatClampNeg)))
def lq_156_2 (i1 i2 : Int32) (M : fl_M) (m : Nat) : fl_M := fx_it (ls_156_2 i1 i2) m M
theorem lqs_156_2 (i1 i2 : Int32) (M : fl_M) (m : Nat) : lq_156_2 i1 i2 M (m + 1) = (ls_156_2 i1 i2) m (lq_156_2 i1 i2 M m) := by
  unfold lq_156_2
  exact fx_it_s _ _ _
def lr_156_2 (i1 i2 : Int32) (M : fl_M) : fl_M := (lq_156_2 i1 i2 M (944))
set_option maxRecDepth 8000 in
theorem ts_156_2 {r : fl_Q} (i1 i2 i3 : Int32) (M : fl_M) (J : fl_J) (q1 : (i3 < 944) → fl_dn fB156 (2, [.ref 81, .int i1, .int i2, .int (i3 + 1)], [], (fl_u M 82 ((i2 + i3).toNatClampNeg) (M 82 ((i1 + i3).toNatClampNeg))), J) r) (q2 : (¬ (i3 < 944)) → fl_dn fB156 (31, [.ref 81, .int i1, .int i2, .int i3], [], M, J) r) : fl_dn fB156 (2, [.ref 81, .int i1, .int i2, .int i3], [], M, J) r :=
 fl_td (s' := (6, [.ref 81, .int i1, .int i2, .int i3], [.int 944, .int i3], M, J)) (fl_n 2 rfl) <|
 fl_dnot (fl_ic (t := 31) rfl rfl) fl_nlt (fun h1 =>
  fl_td (s' := (2, [.ref 81, .int i1, .int i2, .int (i3 + 1)], [], (fl_u M 82 ((i2 + i3).toNatClampNeg) (M 82 ((i1 + i3).toNatClampNeg))), J)) (fl_n 14 rfl) <|
  (q1 h1)) (fun h1 =>
  (q2 h1))
theorem lp_156_2 {r : fl_Q} (i1 i2 : Int32) (M : fl_M) (J : fl_J) (hx : ∀ w3 : Value, fl_dn fB156 (31, [.ref 81, .int i1, .int i2, w3], [], (lr_156_2 i1 i2 M), J) r) : fl_dn fB156 (2, [.ref 81, .int i1, .int i2, .int 0], [], M, J) r := by
  have hb : (944 : Int32).toNatClampNeg = 944 := rfl
  have key : ∀ (n m : Nat), m + n = 944 → fl_dn fB156 (2, [.ref 81, .int i1, .int i2, .int (Int32.ofNat m)], [], (lq_156_2 i1 i2 M m), J) r := by
    intro n
    induction n with
    | zero =>
      intro m hm
      have hm : m = 944 := by omega
      have hn : ¬ ((Int32.ofNat m) < 944) := fun z => by have z := (fi_lt (by omega)).mp z; omega
      exact ts_156_2 i1 i2 (Int32.ofNat m) (lq_156_2 i1 i2 M m) J (fun h1 => absurd h1 hn) (fun h1 => (by have e : lr_156_2 i1 i2 M = lq_156_2 i1 i2 M m := (by show lq_156_2 i1 i2 M (944) = _; rw [← hm]); rw [e] at hx; exact hx _))
    | succ n ih =>
      intro m hm
      have hp : (Int32.ofNat m) < 944 := by exact (fi_lt (by omega)).mpr (by omega)
      refine ts_156_2 i1 i2 (Int32.ofNat m) (lq_156_2 i1 i2 M m) J (fun h1 => ?_) (fun h1 => absurd hp h1)
      · have e : lq_156_2 i1 i2 M (m + 1) = (fl_u (lq_156_2 i1 i2 M m) 82 ((i2 + (Int32.ofNat m)).toNatClampNeg) ((lq_156_2 i1 i2 M m) 82 ((i1 + (Int32.ofNat m)).toNatClampNeg))) := by
          rw [lqs_156_2]
          unfold ls_156_2
          rfl
        have q := ih (m + 1) (by omega)
        rw [e] at q
        first | (rw [fi_s]; exact q) | (rw [← fi_s] at q; exact q) | (simp only [fi_s] at q ⊢; exact q)
  exact key (944) 0 (Nat.zero_add _)
set_option maxRecDepth 8000 in
theorem cc_156 (M : fl_M) (J : fl_J) (a b : Int32) : fl_C 156 [.ref 81, .int a, .int b] M J (none, (lr_156_2 a b M), J) :=
 fl_Co (B := fB156) rfl rfl <|
 fl_td (s' := (2, [.ref 81, .int a, .int b, .int 0], [], M, J)) (fl_n 2 rfl) <|
 lp_156_2 a b M J (fun u40 =>
  fx_gen (p := fun (MM41 : fl_M) => fl_dn fB156 (31, [.ref 81, .int a, .int b, u40], [], MM41, J) (none, (lr_156_2 a b M), J)) (lr_156_2 a b M) (fun MM41 eMM41 =>
   fl_rt rfl (fun _ => rfl) (by subst eMM41; rfl)))
theorem fw_156 {a b : Int32} {M : fl_M} {c j : Nat} (g0 : ¬ c = 82) : (lr_156_2 a b M) c j = M c j := by
  unfold lr_156_2 lq_156_2
  refine it_k (fun q : fl_M => q c j = M c j) rfl (fun m q hq => ?_)
  unfold ls_156_2
  (try repeat' split) <;> first | with_reducible exact hq | (simp [fl_u, g0, hq]; done)
def fB155 : sm_P := (fun pc => sm_ch sm_t155 pc, sm_Kn 3 2 none, fun x => sm_lk sm_ca3 x, some .int)
def v_155 (k : Int32) (M : fl_M) : Int32 := (if (¬ (k < 0)) ∧ (¬ (2 < k)) then (if (M 81 4) = 0 then (-4) else (lr_156_2 0 (944 * (1 + k)) M) 82 0) else (-1))
def m_155 (k : Int32) (M : fl_M) : fl_M := (if (¬ (k < 0)) ∧ (¬ (2 < k)) then (if (M 81 4) = 0 then M else (lr_156_2 0 (944 * (1 + k)) M)) else M)
set_option maxRecDepth 8000 in
theorem cc_155 (M : fl_M) (J : fl_J) (k : Int32) : fl_C 155 [.ref 81, .int k] M J (some (.int (v_155 k M)), (m_155 k M), J) :=
 fl_Co (B := fB155) rfl rfl <|
 fl_td (s' := (6, [.ref 81, .int k], [.long 2, .long 0, .long k.toInt64], M, J)) (fl_n 4 rfl) <|
 fl_td (s' := (9, [.ref 81, .int k], [.int (if (¬ (k < 0)) ∧ (¬ (2 < k)) then 1 else 0)], M, J)) (fl_cs (o := some (.int (if (¬ (k < 0)) ∧ (¬ (2 < k)) then 1 else 0))) rfl rfl rfl (cc_105i M J k 0 2) rfl) <|
 fl_dtwo (fl_if (t := 14) rfl rfl) fl_b1 (fun h1 =>
  fl_td (s' := (18, [.ref 81, .int k], [.int (M 81 4)], M, J)) (fl_n 2 rfl) <|
  fl_dnot (fl_if (t := 24) rfl rfl) fl_cF (fun h2 =>
   fl_td (s' := (23, [.ref 81, .int k], [.int (-4)], M, J)) (fl_n 1 rfl) <|
   fl_rt rfl (fun _ => rfl) (by unfold v_155 m_155; first | (simp only [if_pos h1, if_pos h2]; done) | rfl)) (fun h2 =>
   fl_td (s' := (33, [.ref 81, .int k], [.int (944 * (1 + k)), .int 0, .ref 81], M, J)) (fl_n 7 rfl) <|
   fl_td (s' := (36, [.ref 81, .int k], [], (lr_156_2 0 (944 * (1 + k)) M), J)) (fl_cv (o := none) rfl rfl rfl rfl (cc_156 M J 0 (944 * (1 + k))) rfl) <|
   fx_gen (p := fun (MM42 : fl_M) => fl_dn fB155 (36, [.ref 81, .int k], [], MM42, J) (some (.int (v_155 k M)), (m_155 k M), J)) (lr_156_2 0 (944 * (1 + k)) M) (fun MM42 eMM42 =>
    fl_td (s' := (42, [.ref 81, .int k], [.int (MM42 82 0)], MM42, J)) (fl_n 4 rfl) <|
    fl_rt rfl (fun _ => rfl) (by subst eMM42; unfold v_155 m_155; first | (simp only [if_pos h1, if_neg h2]; done) | rfl)))) (fun h1 =>
  fl_td (s' := (13, [.ref 81, .int k], [.int (-1)], M, J)) (fl_n 1 rfl) <|
  fl_rt rfl (fun _ => rfl) (by unfold v_155 m_155; first | (simp only [if_neg h1]; done) | rfl))
def fB157 : sm_P := (fun pc => sm_ch sm_t157 pc, sm_Kn 3 2 none, fun x => sm_lk sm_ca3 x, some .int)
def v_157 (k : Int32) (M : fl_M) : Int32 := (if (¬ (k < 0)) ∧ (¬ (2 < k)) then (if (M 82 (((944 * (1 + k)) + 0).toNatClampNeg)) < 0 then (-3) else (lr_156_2 (944 * (1 + k)) 0 M) 82 0) else (-1))
def m_157 (k : Int32) (M : fl_M) : fl_M := (if (¬ (k < 0)) ∧ (¬ (2 < k)) then (if (M 82 (((944 * (1 + k)) + 0).toNatClampNeg)) < 0 then (fl_u (fl_u M 81 14 1) 91 1 ((M 91 1) + 1)) else (lr_156_2 (944 * (1 + k)) 0 M)) else M)
set_option maxRecDepth 8000 in
theorem cc_157 (M : fl_M) (J : fl_J) (k : Int32) : fl_C 157 [.ref 81, .int k] M J (some (.int (v_157 k M)), (m_157 k M), J) :=
 fl_Co (B := fB157) rfl rfl <|
 fl_td (s' := (6, [.ref 81, .int k], [.long 2, .long 0, .long k.toInt64], M, J)) (fl_n 4 rfl) <|
 fl_td (s' := (9, [.ref 81, .int k], [.int (if (¬ (k < 0)) ∧ (¬ (2 < k)) then 1 else 0)], M, J)) (fl_cs (o := some (.int (if (¬ (k < 0)) ∧ (¬ (2 < k)) then 1 else 0))) rfl rfl rfl (cc_105i M J k 0 2) rfl) <|
 fl_dtwo (fl_if (t := 14) rfl rfl) fl_b1 (fun h1 =>
  fl_td (s' := (28, [.ref 81, .int k], [.int (M 82 (((944 * (1 + k)) + 0).toNatClampNeg))], M, J)) (fl_n 10 rfl) <|
  fl_dnot (fl_if (t := 37) rfl rfl) fl_nlt (fun h2 =>
   fl_td (s' := (33, [.ref 81, .int k], [.int 1, .ref 81], M, J)) (fl_n 2 rfl) <|
   fl_td (s' := (36, [.ref 81, .int k], [.int (-3)], (fl_u (fl_u M 81 14 1) 91 1 ((M 91 1) + 1)), J)) (fl_cv (o := some (.int (-3))) rfl rfl rfl rfl (cc_106 M J 1) rfl) <|
   fl_rt rfl (fun _ => rfl) (by unfold v_157 m_157; first | (simp only [if_pos h1, if_pos h2]; done) | rfl)) (fun h2 =>
   fl_td (s' := (46, [.ref 81, .int k], [.int 0, .int (944 * (1 + k)), .ref 81], M, J)) (fl_n 7 rfl) <|
   fl_td (s' := (49, [.ref 81, .int k], [], (lr_156_2 (944 * (1 + k)) 0 M), J)) (fl_cv (o := none) rfl rfl rfl rfl (cc_156 M J (944 * (1 + k)) 0) rfl) <|
   fx_gen (p := fun (MM43 : fl_M) => fl_dn fB157 (49, [.ref 81, .int k], [], MM43, J) (some (.int (v_157 k M)), (m_157 k M), J)) (lr_156_2 (944 * (1 + k)) 0 M) (fun MM43 eMM43 =>
    fl_td (s' := (55, [.ref 81, .int k], [.int (MM43 82 0)], MM43, J)) (fl_n 4 rfl) <|
    fl_rt rfl (fun _ => rfl) (by subst eMM43; unfold v_157 m_157; first | (simp only [if_pos h1, if_neg h2]; done) | rfl)))) (fun h1 =>
  fl_td (s' := (13, [.ref 81, .int k], [.int (-1)], M, J)) (fl_n 1 rfl) <|
  fl_rt rfl (fun _ => rfl) (by unfold v_157 m_157; first | (simp only [if_neg h1]; done) | rfl))
def fB158 : sm_P := (fun pc => sm_ch sm_t158 pc, sm_Kn 3 5 none, fun x => sm_lk sm_ca3 x, some .int)
def v_158 (i w ch far : Int32) (M : fl_M) : Int32 := (if (¬ (i < 0)) ∧ (¬ ((M 81 4) - 1 < i)) then (if (¬ (w < 0)) ∧ (¬ (9 < w)) then (if (¬ (ch < 0)) ∧ (¬ (20 < ch)) then (if (¬ (far < 0)) ∧ (¬ (7 < far)) then 1 else (-1)) else (-1)) else (-1)) else (-1))
def m_158 (i w ch far : Int32) (M : fl_M) : fl_M := (if (¬ (i < 0)) ∧ (¬ ((M 81 4) - 1 < i)) then (if (¬ (w < 0)) ∧ (¬ (9 < w)) then (if (¬ (ch < 0)) ∧ (¬ (20 < ch)) then (if (¬ (far < 0)) ∧ (¬ (7 < far)) then (fl_u M 81 11 (v_138 (M 85 i.toNatClampNeg) w ch far)) else M) else M) else M) else M)
set_option maxRecDepth 8000 in
theorem cc_158 (M : fl_M) (J : fl_J) (i w ch far : Int32) : fl_C 158 [.ref 81, .int i, .int w, .int ch, .int far] M J (some (.int (v_158 i w ch far M)), (m_158 i w ch far M), J) :=
 fl_Co (B := fB158) rfl rfl <|
 fl_td (s' := (2, [.ref 81, .int i, .int w, .int ch, .int far], [.int i, .ref 81], M, J)) (fl_n 2 rfl) <|
 fl_td (s' := (5, [.ref 81, .int i, .int w, .int ch, .int far], [.int (if (¬ (i < 0)) ∧ (¬ ((M 81 4) - 1 < i)) then 1 else 0)], M, J)) (fl_cv (o := some (.int (if (¬ (i < 0)) ∧ (¬ ((M 81 4) - 1 < i)) then 1 else 0))) rfl rfl rfl rfl (cc_140 M J i) rfl) <|
 fl_dnot (fl_if (t := 65) rfl rfl) fl_b0 (fun h1 =>
  fl_td (s' := (14, [.ref 81, .int i, .int w, .int ch, .int far], [.long 9, .long 0, .long w.toInt64], M, J)) (fl_n 4 rfl) <|
  fl_td (s' := (17, [.ref 81, .int i, .int w, .int ch, .int far], [.int (if (¬ (w < 0)) ∧ (¬ (9 < w)) then 1 else 0)], M, J)) (fl_cs (o := some (.int (if (¬ (w < 0)) ∧ (¬ (9 < w)) then 1 else 0))) rfl rfl rfl (cc_105i M J w 0 9) rfl) <|
  fl_dnot (fl_if (t := 65) rfl rfl) fl_b0 (fun h2 =>
   fl_td (s' := (26, [.ref 81, .int i, .int w, .int ch, .int far], [.long 20, .long 0, .long ch.toInt64], M, J)) (fl_n 4 rfl) <|
   fl_td (s' := (29, [.ref 81, .int i, .int w, .int ch, .int far], [.int (if (¬ (ch < 0)) ∧ (¬ (20 < ch)) then 1 else 0)], M, J)) (fl_cs (o := some (.int (if (¬ (ch < 0)) ∧ (¬ (20 < ch)) then 1 else 0))) rfl rfl rfl (cc_105i M J ch 0 20) rfl) <|
   fl_dnot (fl_if (t := 65) rfl rfl) fl_b0 (fun h3 =>
    fl_td (s' := (39, [.ref 81, .int i, .int w, .int ch, .int far], [.long 7, .long 0, .long far.toInt64], M, J)) (fl_n 4 rfl) <|
    fl_td (s' := (42, [.ref 81, .int i, .int w, .int ch, .int far], [.int (if (¬ (far < 0)) ∧ (¬ (7 < far)) then 1 else 0)], M, J)) (fl_cs (o := some (.int (if (¬ (far < 0)) ∧ (¬ (7 < far)) then 1 else 0))) rfl rfl rfl (cc_105i M J far 0 7) rfl) <|
    fl_dnot (fl_if (t := 65) rfl rfl) fl_b0 (fun h4 =>
     fl_td (s' := (56, [.ref 81, .int i, .int w, .int ch, .int far], [.int far, .int ch, .int w, .int (M 85 i.toNatClampNeg), .ref 81], M, J)) (fl_n 8 rfl) <|
     fl_td (s' := (59, [.ref 81, .int i, .int w, .int ch, .int far], [.int (v_138 (M 85 i.toNatClampNeg) w ch far), .ref 81], M, J)) (fl_cs (o := some (.int (v_138 (M 85 i.toNatClampNeg) w ch far))) rfl rfl rfl (cc_138 M J (M 85 i.toNatClampNeg) w ch far) rfl) <|
     fl_td (s' := (62, [.ref 81, .int i, .int w, .int ch, .int far], [.int 1], (fl_u M 81 11 (v_138 (M 85 i.toNatClampNeg) w ch far)), J)) (fl_cv (o := some (.int 1)) rfl rfl rfl rfl (cc_110 M J (v_138 (M 85 i.toNatClampNeg) w ch far)) rfl) <|
     fl_td (s' := (66, [.ref 81, .int i, .int w, .int ch, .int far], [.int 1], (fl_u M 81 11 (v_138 (M 85 i.toNatClampNeg) w ch far)), J)) (fl_n 1 rfl) <|
     fl_rt rfl (fun _ => rfl) (by unfold v_158 m_158; first | (simp only [if_pos h1, if_pos h2, if_pos h3, if_pos h4]; done) | rfl)) (fun h4 =>
     fl_td (s' := (66, [.ref 81, .int i, .int w, .int ch, .int far], [.int (-1)], M, J)) (fl_n 1 rfl) <|
     fl_rt rfl (fun _ => rfl) (by unfold v_158 m_158; first | (simp only [if_pos h1, if_pos h2, if_pos h3, if_neg h4]; done) | rfl))) (fun h3 =>
    fl_td (s' := (66, [.ref 81, .int i, .int w, .int ch, .int far], [.int (-1)], M, J)) (fl_n 1 rfl) <|
    fl_rt rfl (fun _ => rfl) (by unfold v_158 m_158; first | (simp only [if_pos h1, if_pos h2, if_neg h3]; done) | rfl))) (fun h2 =>
   fl_td (s' := (66, [.ref 81, .int i, .int w, .int ch, .int far], [.int (-1)], M, J)) (fl_n 1 rfl) <|
   fl_rt rfl (fun _ => rfl) (by unfold v_158 m_158; first | (simp only [if_pos h1, if_neg h2]; done) | rfl))) (fun h1 =>
  fl_td (s' := (66, [.ref 81, .int i, .int w, .int ch, .int far], [.int (-1)], M, J)) (fl_n 1 rfl) <|
  fl_rt rfl (fun _ => rfl) (by unfold v_158 m_158; first | (simp only [if_neg h1]; done) | rfl))
def fB160 : sm_P := (fun pc => sm_ch sm_t160 pc, sm_Kn 3 2 none, fun x => sm_lk sm_ca3 x, none)
-- MiceRegistersModel.layTried 2
def ls_160_2 (m : Nat) (q : fl_M) : fl_M := (fl_u q 82 ((3776 + (Int32.ofNat m)).toNatClampNeg) (q 82 (Int32.ofNat m).toNatClampNeg))
def lq_160_2 (M : fl_M) (m : Nat) : fl_M := fx_it ls_160_2 m M
theorem lqs_160_2 (M : fl_M) (m : Nat) : lq_160_2 M (m + 1) = ls_160_2 m (lq_160_2 M m) := by
  unfold lq_160_2
  exact fx_it_s _ _ _
def lr_160_2 (M : fl_M) : fl_M := (lq_160_2 M (24))
set_option maxRecDepth 8000 in
theorem ts_160_2 {r : fl_Q} (i1 : Int32) (M : fl_M) (J : fl_J) (q1 : (i1 < 24) → fl_dn fB160 (2, [.ref 81, .int (i1 + 1)], [], (fl_u M 82 ((3776 + i1).toNatClampNeg) (M 82 i1.toNatClampNeg)), J) r) (q2 : (¬ (i1 < 24)) → fl_dn fB160 (30, [.ref 81, .int i1], [], M, J) r) : fl_dn fB160 (2, [.ref 81, .int i1], [], M, J) r :=
 fl_td (s' := (5, [.ref 81, .int i1], [.int 24, .int i1], M, J)) (fl_n 2 rfl) <|
 fl_dnot (fl_ic (t := 30) rfl rfl) fl_nlt (fun h1 =>
  fl_td (s' := (2, [.ref 81, .int (i1 + 1)], [], (fl_u M 82 ((3776 + i1).toNatClampNeg) (M 82 i1.toNatClampNeg)), J)) (fl_n 12 rfl) <|
  (q1 h1)) (fun h1 =>
  (q2 h1))
theorem lp_160_2 {r : fl_Q} (M : fl_M) (J : fl_J) (hx : ∀ w1 : Value, fl_dn fB160 (30, [.ref 81, w1], [], (lr_160_2 M), J) r) : fl_dn fB160 (2, [.ref 81, .int 0], [], M, J) r := by
  have hb : (24 : Int32).toNatClampNeg = 24 := rfl
  have key : ∀ (n m : Nat), m + n = 24 → fl_dn fB160 (2, [.ref 81, .int (Int32.ofNat m)], [], (lq_160_2 M m), J) r := by
    intro n
    induction n with
    | zero =>
      intro m hm
      have hm : m = 24 := by omega
      have hn : ¬ ((Int32.ofNat m) < 24) := fun z => by have z := (fi_lt (by omega)).mp z; omega
      exact ts_160_2 (Int32.ofNat m) (lq_160_2 M m) J (fun h1 => absurd h1 hn) (fun h1 => (by have e : lr_160_2 M = lq_160_2 M m := (by show lq_160_2 M (24) = _; rw [← hm]); rw [e] at hx; exact hx _))
    | succ n ih =>
      intro m hm
      have hp : (Int32.ofNat m) < 24 := by exact (fi_lt (by omega)).mpr (by omega)
      refine ts_160_2 (Int32.ofNat m) (lq_160_2 M m) J (fun h1 => ?_) (fun h1 => absurd hp h1)
      · have e : lq_160_2 M (m + 1) = (fl_u (lq_160_2 M m) 82 ((3776 + (Int32.ofNat m)).toNatClampNeg) ((lq_160_2 M m) 82 (Int32.ofNat m).toNatClampNeg)) := by
          rw [lqs_160_2]
          unfold ls_160_2
          rfl
        have q := ih (m + 1) (by omega)
        rw [e] at q
        first | (rw [fi_s]; exact q) | (rw [← fi_s] at q; exact q) | (simp only [fi_s] at q ⊢; exact q)
  exact key (24) 0 (Nat.zero_add _)
set_option maxRecDepth 8000 in
theorem cc_160 (M : fl_M) (J : fl_J) : fl_C 160 [.ref 81] M J (none, (lr_160_2 M), J) :=
 fl_Co (B := fB160) rfl rfl <|
 fl_td (s' := (2, [.ref 81, .int 0], [], M, J)) (fl_n 2 rfl) <|
 lp_160_2 M J (fun u44 =>
  fx_gen (p := fun (MM45 : fl_M) => fl_dn fB160 (30, [.ref 81, u44], [], MM45, J) (none, (lr_160_2 M), J)) (lr_160_2 M) (fun MM45 eMM45 =>
   fl_rt rfl (fun _ => rfl) (by subst eMM45; rfl)))
def fB161 : sm_P := (fun pc => sm_ch sm_t161 pc, sm_Kn 3 3 none, fun x => sm_lk sm_ca3 x, none)
-- MiceRegistersModel.passTried 2
def ls_161_2 (m : Nat) (q : fl_M) : fl_M := (m_150 3776 0 q)
def lq_161_2 (M : fl_M) (m : Nat) : fl_M := fx_it ls_161_2 m M
theorem lqs_161_2 (M : fl_M) (m : Nat) : lq_161_2 M (m + 1) = ls_161_2 m (lq_161_2 M m) := by
  unfold lq_161_2
  exact fx_it_s _ _ _
def lr_161_2 (i1 : Int32) (M : fl_M) : fl_M := (lq_161_2 M ((i1).toNatClampNeg))
set_option maxRecDepth 8000 in
theorem ts_161_2 {r : fl_Q} (i1 i2 : Int32) (M : fl_M) (J : fl_J) (q1 : (i2 < i1) → fl_dn fB161 (2, [.ref 81, .int i1, .int (i2 + 1)], [], (m_150 3776 0 M), J) r) (q2 : (¬ (i2 < i1)) → fl_dn fB161 (22, [.ref 81, .int i1, .int i2], [], M, J) r) : fl_dn fB161 (2, [.ref 81, .int i1, .int i2], [], M, J) r :=
 fl_td (s' := (4, [.ref 81, .int i1, .int i2], [.int i1, .int i2], M, J)) (fl_n 2 rfl) <|
 fl_dnot (fl_ic (t := 22) rfl rfl) fl_nlt (fun h1 =>
  fl_td (s' := (12, [.ref 81, .int i1, .int i2], [.int 0, .int 3776, .ref 81], M, J)) (fl_n 3 rfl) <|
  fl_td (s' := (15, [.ref 81, .int i1, .int i2], [.int ((lr_150_5 3776 0 0 M).1)], (m_150 3776 0 M), J)) (fl_cv (o := some (.int ((lr_150_5 3776 0 0 M).1))) rfl rfl rfl rfl (cc_150 M J 3776 0) rfl) <|
  fx_gen (p := fun (MM46 : fl_M) => fl_dn fB161 (15, [.ref 81, .int i1, .int i2], [.int ((lr_150_5 3776 0 0 M).1)], MM46, J) r) (m_150 3776 0 M) (fun MM46 eMM46 =>
   fx_gen (p := fun (II47 : Int32) => fl_dn fB161 (15, [.ref 81, .int i1, .int i2], [.int II47], MM46, J) r) ((lr_150_5 3776 0 0 M).1) (fun II47 eII47 =>
    fl_td (s' := (2, [.ref 81, .int i1, .int (i2 + 1)], [], MM46, J)) (fl_n 3 rfl) <|
    (by subst eMM46; subst eII47; exact (q1 h1))))) (fun h1 =>
  (q2 h1))
theorem lp_161_2 {r : fl_Q} (i1 : Int32) (M : fl_M) (J : fl_J) (hx : ∀ w2 : Value, fl_dn fB161 (22, [.ref 81, .int i1, w2], [], (lr_161_2 i1 M), J) r) : fl_dn fB161 (2, [.ref 81, .int i1, .int 0], [], M, J) r := by
  have hb := fi_bd i1
  have key : ∀ (n m : Nat), m + n = (i1).toNatClampNeg → fl_dn fB161 (2, [.ref 81, .int i1, .int (Int32.ofNat m)], [], (lq_161_2 M m), J) r := by
    intro n
    induction n with
    | zero =>
      intro m hm
      have hm : m = (i1).toNatClampNeg := by omega
      have hn : ¬ ((Int32.ofNat m) < i1) := fun z => by have z := (fi_lt (by omega)).mp z; omega
      exact ts_161_2 i1 (Int32.ofNat m) (lq_161_2 M m) J (fun h1 => absurd h1 hn) (fun h1 => (by have e : lr_161_2 i1 M = lq_161_2 M m := (by show lq_161_2 M ((i1).toNatClampNeg) = _; rw [← hm]); rw [e] at hx; exact hx _))
    | succ n ih =>
      intro m hm
      have hp : (Int32.ofNat m) < i1 := by exact (fi_lt (by omega)).mpr (by omega)
      refine ts_161_2 i1 (Int32.ofNat m) (lq_161_2 M m) J (fun h1 => ?_) (fun h1 => absurd hp h1)
      · have e : lq_161_2 M (m + 1) = (m_150 3776 0 (lq_161_2 M m)) := by
          rw [lqs_161_2]
          unfold ls_161_2
          rfl
        have q := ih (m + 1) (by omega)
        rw [e] at q
        first | (rw [fi_s]; exact q) | (rw [← fi_s] at q; exact q) | (simp only [fi_s] at q ⊢; exact q)
  exact key ((i1).toNatClampNeg) 0 (Nat.zero_add _)
set_option maxRecDepth 8000 in
theorem cc_161 (M : fl_M) (J : fl_J) (n : Int32) : fl_C 161 [.ref 81, .int n] M J (none, (lr_161_2 n M), J) :=
 fl_Co (B := fB161) rfl rfl <|
 fl_td (s' := (2, [.ref 81, .int n, .int 0], [], M, J)) (fl_n 2 rfl) <|
 lp_161_2 n M J (fun u48 =>
  fx_gen (p := fun (MM49 : fl_M) => fl_dn fB161 (22, [.ref 81, .int n, u48], [], MM49, J) (none, (lr_161_2 n M), J)) (lr_161_2 n M) (fun MM49 eMM49 =>
   fl_rt rfl (fun _ => rfl) (by subst eMM49; rfl)))
theorem fw_160  {M : fl_M} {c j : Nat} (g0 : ¬ c = 82) : (lr_160_2 M) c j = M c j := by
  unfold lr_160_2 lq_160_2
  refine it_k (fun q : fl_M => q c j = M c j) rfl (fun m q hq => ?_)
  unfold ls_160_2
  (try repeat' split) <;> first | with_reducible exact hq | (simp [fl_u, g0, hq]; done)
theorem fw_161 {n : Int32} {M : fl_M} {c j : Nat} (g0 : ¬ c = 82) : (lr_161_2 n M) c j = M c j := by
  unfold lr_161_2 lq_161_2
  refine it_k (fun q : fl_M => q c j = M c j) rfl (fun m q hq => ?_)
  unfold ls_161_2
  (try repeat' split) <;> first | with_reducible exact hq | (simp [fl_u, g0, fw_150 g0, hq]; done)
def fB159 : sm_P := (fun pc => sm_ch sm_t159 pc, sm_Kn 3 3 none, fun x => sm_lk sm_ca3 x, some .int)
def v_159 (l n : Int32) (M : fl_M) : Int32 := (if (¬ (l < 0)) ∧ (¬ ((M 81 1) - 1 < l)) then (if (¬ (n < 0)) ∧ (¬ (40 < n)) then (lr_161_2 n (lr_160_2 M)) 82 ((3780 + l).toNatClampNeg) else (-1)) else (-1))
def m_159 (l n : Int32) (M : fl_M) : fl_M := (if (¬ (l < 0)) ∧ (¬ ((M 81 1) - 1 < l)) then (if (¬ (n < 0)) ∧ (¬ (40 < n)) then (lr_161_2 n (lr_160_2 M)) else M) else M)
set_option maxRecDepth 8000 in
theorem cc_159 (M : fl_M) (J : fl_J) (l n : Int32) : fl_C 159 [.ref 81, .int l, .int n] M J (some (.int (v_159 l n M)), (m_159 l n M), J) :=
 fl_Co (B := fB159) rfl rfl <|
 fl_td (s' := (2, [.ref 81, .int l, .int n], [.int l, .ref 81], M, J)) (fl_n 2 rfl) <|
 fl_td (s' := (5, [.ref 81, .int l, .int n], [.int (if (¬ (l < 0)) ∧ (¬ ((M 81 1) - 1 < l)) then 1 else 0)], M, J)) (fl_cv (o := some (.int (if (¬ (l < 0)) ∧ (¬ ((M 81 1) - 1 < l)) then 1 else 0))) rfl rfl rfl rfl (cc_131 M J l) rfl) <|
 fl_dnot (fl_if (t := 20) rfl rfl) fl_b0 (fun h1 =>
  fl_td (s' := (14, [.ref 81, .int l, .int n], [.long 40, .long 0, .long n.toInt64], M, J)) (fl_n 4 rfl) <|
  fl_td (s' := (17, [.ref 81, .int l, .int n], [.int (if (¬ (n < 0)) ∧ (¬ (40 < n)) then 1 else 0)], M, J)) (fl_cs (o := some (.int (if (¬ (n < 0)) ∧ (¬ (40 < n)) then 1 else 0))) rfl rfl rfl (cc_105i M J n 0 40) rfl) <|
  fl_dtwo (fl_if (t := 22) rfl rfl) fl_b1 (fun h2 =>
   fl_td (s' := (23, [.ref 81, .int l, .int n], [.ref 81], M, J)) (fl_n 1 rfl) <|
   fl_td (s' := (26, [.ref 81, .int l, .int n], [], (lr_160_2 M), J)) (fl_cv (o := none) rfl rfl rfl rfl (cc_160 M J) rfl) <|
   fx_gen (p := fun (MM50 : fl_M) => fl_dn fB159 (26, [.ref 81, .int l, .int n], [], MM50, J) (some (.int (v_159 l n M)), (m_159 l n M), J)) (lr_160_2 M) (fun MM50 eMM50 =>
    fl_td (s' := (28, [.ref 81, .int l, .int n], [.int n, .ref 81], MM50, J)) (fl_n 2 rfl) <|
    fl_td (s' := (31, [.ref 81, .int l, .int n], [], (lr_161_2 n MM50), J)) (fl_cv (o := none) rfl rfl rfl rfl (cc_161 MM50 J n) rfl) <|
    fx_gen (p := fun (MM51 : fl_M) => fl_dn fB159 (31, [.ref 81, .int l, .int n], [], MM51, J) (some (.int (v_159 l n M)), (m_159 l n M), J)) (lr_161_2 n MM50) (fun MM51 eMM51 =>
     fl_td (s' := (41, [.ref 81, .int l, .int n], [.int (MM51 82 ((3780 + l).toNatClampNeg))], MM51, J)) (fl_n 6 rfl) <|
     fl_rt rfl (fun _ => rfl) (by subst eMM50; subst eMM51; unfold v_159 m_159; first | (simp only [if_pos h1, if_pos h2]; done) | rfl)))) (fun h2 =>
   fl_td (s' := (21, [.ref 81, .int l, .int n], [.int (-1)], M, J)) (fl_n 1 rfl) <|
   fl_rt rfl (fun _ => rfl) (by unfold v_159 m_159; first | (simp only [if_pos h1, if_neg h2]; done) | rfl))) (fun h1 =>
  fl_td (s' := (21, [.ref 81, .int l, .int n], [.int (-1)], M, J)) (fl_n 1 rfl) <|
  fl_rt rfl (fun _ => rfl) (by unfold v_159 m_159; first | (simp only [if_neg h1]; done) | rfl))
def fB163 : sm_P := (fun pc => sm_ch sm_t163 pc, sm_Kn 3 4 none, fun x => sm_lk sm_ca3 x, some .int)
-- MiceRegistersModel.eatenAt 4
def ls_163_4 (i1 : Int32) (M : fl_M) (m : Nat) (q : Int32) : Int32 := (if (M 82 (((i1 + 4) + (Int32.ofNat m)).toNatClampNeg)) = 0 then (q ||| ((1 : Int32) <<< ((Int32.ofNat m) &&& 31))) else (q ||| 0))
def lq_163_4 (i1 i2 : Int32) (M : fl_M) (m : Nat) : Int32 := fx_it (ls_163_4 i1 M) m i2
theorem lqs_163_4 (i1 i2 : Int32) (M : fl_M) (m : Nat) : lq_163_4 i1 i2 M (m + 1) = (ls_163_4 i1 M) m (lq_163_4 i1 i2 M m) := by
  unfold lq_163_4
  exact fx_it_s _ _ _
def lr_163_4 (i1 i2 : Int32) (M : fl_M) : Int32 := (lq_163_4 i1 i2 M (((M 81 1)).toNatClampNeg))
set_option maxRecDepth 8000 in
theorem ts_163_4 {r : fl_Q} (i1 i2 i3 : Int32) (M : fl_M) (J : fl_J) (q1 : (i3 < (M 81 1)) → ((M 82 (((i1 + 4) + i3).toNatClampNeg)) = 0) → fl_dn fB163 (4, [.ref 81, .int i1, .int (i2 ||| ((1 : Int32) <<< (i3 &&& 31))), .int (i3 + 1)], [], M, J) r) (q2 : (i3 < (M 81 1)) → (¬ ((M 82 (((i1 + 4) + i3).toNatClampNeg)) = 0)) → fl_dn fB163 (4, [.ref 81, .int i1, .int (i2 ||| 0), .int (i3 + 1)], [], M, J) r) (q3 : (¬ (i3 < (M 81 1))) → fl_dn fB163 (41, [.ref 81, .int i1, .int i2, .int i3], [], M, J) r) : fl_dn fB163 (4, [.ref 81, .int i1, .int i2, .int i3], [], M, J) r :=
 fl_td (s' := (9, [.ref 81, .int i1, .int i2, .int i3], [.int (M 81 1), .int i3], M, J)) (fl_n 3 rfl) <|
 fl_dnot (fl_ic (t := 41) rfl rfl) fl_nlt (fun h1 =>
  fl_td (s' := (23, [.ref 81, .int i1, .int i2, .int i3], [.int (M 82 (((i1 + 4) + i3).toNatClampNeg)), .int i2], M, J)) (fl_n 9 rfl) <|
  fl_dnot (fl_if (t := 32) rfl rfl) fl_cF (fun h2 =>
   fl_td (s' := (4, [.ref 81, .int i1, .int (i2 ||| ((1 : Int32) <<< (i3 &&& 31))), .int (i3 + 1)], [], M, J)) (fl_n 8 rfl) <|
   (q1 h1 h2)) (fun h2 =>
   fl_td (s' := (4, [.ref 81, .int i1, .int (i2 ||| 0), .int (i3 + 1)], [], M, J)) (fl_n 5 rfl) <|
   (q2 h1 h2))) (fun h1 =>
  (q3 h1))
theorem lp_163_4 {r : fl_Q} (i1 i2 : Int32) (M : fl_M) (J : fl_J) (hx : ∀ w3 : Value, fl_dn fB163 (41, [.ref 81, .int i1, .int (lr_163_4 i1 i2 M), w3], [], M, J) r) : fl_dn fB163 (4, [.ref 81, .int i1, .int i2, .int 0], [], M, J) r := by
  have hb := fi_bd (M 81 1)
  have key : ∀ (n m : Nat), m + n = ((M 81 1)).toNatClampNeg → fl_dn fB163 (4, [.ref 81, .int i1, .int (lq_163_4 i1 i2 M m), .int (Int32.ofNat m)], [], M, J) r := by
    intro n
    induction n with
    | zero =>
      intro m hm
      have hm : m = ((M 81 1)).toNatClampNeg := by omega
      have hn : ¬ ((Int32.ofNat m) < (M 81 1)) := fun z => by have z := (fi_lt (by omega)).mp z; omega
      exact ts_163_4 i1 (lq_163_4 i1 i2 M m) (Int32.ofNat m) M J (fun h1 h2 => absurd h1 hn) (fun h1 h2 => absurd h1 hn) (fun h1 => (by have e : lr_163_4 i1 i2 M = lq_163_4 i1 i2 M m := (by show lq_163_4 i1 i2 M (((M 81 1)).toNatClampNeg) = _; rw [← hm]); rw [e] at hx; exact hx _))
    | succ n ih =>
      intro m hm
      have hp : (Int32.ofNat m) < (M 81 1) := by exact (fi_lt (by omega)).mpr (by omega)
      refine ts_163_4 i1 (lq_163_4 i1 i2 M m) (Int32.ofNat m) M J (fun h1 h2 => ?_) (fun h1 h2 => ?_) (fun h1 => absurd hp h1)
      · have e : lq_163_4 i1 i2 M (m + 1) = ((lq_163_4 i1 i2 M m) ||| ((1 : Int32) <<< ((Int32.ofNat m) &&& 31))) := by
          rw [lqs_163_4]
          unfold ls_163_4
          simp only [if_pos h2]
        have q := ih (m + 1) (by omega)
        rw [e] at q
        first | (rw [fi_s]; exact q) | (rw [← fi_s] at q; exact q) | (simp only [fi_s] at q ⊢; exact q)
      · have e : lq_163_4 i1 i2 M (m + 1) = ((lq_163_4 i1 i2 M m) ||| 0) := by
          rw [lqs_163_4]
          unfold ls_163_4
          simp only [if_neg h2]
        have q := ih (m + 1) (by omega)
        rw [e] at q
        first | (rw [fi_s]; exact q) | (rw [← fi_s] at q; exact q) | (simp only [fi_s] at q ⊢; exact q)
  exact key (((M 81 1)).toNatClampNeg) 0 (Nat.zero_add _)
set_option maxRecDepth 8000 in
theorem cc_163 (M : fl_M) (J : fl_J) (b : Int32) : fl_C 163 [.ref 81, .int b] M J (some (.int (lr_163_4 b 0 M)), M, J) :=
 fl_Co (B := fB163) rfl rfl <|
 fl_td (s' := (4, [.ref 81, .int b, .int 0, .int 0], [], M, J)) (fl_n 4 rfl) <|
 lp_163_4 b 0 M J (fun u52 =>
  fx_gen (p := fun (II53 : Int32) => fl_dn fB163 (41, [.ref 81, .int b, .int II53, u52], [], M, J) (some (.int (lr_163_4 b 0 M)), M, J)) (lr_163_4 b 0 M) (fun II53 eII53 =>
   fl_td (s' := (42, [.ref 81, .int b, .int II53, u52], [.int II53], M, J)) (fl_n 1 rfl) <|
   fl_rt rfl (fun _ => rfl) (by subst eII53; rfl)))
def fB162 : sm_P := (fun pc => sm_ch sm_t162 pc, sm_Kn 3 2 none, fun x => sm_lk sm_ca3 x, some .int)
def v_162 (n : Int32) (M : fl_M) : Int32 := (if (¬ (n < 0)) ∧ (¬ (40 < n)) then (if (M 81 4) = 0 then (-4) else (lr_163_4 3776 0 (lr_161_2 n (lr_160_2 M)))) else (-1))
def m_162 (n : Int32) (M : fl_M) : fl_M := (if (¬ (n < 0)) ∧ (¬ (40 < n)) then (if (M 81 4) = 0 then M else (lr_161_2 n (lr_160_2 M))) else M)
set_option maxRecDepth 8000 in
theorem cc_162 (M : fl_M) (J : fl_J) (n : Int32) : fl_C 162 [.ref 81, .int n] M J (some (.int (v_162 n M)), (m_162 n M), J) :=
 fl_Co (B := fB162) rfl rfl <|
 fl_td (s' := (6, [.ref 81, .int n], [.long 40, .long 0, .long n.toInt64], M, J)) (fl_n 4 rfl) <|
 fl_td (s' := (9, [.ref 81, .int n], [.int (if (¬ (n < 0)) ∧ (¬ (40 < n)) then 1 else 0)], M, J)) (fl_cs (o := some (.int (if (¬ (n < 0)) ∧ (¬ (40 < n)) then 1 else 0))) rfl rfl rfl (cc_105i M J n 0 40) rfl) <|
 fl_dtwo (fl_if (t := 14) rfl rfl) fl_b1 (fun h1 =>
  fl_td (s' := (18, [.ref 81, .int n], [.int (M 81 4)], M, J)) (fl_n 2 rfl) <|
  fl_dnot (fl_if (t := 24) rfl rfl) fl_cF (fun h2 =>
   fl_td (s' := (23, [.ref 81, .int n], [.int (-4)], M, J)) (fl_n 1 rfl) <|
   fl_rt rfl (fun _ => rfl) (by unfold v_162 m_162; first | (simp only [if_pos h1, if_pos h2]; done) | rfl)) (fun h2 =>
   fl_td (s' := (25, [.ref 81, .int n], [.ref 81], M, J)) (fl_n 1 rfl) <|
   fl_td (s' := (28, [.ref 81, .int n], [], (lr_160_2 M), J)) (fl_cv (o := none) rfl rfl rfl rfl (cc_160 M J) rfl) <|
   fx_gen (p := fun (MM54 : fl_M) => fl_dn fB162 (28, [.ref 81, .int n], [], MM54, J) (some (.int (v_162 n M)), (m_162 n M), J)) (lr_160_2 M) (fun MM54 eMM54 =>
    fl_td (s' := (30, [.ref 81, .int n], [.int n, .ref 81], MM54, J)) (fl_n 2 rfl) <|
    fl_td (s' := (33, [.ref 81, .int n], [], (lr_161_2 n MM54), J)) (fl_cv (o := none) rfl rfl rfl rfl (cc_161 MM54 J n) rfl) <|
    fx_gen (p := fun (MM55 : fl_M) => fl_dn fB162 (33, [.ref 81, .int n], [], MM55, J) (some (.int (v_162 n M)), (m_162 n M), J)) (lr_161_2 n MM54) (fun MM55 eMM55 =>
     fl_td (s' := (37, [.ref 81, .int n], [.int 3776, .ref 81], MM55, J)) (fl_n 2 rfl) <|
     fl_td (s' := (40, [.ref 81, .int n], [.int (lr_163_4 3776 0 MM55)], MM55, J)) (fl_cv (o := some (.int (lr_163_4 3776 0 MM55))) rfl rfl rfl rfl (cc_163 MM55 J 3776) rfl) <|
     fx_gen (p := fun (II56 : Int32) => fl_dn fB162 (40, [.ref 81, .int n], [.int II56], MM55, J) (some (.int (v_162 n M)), (m_162 n M), J)) (lr_163_4 3776 0 MM55) (fun II56 eII56 =>
      fl_rt rfl (fun _ => rfl) (by subst eMM54; subst eMM55; subst eII56; unfold v_162 m_162; first | (simp only [if_pos h1, if_neg h2]; done) | rfl)))))) (fun h1 =>
  fl_td (s' := (13, [.ref 81, .int n], [.int (-1)], M, J)) (fl_n 1 rfl) <|
  fl_rt rfl (fun _ => rfl) (by unfold v_162 m_162; first | (simp only [if_neg h1]; done) | rfl))
def fB164 : sm_P := (fun pc => sm_ch sm_t164 pc, sm_Kn 3 3 none, fun x => sm_lk sm_ca3 x, some .int)
-- MiceRegistersModel.when 16
def ls_164_16 (i1 : Int32) (m : Nat) (q : fl_M) : (Int32 × fl_M) ⊕ fl_M := (if (q 82 ((3780 + i1).toNatClampNeg)) = 0 then (.inl ((Int32.ofNat m), q)) else (.inr (lr_161_2 1 q)))
def lq_164_16 (i1 : Int32) (M : fl_M) (m : Nat) : (Int32 × fl_M) ⊕ fl_M := fx_ix (ls_164_16 i1) m M
theorem lqs_164_16 (i1 : Int32) (M : fl_M) {m : Nat} {a : fl_M} {v : (Int32 × fl_M) ⊕ fl_M} (h : lq_164_16 i1 M m = .inr a) (e : (ls_164_16 i1) m a = v) : lq_164_16 i1 M (m + 1) = v := by
  unfold lq_164_16 at h ⊢
  exact ix_s1 h e
def lr_164_16 (i1 : Int32) (M : fl_M) : (Int32 × fl_M) ⊕ fl_M := (lq_164_16 i1 M (41))
set_option maxRecDepth 8000 in
theorem ts_164_16 {r : fl_Q} (i1 i2 : Int32) (M : fl_M) (J : fl_J) (e1 : (i2 < 41) → ((M 82 ((3780 + i1).toNatClampNeg)) = 0) → (some (.int i2), M, J) = r) (q1 : (i2 < 41) → (¬ ((M 82 ((3780 + i1).toNatClampNeg)) = 0)) → fl_dn fB164 (16, [.ref 81, .int i1, .int (i2 + 1)], [], (lr_161_2 1 M), J) r) (q2 : (¬ (i2 < 41)) → fl_dn fB164 (48, [.ref 81, .int i1, .int i2], [], M, J) r) : fl_dn fB164 (16, [.ref 81, .int i1, .int i2], [], M, J) r :=
 fl_td (s' := (19, [.ref 81, .int i1, .int i2], [.int 41, .int i2], M, J)) (fl_n 2 rfl) <|
 fl_dnot (fl_ic (t := 48) rfl rfl) fl_nlt (fun h1 =>
  fl_td (s' := (32, [.ref 81, .int i1, .int i2], [.int (M 82 ((3780 + i1).toNatClampNeg))], M, J)) (fl_n 6 rfl) <|
  fl_dnot (fl_if (t := 37) rfl rfl) fl_cF (fun h2 =>
   fl_td (s' := (36, [.ref 81, .int i1, .int i2], [.int i2], M, J)) (fl_n 1 rfl) <|
   fl_rt rfl (fun _ => rfl) (e1 h1 h2)) (fun h2 =>
   fl_td (s' := (39, [.ref 81, .int i1, .int i2], [.int 1, .ref 81], M, J)) (fl_n 2 rfl) <|
   fl_td (s' := (42, [.ref 81, .int i1, .int i2], [], (lr_161_2 1 M), J)) (fl_cv (o := none) rfl rfl rfl rfl (cc_161 M J 1) rfl) <|
   fx_gen (p := fun (MM58 : fl_M) => fl_dn fB164 (42, [.ref 81, .int i1, .int i2], [], MM58, J) r) (lr_161_2 1 M) (fun MM58 eMM58 =>
    fl_td (s' := (16, [.ref 81, .int i1, .int (i2 + 1)], [], MM58, J)) (fl_n 2 rfl) <|
    (by subst eMM58; exact (q1 h1 h2))))) (fun h1 =>
  (q2 h1))
theorem lp_164_16 {r : fl_Q} (i1 : Int32) (M : fl_M) (J : fl_J) (hq : ∀ c, lr_164_16 i1 M = .inl c → (some (.int c.1), c.2, J) = r) (hx : ∀ a, lr_164_16 i1 M = .inr a → ∀ w2 : Value, fl_dn fB164 (48, [.ref 81, .int i1, w2], [], a, J) r) : fl_dn fB164 (16, [.ref 81, .int i1, .int 0], [], M, J) r := by
  have hb : (41 : Int32).toNatClampNeg = 41 := rfl
  have key : ∀ (n m : Nat) (a : fl_M) (ha : lq_164_16 i1 M m = .inr a), m + n = 41 → fl_dn fB164 (16, [.ref 81, .int i1, .int (Int32.ofNat m)], [], a, J) r := by
    intro n
    induction n with
    | zero =>
      intro m a ha hm
      have hm : m = 41 := by omega
      have hn : ¬ ((Int32.ofNat m) < 41) := fun z => by have z := (fi_lt (by omega)).mp z; omega
      exact ts_164_16 i1 (Int32.ofNat m) a J (fun h1 h2 => absurd h1 hn) (fun h1 h2 => absurd h1 hn) (fun h1 => hx a (by show lq_164_16 i1 M (41) = _; rw [← hm]; exact ha) _)
    | succ n ih =>
      intro m a ha hm
      have hp : (Int32.ofNat m) < 41 := by exact (fi_lt (by omega)).mpr (by omega)
      refine ts_164_16 i1 (Int32.ofNat m) a J (fun h1 h2 => ?_) (fun h1 h2 => ?_) (fun h1 => absurd hp h1)
      · have e : lq_164_16 i1 M (m + 1) = .inl ((Int32.ofNat m), a) := lqs_164_16 i1 M ha (by
          show (ls_164_16 i1) m a = _
          unfold ls_164_16
          simp only [if_pos h2])
        have e : lq_164_16 i1 M (41) = .inl ((Int32.ofNat m), a) := ix_l e (by omega)
        exact hq _ e
      · have e : lq_164_16 i1 M (m + 1) = .inr (lr_161_2 1 a) := lqs_164_16 i1 M ha (by
          show (ls_164_16 i1) m a = _
          unfold ls_164_16
          simp only [if_neg h2])
        have q := ih (m + 1) _ e (by omega)
        first | (rw [fi_s]; exact q) | (rw [← fi_s] at q; exact q) | (simp only [fi_s] at q ⊢; exact q)
  exact key (41) 0 _ rfl (Nat.zero_add _)
def v_164 (l : Int32) (M : fl_M) : Int32 := (if (¬ (l < 0)) ∧ (¬ ((M 81 1) - 1 < l)) then (match (lr_164_16 l (lr_160_2 M)) with | .inl c59 => c59.1 | .inr a60 => (-9)) else (-1))
def m_164 (l : Int32) (M : fl_M) : fl_M := (if (¬ (l < 0)) ∧ (¬ ((M 81 1) - 1 < l)) then (match (lr_164_16 l (lr_160_2 M)) with | .inl c59 => c59.2 | .inr a60 => a60) else M)
set_option maxRecDepth 8000 in
theorem cc_164 (M : fl_M) (J : fl_J) (l : Int32) : fl_C 164 [.ref 81, .int l] M J (some (.int (v_164 l M)), (m_164 l M), J) :=
 fl_Co (B := fB164) rfl rfl <|
 fl_td (s' := (2, [.ref 81, .int l, .null], [.int l, .ref 81], M, J)) (fl_n 2 rfl) <|
 fl_td (s' := (5, [.ref 81, .int l, .null], [.int (if (¬ (l < 0)) ∧ (¬ ((M 81 1) - 1 < l)) then 1 else 0)], M, J)) (fl_cv (o := some (.int (if (¬ (l < 0)) ∧ (¬ ((M 81 1) - 1 < l)) then 1 else 0))) rfl rfl rfl rfl (cc_131 M J l) rfl) <|
 fl_dtwo (fl_if (t := 10) rfl rfl) fl_b1 (fun h1 =>
  fl_td (s' := (11, [.ref 81, .int l, .null], [.ref 81], M, J)) (fl_n 1 rfl) <|
  fl_td (s' := (14, [.ref 81, .int l, .null], [], (lr_160_2 M), J)) (fl_cv (o := none) rfl rfl rfl rfl (cc_160 M J) rfl) <|
  fx_gen (p := fun (MM57 : fl_M) => fl_dn fB164 (14, [.ref 81, .int l, .null], [], MM57, J) (some (.int (v_164 l M)), (m_164 l M), J)) (lr_160_2 M) (fun MM57 eMM57 =>
   fl_td (s' := (16, [.ref 81, .int l, .int 0], [], MM57, J)) (fl_n 2 rfl) <|
   lp_164_16 l MM57 J (fun c59 h4 => by subst eMM57; unfold v_164 m_164; first | (simp only [if_pos h1, h4]; done) | rfl) (fun a60 h3 u61 =>
    fl_td (s' := (50, [.ref 81, .int l, u61], [.int (-9)], a60, J)) (fl_n 1 rfl) <|
    fl_rt rfl (fun _ => rfl) (by subst eMM57; unfold v_164 m_164; first | (simp only [if_pos h1, h3]; done) | rfl)))) (fun h1 =>
  fl_td (s' := (9, [.ref 81, .int l, .null], [.int (-1)], M, J)) (fl_n 1 rfl) <|
  fl_rt rfl (fun _ => rfl) (by unfold v_164 m_164; first | (simp only [if_neg h1]; done) | rfl))
def fB166 : sm_P := (fun pc => sm_ch sm_t166 pc, sm_Kn 3 5 none, fun x => sm_lk sm_ca3 x, some .boolean)
def v_166 (l n ot bu : Int32) (M : fl_M) : Int32 := (if 0 < ((lr_161_2 n (fl_u (lr_160_2 M) 82 ((3788 + ot).toNatClampNeg) (((lr_160_2 M) 82 ((3788 + ot).toNatClampNeg)) + bu))) 82 ((3780 + l).toNatClampNeg)) then 1 else 0)
def m_166 (n ot bu : Int32) (M : fl_M) : fl_M := (lr_161_2 n (fl_u (lr_160_2 M) 82 ((3788 + ot).toNatClampNeg) (((lr_160_2 M) 82 ((3788 + ot).toNatClampNeg)) + bu)))
set_option maxRecDepth 8000 in
theorem cc_166 (M : fl_M) (J : fl_J) (l n ot bu : Int32) : fl_C 166 [.ref 81, .int l, .int n, .int ot, .int bu] M J (some (.int (v_166 l n ot bu M)), (m_166 n ot bu M), J) :=
 fl_Co (B := fB166) rfl rfl <|
 fl_td (s' := (1, [.ref 81, .int l, .int n, .int ot, .int bu], [.ref 81], M, J)) (fl_n 1 rfl) <|
 fl_td (s' := (4, [.ref 81, .int l, .int n, .int ot, .int bu], [], (lr_160_2 M), J)) (fl_cv (o := none) rfl rfl rfl rfl (cc_160 M J) rfl) <|
 fx_gen (p := fun (MM62 : fl_M) => fl_dn fB166 (4, [.ref 81, .int l, .int n, .int ot, .int bu], [], MM62, J) (some (.int (v_166 l n ot bu M)), (m_166 n ot bu M), J)) (lr_160_2 M) (fun MM62 eMM62 =>
  fl_td (s' := (21, [.ref 81, .int l, .int n, .int ot, .int bu], [.int n, .ref 81], (fl_u MM62 82 ((3788 + ot).toNatClampNeg) ((MM62 82 ((3788 + ot).toNatClampNeg)) + bu)), J)) (fl_n 12 rfl) <|
  fl_td (s' := (24, [.ref 81, .int l, .int n, .int ot, .int bu], [], (lr_161_2 n (fl_u MM62 82 ((3788 + ot).toNatClampNeg) ((MM62 82 ((3788 + ot).toNatClampNeg)) + bu))), J)) (fl_cv (o := none) rfl rfl rfl rfl (cc_161 (fl_u MM62 82 ((3788 + ot).toNatClampNeg) ((MM62 82 ((3788 + ot).toNatClampNeg)) + bu)) J n) rfl) <|
  fx_gen (p := fun (MM63 : fl_M) => fl_dn fB166 (24, [.ref 81, .int l, .int n, .int ot, .int bu], [], MM63, J) (some (.int (v_166 l n ot bu M)), (m_166 n ot bu M), J)) (lr_161_2 n (fl_u MM62 82 ((3788 + ot).toNatClampNeg) ((MM62 82 ((3788 + ot).toNatClampNeg)) + bu))) (fun MM63 eMM63 =>
   fl_td (s' := (34, [.ref 81, .int l, .int n, .int ot, .int bu], [.int (MM63 82 ((3780 + l).toNatClampNeg))], MM63, J)) (fl_n 6 rfl) <|
   fl_dnot (fl_if (t := 41) rfl rfl) fl_nle (fun h3 =>
    fl_td (s' := (42, [.ref 81, .int l, .int n, .int ot, .int bu], [.int 1], MM63, J)) (fl_n 2 rfl) <|
    fl_rt rfl (fun _ => rfl) (by subst eMM62; subst eMM63; unfold v_166 m_166; first | (simp only [if_pos h3]; done) | rfl)) (fun h3 =>
    fl_td (s' := (42, [.ref 81, .int l, .int n, .int ot, .int bu], [.int 0], MM63, J)) (fl_n 1 rfl) <|
    fl_rt rfl (fun _ => rfl) (by subst eMM62; subst eMM63; unfold v_166 m_166; first | (simp only [if_neg h3]; done) | rfl))))
theorem fw_166 {n ot bu : Int32} {M : fl_M} {c j : Nat} (g0 : ¬ c = 82) : (m_166 n ot bu M) c j = M c j := by
  unfold m_166
  (try repeat' split) <;> first | with_reducible rfl | (simp [fl_u, g0, fw_161 g0, fw_160 g0]; done)
def fB165 : sm_P := (fun pc => sm_ch sm_t165 pc, sm_Kn 3 5 none, fun x => sm_lk sm_ca3 x, some .int)
-- MiceRegistersModel.save 52
def ls_165_52 (i1 i2 i3 : Int32) (m : Nat) (q : fl_M) : (Int32 × fl_M) ⊕ fl_M := (if (Int32.ofNat m) = i1 then (.inr q) else (if ((q 82 ((12 + (Int32.ofNat m)).toNatClampNeg)) + i3) < 21 then (if (v_166 i1 i2 (Int32.ofNat m) i3 q) = 0 then (.inr (m_166 i2 (Int32.ofNat m) i3 q)) else (.inl (i3, (fl_u (m_166 i2 (Int32.ofNat m) i3 q) 81 11 (Int32.ofNat m))))) else (.inr q)))
def lq_165_52 (i1 i2 i3 : Int32) (M : fl_M) (m : Nat) : (Int32 × fl_M) ⊕ fl_M := fx_ix (ls_165_52 i1 i2 i3) m M
theorem lqs_165_52 (i1 i2 i3 : Int32) (M : fl_M) {m : Nat} {a : fl_M} {v : (Int32 × fl_M) ⊕ fl_M} (h : lq_165_52 i1 i2 i3 M m = .inr a) (e : (ls_165_52 i1 i2 i3) m a = v) : lq_165_52 i1 i2 i3 M (m + 1) = v := by
  unfold lq_165_52 at h ⊢
  exact ix_s1 h e
def lr_165_52 (i1 i2 i3 : Int32) (M : fl_M) : (Int32 × fl_M) ⊕ fl_M := (lq_165_52 i1 i2 i3 M (((M 81 1)).toNatClampNeg))
set_option maxRecDepth 8000 in
theorem ts_165_52 {r : fl_Q} (i1 i2 i3 i4 : Int32) (M : fl_M) (J : fl_J) (q1 : (i4 < (M 81 1)) → (i4 = i1) → fl_dn fB165 (52, [.ref 81, .int i1, .int i2, .int i3, .int (i4 + 1)], [], M, J) r) (q2 : (i4 < (M 81 1)) → (¬ (i4 = i1)) → (((M 82 ((12 + i4).toNatClampNeg)) + i3) < 21) → ((v_166 i1 i2 i4 i3 M) = 0) → fl_dn fB165 (52, [.ref 81, .int i1, .int i2, .int i3, .int (i4 + 1)], [], (m_166 i2 i4 i3 M), J) r) (e1 : (i4 < (M 81 1)) → (¬ (i4 = i1)) → (((M 82 ((12 + i4).toNatClampNeg)) + i3) < 21) → (¬ ((v_166 i1 i2 i4 i3 M) = 0)) → (some (.int i3), (fl_u (m_166 i2 i4 i3 M) 81 11 i4), J) = r) (q3 : (i4 < (M 81 1)) → (¬ (i4 = i1)) → (¬ (((M 82 ((12 + i4).toNatClampNeg)) + i3) < 21)) → fl_dn fB165 (52, [.ref 81, .int i1, .int i2, .int i3, .int (i4 + 1)], [], M, J) r) (q4 : (¬ (i4 < (M 81 1))) → fl_dn fB165 (110, [.ref 81, .int i1, .int i2, .int i3, .int i4], [], M, J) r) : fl_dn fB165 (52, [.ref 81, .int i1, .int i2, .int i3, .int i4], [], M, J) r :=
 fl_td (s' := (58, [.ref 81, .int i1, .int i2, .int i3, .int i4], [.int (M 81 1), .int i4], M, J)) (fl_n 3 rfl) <|
 fl_dnot (fl_ic (t := 110) rfl rfl) fl_nlt (fun h1 =>
  fl_td (s' := (64, [.ref 81, .int i1, .int i2, .int i3, .int i4], [.int i1, .int i4], M, J)) (fl_n 2 rfl) <|
  fl_dtwo (fl_ic (t := 104) rfl rfl) fl_cT (fun h2 =>
   fl_td (s' := (52, [.ref 81, .int i1, .int i2, .int i3, .int (i4 + 1)], [], M, J)) (fl_n 2 rfl) <|
   (q1 h1 h2)) (fun h2 =>
   fl_td (s' := (81, [.ref 81, .int i1, .int i2, .int i3, .int i4], [.int 21, .int ((M 82 ((12 + i4).toNatClampNeg)) + i3)], M, J)) (fl_n 9 rfl) <|
   fl_dnot (fl_ic (t := 104) rfl rfl) fl_nlt (fun h3 =>
    fl_td (s' := (90, [.ref 81, .int i1, .int i2, .int i3, .int i4], [.int i3, .int i4, .int i2, .int i1, .ref 81], M, J)) (fl_n 5 rfl) <|
    fl_td (s' := (93, [.ref 81, .int i1, .int i2, .int i3, .int i4], [.int (v_166 i1 i2 i4 i3 M)], (m_166 i2 i4 i3 M), J)) (fl_cv (o := some (.int (v_166 i1 i2 i4 i3 M))) rfl rfl rfl rfl (cc_166 M J i1 i2 i4 i3) rfl) <|
    fx_gen (p := fun (MM65 : fl_M) => fl_dn fB165 (93, [.ref 81, .int i1, .int i2, .int i3, .int i4], [.int (v_166 i1 i2 i4 i3 M)], MM65, J) r) (m_166 i2 i4 i3 M) (fun MM65 eMM65 =>
     fl_dtwo (fl_if (t := 104) rfl rfl) fl_cT (fun h5 =>
      fl_td (s' := (52, [.ref 81, .int i1, .int i2, .int i3, .int (i4 + 1)], [], MM65, J)) (fl_n 2 rfl) <|
      (by subst eMM65; exact (q2 h1 h2 h3 h5))) (fun h5 =>
      fl_td (s' := (103, [.ref 81, .int i1, .int i2, .int i3, .int i4], [.int i3], (fl_u MM65 81 11 i4), J)) (fl_n 4 rfl) <|
      fl_rt rfl (fun _ => rfl) (by subst eMM65; exact (e1 h1 h2 h3 h5))))) (fun h3 =>
    fl_td (s' := (52, [.ref 81, .int i1, .int i2, .int i3, .int (i4 + 1)], [], M, J)) (fl_n 2 rfl) <|
    (q3 h1 h2 h3)))) (fun h1 =>
  (q4 h1))
theorem lk_165_52 (i1 i2 i3 : Int32) (M : fl_M) (m : Nat) : ∀ a, lq_165_52 i1 i2 i3 M m = .inr a → (a 81 1) = (M 81 1) := by
  induction m with
  | zero => intro a h; cases h; rfl
  | succ m ih =>
    intro a h
    obtain ⟨q, h1, h2⟩ := ix_s h
    rw [← ih q h1]
    unfold ls_165_52 at h2
    (repeat' split at h2) <;> first | (cases h2; done) | (cases h2; with_reducible rfl) | (cases h2; simp [fl_u, fw_150_5, fw_150_130, fw_150, fw_149, fw_156, fw_160, fw_161, fw_166]; done)
theorem lp_165_52 {r : fl_Q} (i1 i2 i3 : Int32) (M : fl_M) (J : fl_J) (hq : ∀ c, lr_165_52 i1 i2 i3 M = .inl c → (some (.int c.1), c.2, J) = r) (hx : ∀ a, lr_165_52 i1 i2 i3 M = .inr a → ∀ w4 : Value, fl_dn fB165 (110, [.ref 81, .int i1, .int i2, .int i3, w4], [], a, J) r) : fl_dn fB165 (52, [.ref 81, .int i1, .int i2, .int i3, .int 0], [], M, J) r := by
  have hb := fi_bd (M 81 1)
  have hB := fun m a h => lk_165_52 i1 i2 i3 M m a h
  have key : ∀ (n m : Nat) (a : fl_M) (ha : lq_165_52 i1 i2 i3 M m = .inr a), m + n = ((M 81 1)).toNatClampNeg → fl_dn fB165 (52, [.ref 81, .int i1, .int i2, .int i3, .int (Int32.ofNat m)], [], a, J) r := by
    intro n
    induction n with
    | zero =>
      intro m a ha hm
      have hm : m = ((M 81 1)).toNatClampNeg := by omega
      have hn : ¬ ((Int32.ofNat m) < (a 81 1)) := fun z => by rw [hB m a ha] at z; have z := (fi_lt (by omega)).mp z; omega
      exact ts_165_52 i1 i2 i3 (Int32.ofNat m) a J (fun h1 h2 => absurd h1 hn) (fun h1 h2 h3 h5 => absurd h1 hn) (fun h1 h2 h3 h5 => absurd h1 hn) (fun h1 h2 h3 => absurd h1 hn) (fun h1 => hx a (by show lq_165_52 i1 i2 i3 M (((M 81 1)).toNatClampNeg) = _; rw [← hm]; exact ha) _)
    | succ n ih =>
      intro m a ha hm
      have hp : (Int32.ofNat m) < (a 81 1) := by rw [hB m a ha]; exact (fi_lt (by omega)).mpr (by omega)
      refine ts_165_52 i1 i2 i3 (Int32.ofNat m) a J (fun h1 h2 => ?_) (fun h1 h2 h3 h5 => ?_) (fun h1 h2 h3 h5 => ?_) (fun h1 h2 h3 => ?_) (fun h1 => absurd hp h1)
      · have e : lq_165_52 i1 i2 i3 M (m + 1) = .inr a := lqs_165_52 i1 i2 i3 M ha (by
          show (ls_165_52 i1 i2 i3) m a = _
          unfold ls_165_52
          simp only [if_pos h2])
        have q := ih (m + 1) _ e (by omega)
        first | (rw [fi_s]; exact q) | (rw [← fi_s] at q; exact q) | (simp only [fi_s] at q ⊢; exact q)
      · have e : lq_165_52 i1 i2 i3 M (m + 1) = .inr (m_166 i2 (Int32.ofNat m) i3 a) := lqs_165_52 i1 i2 i3 M ha (by
          show (ls_165_52 i1 i2 i3) m a = _
          unfold ls_165_52
          simp only [if_neg h2, if_pos h3, if_pos h5])
        have q := ih (m + 1) _ e (by omega)
        first | (rw [fi_s]; exact q) | (rw [← fi_s] at q; exact q) | (simp only [fi_s] at q ⊢; exact q)
      · have e : lq_165_52 i1 i2 i3 M (m + 1) = .inl (i3, (fl_u (m_166 i2 (Int32.ofNat m) i3 a) 81 11 (Int32.ofNat m))) := lqs_165_52 i1 i2 i3 M ha (by
          show (ls_165_52 i1 i2 i3) m a = _
          unfold ls_165_52
          simp only [if_neg h2, if_pos h3, if_neg h5])
        have e : lq_165_52 i1 i2 i3 M (((M 81 1)).toNatClampNeg) = .inl (i3, (fl_u (m_166 i2 (Int32.ofNat m) i3 a) 81 11 (Int32.ofNat m))) := ix_l e (by omega)
        exact hq _ e
      · have e : lq_165_52 i1 i2 i3 M (m + 1) = .inr a := lqs_165_52 i1 i2 i3 M ha (by
          show (ls_165_52 i1 i2 i3) m a = _
          unfold ls_165_52
          simp only [if_neg h2, if_neg h3])
        have q := ih (m + 1) _ e (by omega)
        first | (rw [fi_s]; exact q) | (rw [← fi_s] at q; exact q) | (simp only [fi_s] at q ⊢; exact q)
  exact key (((M 81 1)).toNatClampNeg) 0 _ rfl (Nat.zero_add _)
-- MiceRegistersModel.save 43
def ls_165_43 (i1 i2 : Int32) (m : Nat) (q : fl_M) : (Int32 × fl_M) ⊕ fl_M := (match (lr_165_52 i1 i2 (Int32.ofNat (1 + m)) q) with | .inl c66 => (.inl (c66.1, c66.2)) | .inr a67 => (.inr a67))
def lq_165_43 (i1 i2 : Int32) (M : fl_M) (m : Nat) : (Int32 × fl_M) ⊕ fl_M := fx_ix (ls_165_43 i1 i2) m M
theorem lqs_165_43 (i1 i2 : Int32) (M : fl_M) {m : Nat} {a : fl_M} {v : (Int32 × fl_M) ⊕ fl_M} (h : lq_165_43 i1 i2 M m = .inr a) (e : (ls_165_43 i1 i2) m a = v) : lq_165_43 i1 i2 M (m + 1) = v := by
  unfold lq_165_43 at h ⊢
  exact ix_s1 h e
def lr_165_43 (i1 i2 : Int32) (M : fl_M) : (Int32 × fl_M) ⊕ fl_M := (lq_165_43 i1 i2 M (20))
set_option maxRecDepth 8000 in
theorem ts_165_43 {r : fl_Q} (i1 i2 i3 : Int32) (u4 : Value) (M : fl_M) (J : fl_J) (e1 : (i3 < 21) → ∀ c66, (lr_165_52 i1 i2 i3 M) = .inl c66 → (some (.int c66.1), c66.2, J) = r) (q1 : (i3 < 21) → ∀ a67, (lr_165_52 i1 i2 i3 M) = .inr a67 → ∀ u68 : Value, fl_dn fB165 (43, [.ref 81, .int i1, .int i2, .int (i3 + 1), u68], [], a67, J) r) (q2 : (¬ (i3 < 21)) → fl_dn fB165 (116, [.ref 81, .int i1, .int i2, .int i3, u4], [], M, J) r) : fl_dn fB165 (43, [.ref 81, .int i1, .int i2, .int i3, u4], [], M, J) r :=
 fl_td (s' := (46, [.ref 81, .int i1, .int i2, .int i3, u4], [.int 21, .int i3], M, J)) (fl_n 2 rfl) <|
 fl_dnot (fl_ic (t := 116) rfl rfl) fl_nlt (fun h1 =>
  fl_td (s' := (52, [.ref 81, .int i1, .int i2, .int i3, .int 0], [], M, J)) (fl_n 2 rfl) <|
  lp_165_52 i1 i2 i3 M J (fun c66 h3 => (e1 h1 c66 h3)) (fun a67 h2 u68 =>
   fl_td (s' := (43, [.ref 81, .int i1, .int i2, .int (i3 + 1), u68], [], a67, J)) (fl_n 2 rfl) <|
   (q1 h1 a67 h2 u68))) (fun h1 =>
  (q2 h1))
theorem lp_165_43 {r : fl_Q} (i1 i2 : Int32) (u4 : Value) (M : fl_M) (J : fl_J) (hq : ∀ c, lr_165_43 i1 i2 M = .inl c → (some (.int c.1), c.2, J) = r) (hx : ∀ a, lr_165_43 i1 i2 M = .inr a → ∀ w3 w4 : Value, fl_dn fB165 (116, [.ref 81, .int i1, .int i2, w3, w4], [], a, J) r) : fl_dn fB165 (43, [.ref 81, .int i1, .int i2, .int 1, u4], [], M, J) r := by
  have hb : (21 : Int32).toNatClampNeg = 21 := rfl
  have key : ∀ (n m : Nat) (w4 : Value) (a : fl_M) (ha : lq_165_43 i1 i2 M m = .inr a), m + n = 20 → fl_dn fB165 (43, [.ref 81, .int i1, .int i2, .int (Int32.ofNat (1 + m)), w4], [], a, J) r := by
    intro n
    induction n with
    | zero =>
      intro m w4 a ha hm
      have hm : m = 20 := by omega
      have hn : ¬ ((Int32.ofNat (1 + m)) < 21) := fun z => by have z := (fi_lt (by omega)).mp z; omega
      exact ts_165_43 i1 i2 (Int32.ofNat (1 + m)) w4 a J (fun h1 c66 h3 => absurd h1 hn) (fun h1 a67 h2 u68 => absurd h1 hn) (fun h1 => hx a (by show lq_165_43 i1 i2 M (20) = _; rw [← hm]; exact ha) _ _)
    | succ n ih =>
      intro m w4 a ha hm
      have hp : (Int32.ofNat (1 + m)) < 21 := by exact (fi_lt (by omega)).mpr (by omega)
      refine ts_165_43 i1 i2 (Int32.ofNat (1 + m)) w4 a J (fun h1 c66 h3 => ?_) (fun h1 a67 h2 u68 => ?_) (fun h1 => absurd hp h1)
      · have e : lq_165_43 i1 i2 M (m + 1) = .inl (c66.1, c66.2) := lqs_165_43 i1 i2 M ha (by
          show (ls_165_43 i1 i2) m a = _
          unfold ls_165_43
          simp only [h3])
        have e : lq_165_43 i1 i2 M (20) = .inl (c66.1, c66.2) := ix_l e (by omega)
        exact hq _ e
      · have e : lq_165_43 i1 i2 M (m + 1) = .inr a67 := lqs_165_43 i1 i2 M ha (by
          show (ls_165_43 i1 i2) m a = _
          unfold ls_165_43
          simp only [h2])
        have q := ih (m + 1) u68 _ e (by omega)
        first | (rw [fi_s]; exact q) | (rw [← fi_s] at q; exact q) | (simp only [fi_s] at q ⊢; exact q)
  exact key (20) 0 u4 _ rfl (Nat.zero_add _)
def v_165 (l n : Int32) (M : fl_M) : Int32 := (if (¬ (l < 0)) ∧ (¬ ((M 81 1) - 1 < l)) then (if (¬ (n < 1)) ∧ (¬ (20 < n)) then (if (v_166 l n l 0 M) = 0 then (match (lr_165_43 l n (m_166 n l 0 M)) with | .inl c69 => c69.1 | .inr a70 => (-9)) else 0) else (-1)) else (-1))
def m_165 (l n : Int32) (M : fl_M) : fl_M := (if (¬ (l < 0)) ∧ (¬ ((M 81 1) - 1 < l)) then (if (¬ (n < 1)) ∧ (¬ (20 < n)) then (if (v_166 l n l 0 M) = 0 then (match (lr_165_43 l n (m_166 n l 0 M)) with | .inl c69 => c69.2 | .inr a70 => a70) else (fl_u (m_166 n l 0 M) 81 11 (-9))) else M) else M)
set_option maxRecDepth 8000 in
theorem cc_165 (M : fl_M) (J : fl_J) (l n : Int32) : fl_C 165 [.ref 81, .int l, .int n] M J (some (.int (v_165 l n M)), (m_165 l n M), J) :=
 fl_Co (B := fB165) rfl rfl <|
 fl_td (s' := (2, [.ref 81, .int l, .int n, .null, .null], [.int l, .ref 81], M, J)) (fl_n 2 rfl) <|
 fl_td (s' := (5, [.ref 81, .int l, .int n, .null, .null], [.int (if (¬ (l < 0)) ∧ (¬ ((M 81 1) - 1 < l)) then 1 else 0)], M, J)) (fl_cv (o := some (.int (if (¬ (l < 0)) ∧ (¬ ((M 81 1) - 1 < l)) then 1 else 0))) rfl rfl rfl rfl (cc_131 M J l) rfl) <|
 fl_dnot (fl_if (t := 20) rfl rfl) fl_b0 (fun h1 =>
  fl_td (s' := (14, [.ref 81, .int l, .int n, .null, .null], [.long 20, .long 1, .long n.toInt64], M, J)) (fl_n 4 rfl) <|
  fl_td (s' := (17, [.ref 81, .int l, .int n, .null, .null], [.int (if (¬ (n < 1)) ∧ (¬ (20 < n)) then 1 else 0)], M, J)) (fl_cs (o := some (.int (if (¬ (n < 1)) ∧ (¬ (20 < n)) then 1 else 0))) rfl rfl rfl (cc_105i M J n 1 20) rfl) <|
  fl_dtwo (fl_if (t := 22) rfl rfl) fl_b1 (fun h2 =>
   fl_td (s' := (27, [.ref 81, .int l, .int n, .null, .null], [.int 0, .int l, .int n, .int l, .ref 81], M, J)) (fl_n 5 rfl) <|
   fl_td (s' := (30, [.ref 81, .int l, .int n, .null, .null], [.int (v_166 l n l 0 M)], (m_166 n l 0 M), J)) (fl_cv (o := some (.int (v_166 l n l 0 M))) rfl rfl rfl rfl (cc_166 M J l n l 0) rfl) <|
   fx_gen (p := fun (MM64 : fl_M) => fl_dn fB165 (30, [.ref 81, .int l, .int n, .null, .null], [.int (v_166 l n l 0 M)], MM64, J) (some (.int (v_165 l n M)), (m_165 l n M), J)) (m_166 n l 0 M) (fun MM64 eMM64 =>
    fl_dtwo (fl_if (t := 41) rfl rfl) fl_cT (fun h4 =>
     fl_td (s' := (43, [.ref 81, .int l, .int n, .int 1, .null], [], MM64, J)) (fl_n 2 rfl) <|
     lp_165_43 l n .null MM64 J (fun c69 h6 => by subst eMM64; unfold v_165 m_165; first | (simp only [if_pos h1, if_pos h2, if_pos h4, h6]; done) | rfl) (fun a70 h5 u71 u72 =>
      fl_td (s' := (118, [.ref 81, .int l, .int n, u71, u72], [.int (-9)], a70, J)) (fl_n 1 rfl) <|
      fl_rt rfl (fun _ => rfl) (by subst eMM64; unfold v_165 m_165; first | (simp only [if_pos h1, if_pos h2, if_pos h4, h5]; done) | rfl))) (fun h4 =>
     fl_td (s' := (40, [.ref 81, .int l, .int n, .null, .null], [.int 0], (fl_u MM64 81 11 (-9)), J)) (fl_n 4 rfl) <|
     fl_rt rfl (fun _ => rfl) (by subst eMM64; unfold v_165 m_165; first | (simp only [if_pos h1, if_pos h2, if_neg h4]; done) | rfl)))) (fun h2 =>
   fl_td (s' := (21, [.ref 81, .int l, .int n, .null, .null], [.int (-1)], M, J)) (fl_n 1 rfl) <|
   fl_rt rfl (fun _ => rfl) (by unfold v_165 m_165; first | (simp only [if_pos h1, if_neg h2]; done) | rfl))) (fun h1 =>
  fl_td (s' := (21, [.ref 81, .int l, .int n, .null, .null], [.int (-1)], M, J)) (fl_n 1 rfl) <|
  fl_rt rfl (fun _ => rfl) (by unfold v_165 m_165; first | (simp only [if_neg h1]; done) | rfl))
def fB168 : sm_P := (fun pc => sm_ch sm_t168 pc, sm_Kn 3 4 none, fun x => sm_lk sm_ca3 x, some .int)
-- MiceRegistersModel.leftIn 4
def ls_168_4 (i1 : Int32) (M : fl_M) (m : Nat) (q : Int32) : Int32 := (q + (M 82 (((i1 + 4) + (Int32.ofNat m)).toNatClampNeg)))
def lq_168_4 (i1 i2 : Int32) (M : fl_M) (m : Nat) : Int32 := fx_it (ls_168_4 i1 M) m i2
theorem lqs_168_4 (i1 i2 : Int32) (M : fl_M) (m : Nat) : lq_168_4 i1 i2 M (m + 1) = (ls_168_4 i1 M) m (lq_168_4 i1 i2 M m) := by
  unfold lq_168_4
  exact fx_it_s _ _ _
def lr_168_4 (i1 i2 : Int32) (M : fl_M) : Int32 := (lq_168_4 i1 i2 M (((M 81 1)).toNatClampNeg))
set_option maxRecDepth 8000 in
theorem ts_168_4 {r : fl_Q} (i1 i2 i3 : Int32) (M : fl_M) (J : fl_J) (q1 : (i3 < (M 81 1)) → fl_dn fB168 (4, [.ref 81, .int i1, .int (i2 + (M 82 (((i1 + 4) + i3).toNatClampNeg))), .int (i3 + 1)], [], M, J) r) (q2 : (¬ (i3 < (M 81 1))) → fl_dn fB168 (31, [.ref 81, .int i1, .int i2, .int i3], [], M, J) r) : fl_dn fB168 (4, [.ref 81, .int i1, .int i2, .int i3], [], M, J) r :=
 fl_td (s' := (9, [.ref 81, .int i1, .int i2, .int i3], [.int (M 81 1), .int i3], M, J)) (fl_n 3 rfl) <|
 fl_dnot (fl_ic (t := 31) rfl rfl) fl_nlt (fun h1 =>
  fl_td (s' := (4, [.ref 81, .int i1, .int (i2 + (M 82 (((i1 + 4) + i3).toNatClampNeg))), .int (i3 + 1)], [], M, J)) (fl_n 13 rfl) <|
  (q1 h1)) (fun h1 =>
  (q2 h1))
theorem lp_168_4 {r : fl_Q} (i1 i2 : Int32) (M : fl_M) (J : fl_J) (hx : ∀ w3 : Value, fl_dn fB168 (31, [.ref 81, .int i1, .int (lr_168_4 i1 i2 M), w3], [], M, J) r) : fl_dn fB168 (4, [.ref 81, .int i1, .int i2, .int 0], [], M, J) r := by
  have hb := fi_bd (M 81 1)
  have key : ∀ (n m : Nat), m + n = ((M 81 1)).toNatClampNeg → fl_dn fB168 (4, [.ref 81, .int i1, .int (lq_168_4 i1 i2 M m), .int (Int32.ofNat m)], [], M, J) r := by
    intro n
    induction n with
    | zero =>
      intro m hm
      have hm : m = ((M 81 1)).toNatClampNeg := by omega
      have hn : ¬ ((Int32.ofNat m) < (M 81 1)) := fun z => by have z := (fi_lt (by omega)).mp z; omega
      exact ts_168_4 i1 (lq_168_4 i1 i2 M m) (Int32.ofNat m) M J (fun h1 => absurd h1 hn) (fun h1 => (by have e : lr_168_4 i1 i2 M = lq_168_4 i1 i2 M m := (by show lq_168_4 i1 i2 M (((M 81 1)).toNatClampNeg) = _; rw [← hm]); rw [e] at hx; exact hx _))
    | succ n ih =>
      intro m hm
      have hp : (Int32.ofNat m) < (M 81 1) := by exact (fi_lt (by omega)).mpr (by omega)
      refine ts_168_4 i1 (lq_168_4 i1 i2 M m) (Int32.ofNat m) M J (fun h1 => ?_) (fun h1 => absurd hp h1)
      · have e : lq_168_4 i1 i2 M (m + 1) = ((lq_168_4 i1 i2 M m) + (M 82 (((i1 + 4) + (Int32.ofNat m)).toNatClampNeg))) := by
          rw [lqs_168_4]
          unfold ls_168_4
          rfl
        have q := ih (m + 1) (by omega)
        rw [e] at q
        first | (rw [fi_s]; exact q) | (rw [← fi_s] at q; exact q) | (simp only [fi_s] at q ⊢; exact q)
  exact key (((M 81 1)).toNatClampNeg) 0 (Nat.zero_add _)
set_option maxRecDepth 8000 in
theorem cc_168 (M : fl_M) (J : fl_J) (b : Int32) : fl_C 168 [.ref 81, .int b] M J (some (.int (lr_168_4 b 0 M)), M, J) :=
 fl_Co (B := fB168) rfl rfl <|
 fl_td (s' := (4, [.ref 81, .int b, .int 0, .int 0], [], M, J)) (fl_n 4 rfl) <|
 lp_168_4 b 0 M J (fun u73 =>
  fx_gen (p := fun (II74 : Int32) => fl_dn fB168 (31, [.ref 81, .int b, .int II74, u73], [], M, J) (some (.int (lr_168_4 b 0 M)), M, J)) (lr_168_4 b 0 M) (fun II74 eII74 =>
   fl_td (s' := (32, [.ref 81, .int b, .int II74, u73], [.int II74], M, J)) (fl_n 1 rfl) <|
   fl_rt rfl (fun _ => rfl) (by subst eII74; rfl)))
def fB167 : sm_P := (fun pc => sm_ch sm_t167 pc, sm_Kn 3 5 none, fun x => sm_lk sm_ca3 x, some .int)
-- MiceRegistersModel.guard 32
def ls_167_32 (i1 : Int32) (m : Nat) (q : (Int32 × Int32 × fl_M)) : (Int32 × Int32 × fl_M) := (if q.2.1 < (lr_168_4 3776 0 (lr_161_2 i1 (fl_u (lr_160_2 q.2.2) 82 3778 (Int32.ofNat m)))) then ((Int32.ofNat m), (lr_168_4 3776 0 (lr_161_2 i1 (fl_u (lr_160_2 q.2.2) 82 3778 (Int32.ofNat m)))), (lr_161_2 i1 (fl_u (lr_160_2 q.2.2) 82 3778 (Int32.ofNat m)))) else (q.1, q.2.1, (lr_161_2 i1 (fl_u (lr_160_2 q.2.2) 82 3778 (Int32.ofNat m)))))
def lq_167_32 (i1 i2 i3 : Int32) (M : fl_M) (m : Nat) : (Int32 × Int32 × fl_M) := fx_it (ls_167_32 i1) m (i2, i3, M)
theorem lqs_167_32 (i1 i2 i3 : Int32) (M : fl_M) (m : Nat) : lq_167_32 i1 i2 i3 M (m + 1) = (ls_167_32 i1) m (lq_167_32 i1 i2 i3 M m) := by
  unfold lq_167_32
  exact fx_it_s _ _ _
def lr_167_32 (i1 i2 i3 : Int32) (M : fl_M) : (Int32 × Int32 × fl_M) := (lq_167_32 i1 i2 i3 M (((M 81 1)).toNatClampNeg))
set_option maxRecDepth 8000 in
theorem ts_167_32 {r : fl_Q} (i1 i2 i3 i4 : Int32) (M : fl_M) (J : fl_J) (q1 : (i4 < (M 81 1)) → (i3 < (lr_168_4 3776 0 (lr_161_2 i1 (fl_u (lr_160_2 M) 82 3778 i4)))) → (i3 < (lr_168_4 3776 0 (lr_161_2 i1 (fl_u (lr_160_2 M) 82 3778 i4)))) → fl_dn fB167 (32, [.ref 81, .int i1, .int i4, .int (lr_168_4 3776 0 (lr_161_2 i1 (fl_u (lr_160_2 M) 82 3778 i4))), .int (i4 + 1)], [], (lr_161_2 i1 (fl_u (lr_160_2 M) 82 3778 i4)), J) r) (q2 : (i4 < (M 81 1)) → (¬ (i3 < (lr_168_4 3776 0 (lr_161_2 i1 (fl_u (lr_160_2 M) 82 3778 i4))))) → (¬ (i3 < (lr_168_4 3776 0 (lr_161_2 i1 (fl_u (lr_160_2 M) 82 3778 i4))))) → fl_dn fB167 (32, [.ref 81, .int i1, .int i2, .int i3, .int (i4 + 1)], [], (lr_161_2 i1 (fl_u (lr_160_2 M) 82 3778 i4)), J) r) (q3 : (¬ (i4 < (M 81 1))) → fl_dn fB167 (107, [.ref 81, .int i1, .int i2, .int i3, .int i4], [], M, J) r) : fl_dn fB167 (32, [.ref 81, .int i1, .int i2, .int i3, .int i4], [], M, J) r :=
 fl_td (s' := (38, [.ref 81, .int i1, .int i2, .int i3, .int i4], [.int (M 81 1), .int i4], M, J)) (fl_n 3 rfl) <|
 fl_dnot (fl_ic (t := 107) rfl rfl) fl_nlt (fun h1 =>
  fl_td (s' := (42, [.ref 81, .int i1, .int i2, .int i3, .int i4], [.ref 81], M, J)) (fl_n 1 rfl) <|
  fl_td (s' := (45, [.ref 81, .int i1, .int i2, .int i3, .int i4], [], (lr_160_2 M), J)) (fl_cv (o := none) rfl rfl rfl rfl (cc_160 M J) rfl) <|
  fx_gen (p := fun (MM75 : fl_M) => fl_dn fB167 (45, [.ref 81, .int i1, .int i2, .int i3, .int i4], [], MM75, J) r) (lr_160_2 M) (fun MM75 eMM75 =>
   fl_td (s' := (57, [.ref 81, .int i1, .int i2, .int i3, .int i4], [.int i1, .ref 81], (fl_u MM75 82 3778 i4), J)) (fl_n 7 rfl) <|
   fl_td (s' := (60, [.ref 81, .int i1, .int i2, .int i3, .int i4], [], (lr_161_2 i1 (fl_u MM75 82 3778 i4)), J)) (fl_cv (o := none) rfl rfl rfl rfl (cc_161 (fl_u MM75 82 3778 i4) J i1) rfl) <|
   fx_gen (p := fun (MM76 : fl_M) => fl_dn fB167 (60, [.ref 81, .int i1, .int i2, .int i3, .int i4], [], MM76, J) r) (lr_161_2 i1 (fl_u MM75 82 3778 i4)) (fun MM76 eMM76 =>
    fl_td (s' := (64, [.ref 81, .int i1, .int i2, .int i3, .int i4], [.int 3776, .ref 81], MM76, J)) (fl_n 2 rfl) <|
    fl_td (s' := (67, [.ref 81, .int i1, .int i2, .int i3, .int i4], [.int (lr_168_4 3776 0 MM76)], MM76, J)) (fl_cv (o := some (.int (lr_168_4 3776 0 MM76))) rfl rfl rfl rfl (cc_168 MM76 J 3776) rfl) <|
    fx_gen (p := fun (II77 : Int32) => fl_dn fB167 (67, [.ref 81, .int i1, .int i2, .int i3, .int i4], [.int II77], MM76, J) r) (lr_168_4 3776 0 MM76) (fun II77 eII77 =>
     fl_td (s' := (68, [.ref 81, .int i1, .int i2, .int i3, .int i4], [.int i3, .int II77], MM76, J)) (fl_n 1 rfl) <|
     fl_dnot (fl_ic (t := 76) rfl rfl) fl_nle (fun h4 =>
      fl_td (s' := (82, [.ref 81, .int i1, .int i4, .int i3, .int i4], [.int 3776, .ref 81], MM76, J)) (fl_n 5 rfl) <|
      fl_td (s' := (85, [.ref 81, .int i1, .int i4, .int i3, .int i4], [.int (lr_168_4 3776 0 MM76)], MM76, J)) (fl_cv (o := some (.int (lr_168_4 3776 0 MM76))) rfl rfl rfl rfl (cc_168 MM76 J 3776) rfl) <|
      fx_gen (p := fun (II78 : Int32) => fl_dn fB167 (85, [.ref 81, .int i1, .int i4, .int i3, .int i4], [.int II78], MM76, J) r) (lr_168_4 3776 0 MM76) (fun II78 eII78 =>
       fl_td (s' := (86, [.ref 81, .int i1, .int i4, .int i3, .int i4], [.int i3, .int II78], MM76, J)) (fl_n 1 rfl) <|
       fl_dnot (fl_ic (t := 99) rfl rfl) fl_nle (fun h5 =>
        fl_td (s' := (93, [.ref 81, .int i1, .int i4, .int i3, .int i4], [.int 3776, .ref 81], MM76, J)) (fl_n 2 rfl) <|
        fl_td (s' := (96, [.ref 81, .int i1, .int i4, .int i3, .int i4], [.int (lr_168_4 3776 0 MM76)], MM76, J)) (fl_cv (o := some (.int (lr_168_4 3776 0 MM76))) rfl rfl rfl rfl (cc_168 MM76 J 3776) rfl) <|
        fx_gen (p := fun (II79 : Int32) => fl_dn fB167 (96, [.ref 81, .int i1, .int i4, .int i3, .int i4], [.int II79], MM76, J) r) (lr_168_4 3776 0 MM76) (fun II79 eII79 =>
         fl_td (s' := (32, [.ref 81, .int i1, .int i4, .int II79, .int (i4 + 1)], [], MM76, J)) (fl_n 4 rfl) <|
         (by subst eMM75; subst eMM76; subst eII77; subst eII78; subst eII79; exact (q1 h1 h4 h5)))) (fun h5 =>
        (by subst eMM75; subst eMM76; subst eII77; subst eII78; exact absurd h4 h5)))) (fun h4 =>
      fl_td (s' := (82, [.ref 81, .int i1, .int i2, .int i3, .int i4], [.int 3776, .ref 81], MM76, J)) (fl_n 4 rfl) <|
      fl_td (s' := (85, [.ref 81, .int i1, .int i2, .int i3, .int i4], [.int (lr_168_4 3776 0 MM76)], MM76, J)) (fl_cv (o := some (.int (lr_168_4 3776 0 MM76))) rfl rfl rfl rfl (cc_168 MM76 J 3776) rfl) <|
      fx_gen (p := fun (II80 : Int32) => fl_dn fB167 (85, [.ref 81, .int i1, .int i2, .int i3, .int i4], [.int II80], MM76, J) r) (lr_168_4 3776 0 MM76) (fun II80 eII80 =>
       fl_td (s' := (86, [.ref 81, .int i1, .int i2, .int i3, .int i4], [.int i3, .int II80], MM76, J)) (fl_n 1 rfl) <|
       fl_dnot (fl_ic (t := 99) rfl rfl) fl_nle (fun h6 =>
        (by subst eMM75; subst eMM76; subst eII77; subst eII80; exact absurd h6 h4)) (fun h6 =>
        fl_td (s' := (32, [.ref 81, .int i1, .int i2, .int i3, .int (i4 + 1)], [], MM76, J)) (fl_n 4 rfl) <|
        (by subst eMM75; subst eMM76; subst eII77; subst eII80; exact (q2 h1 h4 h6))))))))) (fun h1 =>
  (q3 h1))
theorem lk_167_32 (i1 i2 i3 : Int32) (M : fl_M) (m : Nat) : (((lq_167_32 i1 i2 i3 M m).2.2) 81 1) = (M 81 1) := by
  induction m with
  | zero => rfl
  | succ m ih =>
    rw [← ih]
    rw [lqs_167_32]
    generalize lq_167_32 i1 i2 i3 M m = q
    unfold ls_167_32
    (repeat' split) <;> first | with_reducible rfl | (simp [fl_u, fw_150_5, fw_150_130, fw_150, fw_149, fw_156, fw_160, fw_161, fw_166]; done) | rfl
theorem lp_167_32 {r : fl_Q} (i1 i2 i3 : Int32) (M : fl_M) (J : fl_J) (hx : ∀ w4 : Value, fl_dn fB167 (107, [.ref 81, .int i1, .int ((lr_167_32 i1 i2 i3 M).1), .int ((lr_167_32 i1 i2 i3 M).2.1), w4], [], ((lr_167_32 i1 i2 i3 M).2.2), J) r) : fl_dn fB167 (32, [.ref 81, .int i1, .int i2, .int i3, .int 0], [], M, J) r := by
  have hb := fi_bd (M 81 1)
  have hB := fun m => lk_167_32 i1 i2 i3 M m
  have key : ∀ (n m : Nat), m + n = ((M 81 1)).toNatClampNeg → fl_dn fB167 (32, [.ref 81, .int i1, .int ((lq_167_32 i1 i2 i3 M m).1), .int ((lq_167_32 i1 i2 i3 M m).2.1), .int (Int32.ofNat m)], [], ((lq_167_32 i1 i2 i3 M m).2.2), J) r := by
    intro n
    induction n with
    | zero =>
      intro m hm
      have hm : m = ((M 81 1)).toNatClampNeg := by omega
      have hn : ¬ ((Int32.ofNat m) < (((lq_167_32 i1 i2 i3 M m).2.2) 81 1)) := fun z => by rw [hB m] at z; have z := (fi_lt (by omega)).mp z; omega
      exact ts_167_32 i1 ((lq_167_32 i1 i2 i3 M m).1) ((lq_167_32 i1 i2 i3 M m).2.1) (Int32.ofNat m) ((lq_167_32 i1 i2 i3 M m).2.2) J (fun h1 h4 h5 => absurd h1 hn) (fun h1 h4 h6 => absurd h1 hn) (fun h1 => (by have e : lr_167_32 i1 i2 i3 M = lq_167_32 i1 i2 i3 M m := (by show lq_167_32 i1 i2 i3 M (((M 81 1)).toNatClampNeg) = _; rw [← hm]); rw [e] at hx; exact hx _))
    | succ n ih =>
      intro m hm
      have hp : (Int32.ofNat m) < (((lq_167_32 i1 i2 i3 M m).2.2) 81 1) := by rw [hB m]; exact (fi_lt (by omega)).mpr (by omega)
      refine ts_167_32 i1 ((lq_167_32 i1 i2 i3 M m).1) ((lq_167_32 i1 i2 i3 M m).2.1) (Int32.ofNat m) ((lq_167_32 i1 i2 i3 M m).2.2) J (fun h1 h4 h5 => ?_) (fun h1 h4 h6 => ?_) (fun h1 => absurd hp h1)
      · have e : lq_167_32 i1 i2 i3 M (m + 1) = ((Int32.ofNat m), (lr_168_4 3776 0 (lr_161_2 i1 (fl_u (lr_160_2 ((lq_167_32 i1 i2 i3 M m).2.2)) 82 3778 (Int32.ofNat m)))), (lr_161_2 i1 (fl_u (lr_160_2 ((lq_167_32 i1 i2 i3 M m).2.2)) 82 3778 (Int32.ofNat m)))) := by
          rw [lqs_167_32]
          unfold ls_167_32
          simp only [if_pos h4, if_pos h5]
        have q := ih (m + 1) (by omega)
        rw [e] at q
        first | (rw [fi_s]; exact q) | (rw [← fi_s] at q; exact q) | (simp only [fi_s] at q ⊢; exact q)
      · have e : lq_167_32 i1 i2 i3 M (m + 1) = (((lq_167_32 i1 i2 i3 M m).1), ((lq_167_32 i1 i2 i3 M m).2.1), (lr_161_2 i1 (fl_u (lr_160_2 ((lq_167_32 i1 i2 i3 M m).2.2)) 82 3778 (Int32.ofNat m)))) := by
          rw [lqs_167_32]
          unfold ls_167_32
          simp only [if_neg h4, if_neg h6]
        have q := ih (m + 1) (by omega)
        rw [e] at q
        first | (rw [fi_s]; exact q) | (rw [← fi_s] at q; exact q) | (simp only [fi_s] at q ⊢; exact q)
  exact key (((M 81 1)).toNatClampNeg) 0 (Nat.zero_add _)
def v_167 (n : Int32) (M : fl_M) : Int32 := (if (¬ (n < 1)) ∧ (¬ (20 < n)) then (if (M 81 4) = 0 then (-4) else ((lr_167_32 n (-9) (-1) M).1)) else (-1))
def m_167 (n : Int32) (M : fl_M) : fl_M := (if (¬ (n < 1)) ∧ (¬ (20 < n)) then (if (M 81 4) = 0 then M else (fl_u ((lr_167_32 n (-9) (-1) M).2.2) 81 11 ((lr_167_32 n (-9) (-1) M).2.1))) else M)
set_option maxRecDepth 8000 in
theorem cc_167 (M : fl_M) (J : fl_J) (n : Int32) : fl_C 167 [.ref 81, .int n] M J (some (.int (v_167 n M)), (m_167 n M), J) :=
 fl_Co (B := fB167) rfl rfl <|
 fl_td (s' := (6, [.ref 81, .int n, .null, .null, .null], [.long 20, .long 1, .long n.toInt64], M, J)) (fl_n 4 rfl) <|
 fl_td (s' := (9, [.ref 81, .int n, .null, .null, .null], [.int (if (¬ (n < 1)) ∧ (¬ (20 < n)) then 1 else 0)], M, J)) (fl_cs (o := some (.int (if (¬ (n < 1)) ∧ (¬ (20 < n)) then 1 else 0))) rfl rfl rfl (cc_105i M J n 1 20) rfl) <|
 fl_dtwo (fl_if (t := 14) rfl rfl) fl_b1 (fun h1 =>
  fl_td (s' := (18, [.ref 81, .int n, .null, .null, .null], [.int (M 81 4)], M, J)) (fl_n 2 rfl) <|
  fl_dnot (fl_if (t := 24) rfl rfl) fl_cF (fun h2 =>
   fl_td (s' := (23, [.ref 81, .int n, .null, .null, .null], [.int (-4)], M, J)) (fl_n 1 rfl) <|
   fl_rt rfl (fun _ => rfl) (by unfold v_167 m_167; first | (simp only [if_pos h1, if_pos h2]; done) | rfl)) (fun h2 =>
   fl_td (s' := (32, [.ref 81, .int n, .int (-9), .int (-1), .int 0], [], M, J)) (fl_n 6 rfl) <|
   lp_167_32 n (-9) (-1) M J (fun u81 =>
    fx_gen (p := fun (MM82 : fl_M) => fl_dn fB167 (107, [.ref 81, .int n, .int ((lr_167_32 n (-9) (-1) M).1), .int ((lr_167_32 n (-9) (-1) M).2.1), u81], [], MM82, J) (some (.int (v_167 n M)), (m_167 n M), J)) ((lr_167_32 n (-9) (-1) M).2.2) (fun MM82 eMM82 =>
     fx_gen (p := fun (II83 : Int32) => fl_dn fB167 (107, [.ref 81, .int n, .int II83, .int ((lr_167_32 n (-9) (-1) M).2.1), u81], [], MM82, J) (some (.int (v_167 n M)), (m_167 n M), J)) ((lr_167_32 n (-9) (-1) M).1) (fun II83 eII83 =>
      fx_gen (p := fun (II84 : Int32) => fl_dn fB167 (107, [.ref 81, .int n, .int II83, .int II84, u81], [], MM82, J) (some (.int (v_167 n M)), (m_167 n M), J)) ((lr_167_32 n (-9) (-1) M).2.1) (fun II84 eII84 =>
       fl_td (s' := (113, [.ref 81, .int n, .int II83, .int II84, u81], [.int II83], (fl_u MM82 81 11 II84), J)) (fl_n 4 rfl) <|
       fl_rt rfl (fun _ => rfl) (by subst eMM82; subst eII83; subst eII84; unfold v_167 m_167; first | (simp only [if_pos h1, if_neg h2]; done) | rfl))))))) (fun h1 =>
  fl_td (s' := (13, [.ref 81, .int n, .null, .null, .null], [.int (-1)], M, J)) (fl_n 1 rfl) <|
  fl_rt rfl (fun _ => rfl) (by unfold v_167 m_167; first | (simp only [if_neg h1]; done) | rfl))
