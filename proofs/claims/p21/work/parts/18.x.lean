/-! Fault, register: exact contracts. -/
def fB14 : sm_P := (fun pc => sm_ch sm_t14 pc, sm_Kn 2 2 none, fun x => sm_lk sm_ca2 x, some .int)
def v_14 (t : Int32) (M : fl_M) : Int32 := (if (t < 0) ∨ (¬ (t < 4)) then (-1) else (if (M 9 t.toNatClampNeg) = (-1) then (-3) else ra_v M t))
def m_14 (t : Int32) (M : fl_M) : fl_M := (if (t < 0) ∨ (¬ (t < 4)) then M else (if (M 9 t.toNatClampNeg) = (-1) then (fl_u (fl_u M 0 11 1) 80 1 ((M 80 1) + 1)) else (ra_M M t)))
theorem cc_14 (M : fl_M) (J : fl_J) (t : Int32) (hs : ∀ q, q < 4 → (M 9 q).toInt ≤ 60) (hK : M 999 = sm_kl) : fl_C 14 [.ref 0, .int t] M J (some (.int (v_14 t M)), (m_14 t M), J) :=
 fl_Co (B := fB14) rfl rfl <|
 fl_td (s' := (1, [.ref 0, .int t], [.int t], M, J)) (fl_n 1 rfl) <|
 fl_td (s' := (4, [.ref 0, .int t], [.int (if (t < 0) ∨ (¬ (t < 4)) then 1 else 0)], M, J)) (fl_cs (o := some (.int (if (t < 0) ∨ (¬ (t < 4)) then 1 else 0))) rfl rfl rfl (cc_12 M J t) rfl) <|
 fl_dnot (fl_if (t := 9) rfl rfl) fl_b0 (fun h1 =>
  fl_td (s' := (8, [.ref 0, .int t], [.int (-1)], M, J)) (fl_n 1 rfl) <|
  fl_rt rfl (fun _ => rfl) (by unfold v_14 m_14; first | (simp only [if_pos h1]; done) | rfl)) (fun h1 =>
  fl_td (s' := (16, [.ref 0, .int t], [.int (-1), .int (M 9 t.toNatClampNeg)], M, J)) (fl_n 5 rfl) <|
  fl_dnot (fl_ic (t := 25) rfl rfl) fl_cF (fun h2 =>
   fl_td (s' := (21, [.ref 0, .int t], [.int 1, .ref 0], M, J)) (fl_n 2 rfl) <|
   fl_td (s' := (24, [.ref 0, .int t], [.int (-3)], (fl_u (fl_u M 0 11 1) 80 1 ((M 80 1) + 1)), J)) (fl_cv (o := some (.int (-3))) rfl rfl rfl rfl (cc_2 M J 1) rfl) <|
   fl_rt rfl (fun _ => rfl) (by unfold v_14 m_14; first | (simp only [if_neg h1, if_pos h2]; done) | rfl)) (fun h2 =>
   fl_td (s' := (27, [.ref 0, .int t], [.int t, .ref 0], M, J)) (fl_n 2 rfl) <|
   fl_td (s' := (30, [.ref 0, .int t], [.int (ra_v M t)], (ra_M M t), J)) (fl_cv (o := some (.int (ra_v M t))) rfl rfl rfl rfl (cc_15 0 M J t (ft_R4 (show ¬ ((t < 0) ∨ (¬ (t < 4))) by assumption)).1 (ft_R4 (show ¬ ((t < 0) ∨ (¬ (t < 4))) by assumption)).2.1 (hs _ (ft_R4 (show ¬ ((t < 0) ∨ (¬ (t < 4))) by assumption)).2.2) hK).2 rfl) <|
   fx_gen (p := fun (MM272 : fl_M) => fl_dn fB14 (30, [.ref 0, .int t], [.int (ra_v M t)], MM272, J) (some (.int (v_14 t M)), (m_14 t M), J)) (ra_M M t) (fun MM272 eMM272 =>
    fl_rt rfl (fun _ => rfl) (by subst eMM272; unfold v_14 m_14; first | (simp only [if_neg h1, if_neg h2]; done) | rfl))))
def fB21 : sm_P := (fun pc => sm_ch sm_t21 pc, sm_Kn 2 3 none, fun x => sm_lk sm_ca2 x, some .int)
-- MiceRegisters.register 66
def ls_21_66 (m : Nat) (q : fl_M) : fl_M := (fl_u q (fl_ar 46 (Int32.ofNat m).toNatClampNeg) 0 (-1))
def lq_21_66 (M : fl_M) (m : Nat) : fl_M := fx_it ls_21_66 m M
theorem lqs_21_66 (M : fl_M) (m : Nat) : lq_21_66 M (m + 1) = ls_21_66 m (lq_21_66 M m) := by
  unfold lq_21_66
  exact fx_it_s _ _ _
def lr_21_66 (M : fl_M) : fl_M := (lq_21_66 M (3))
theorem ts_21_66 {r : fl_Q} (i1 i2 : Int32) (M : fl_M) (J : fl_J) (q1 : (i2 < 3) → fl_dn fB21 (66, [.ref 0, .int i1, .int (i2 + 1)], [], (fl_u M (fl_ar 46 i2.toNatClampNeg) 0 (-1)), J) r) (q2 : (¬ (i2 < 3)) → fl_dn fB21 (87, [.ref 0, .int i1, .int i2], [], M, J) r) : fl_dn fB21 (66, [.ref 0, .int i1, .int i2], [], M, J) r :=
 fl_td (s' := (68, [.ref 0, .int i1, .int i2], [.int 3, .int i2], M, J)) (fl_n 2 rfl) <|
 fl_dnot (fl_ic (t := 87) rfl rfl) fl_nlt (fun h1 =>
  fl_td (s' := (66, [.ref 0, .int i1, .int (i2 + 1)], [], (fl_u M (fl_ar 46 i2.toNatClampNeg) 0 (-1)), J)) (fl_n 8 rfl) <|
  (q1 h1)) (fun h1 =>
  (q2 h1))
theorem lp_21_66 {r : fl_Q} (i1 : Int32) (M : fl_M) (J : fl_J) (hx : ∀ w2 : Value, fl_dn fB21 (87, [.ref 0, .int i1, w2], [], (lr_21_66 M), J) r) : fl_dn fB21 (66, [.ref 0, .int i1, .int 0], [], M, J) r := by
  have hb : (3 : Int32).toNatClampNeg = 3 := rfl
  have key : ∀ (n m : Nat), m + n = 3 → fl_dn fB21 (66, [.ref 0, .int i1, .int (Int32.ofNat m)], [], (lq_21_66 M m), J) r := by
    intro n
    induction n with
    | zero =>
      intro m hm
      have hm : m = 3 := by omega
      have hn : ¬ ((Int32.ofNat m) < 3) := fun z => by have z := (fi_lt (by omega)).mp z; omega
      exact ts_21_66 i1 (Int32.ofNat m) (lq_21_66 M m) J (fun h1 => absurd h1 hn) (fun h1 => (by have e : lr_21_66 M = lq_21_66 M m := (by show lq_21_66 M (3) = _; rw [← hm]); rw [e] at hx; exact hx _))
    | succ n ih =>
      intro m hm
      have hp : (Int32.ofNat m) < 3 := by exact (fi_lt (by omega)).mpr (by omega)
      refine ts_21_66 i1 (Int32.ofNat m) (lq_21_66 M m) J (fun h1 => ?_) (fun h1 => absurd hp h1)
      · have e : lq_21_66 M (m + 1) = (fl_u (lq_21_66 M m) (fl_ar 46 (Int32.ofNat m).toNatClampNeg) 0 (-1)) := by
          rw [lqs_21_66]
          unfold ls_21_66
          rfl
        have q := ih (m + 1) (by omega)
        rw [e] at q
        first | (rw [fi_s]; exact q) | (rw [← fi_s] at q; exact q) | (simp only [fi_s] at q ⊢; exact q)
  exact key (3) 0 (Nat.zero_add _)
def v_21 (t : Int32) (M : fl_M) : Int32 := (if (t < 0) ∨ (¬ (t < 4)) then (-1) else (if (M 9 t.toNatClampNeg) = (-1) then (-3) else (if (ra_v M t) = (-9) then (lr_21_66 (fl_u (m_23 15 24 (lr_22_53 24 (lr_22_18 24 (fl_u (fl_u (fl_u (ra_M M t) 24 2 0) 24 3 (-9)) 24 4 0)))) 42 0 0)) 15 1 else (-4))))
def m_21 (t : Int32) (M : fl_M) : fl_M := (if (t < 0) ∨ (¬ (t < 4)) then M else (if (M 9 t.toNatClampNeg) = (-1) then (fl_u (fl_u M 0 11 1) 80 1 ((M 80 1) + 1)) else (if (ra_v M t) = (-9) then (lr_21_66 (fl_u (m_23 15 24 (lr_22_53 24 (lr_22_18 24 (fl_u (fl_u (fl_u (ra_M M t) 24 2 0) 24 3 (-9)) 24 4 0)))) 42 0 0)) else (ra_M M t))))
theorem cc_21 (M : fl_M) (J : fl_J) (t : Int32) (hs : ∀ q, q < 4 → (M 9 q).toInt ≤ 60) (hK : M 999 = sm_kl) : fl_C 21 [.ref 0, .int t] M J (some (.int (v_21 t M)), (m_21 t M), J) :=
 fl_Co (B := fB21) rfl rfl <|
 fl_td (s' := (1, [.ref 0, .int t, .null], [.int t], M, J)) (fl_n 1 rfl) <|
 fl_td (s' := (4, [.ref 0, .int t, .null], [.int (if (t < 0) ∨ (¬ (t < 4)) then 1 else 0)], M, J)) (fl_cs (o := some (.int (if (t < 0) ∨ (¬ (t < 4)) then 1 else 0))) rfl rfl rfl (cc_12 M J t) rfl) <|
 fl_dnot (fl_if (t := 9) rfl rfl) fl_b0 (fun h1 =>
  fl_td (s' := (8, [.ref 0, .int t, .null], [.int (-1)], M, J)) (fl_n 1 rfl) <|
  fl_rt rfl (fun _ => rfl) (by unfold v_21 m_21; first | (simp only [if_pos h1]; done) | rfl)) (fun h1 =>
  fl_td (s' := (16, [.ref 0, .int t, .null], [.int (-1), .int (M 9 t.toNatClampNeg)], M, J)) (fl_n 5 rfl) <|
  fl_dnot (fl_ic (t := 25) rfl rfl) fl_cF (fun h2 =>
   fl_td (s' := (21, [.ref 0, .int t, .null], [.int 1, .ref 0], M, J)) (fl_n 2 rfl) <|
   fl_td (s' := (24, [.ref 0, .int t, .null], [.int (-3)], (fl_u (fl_u M 0 11 1) 80 1 ((M 80 1) + 1)), J)) (fl_cv (o := some (.int (-3))) rfl rfl rfl rfl (cc_2 M J 1) rfl) <|
   fl_rt rfl (fun _ => rfl) (by unfold v_21 m_21; first | (simp only [if_neg h1, if_pos h2]; done) | rfl)) (fun h2 =>
   fl_td (s' := (27, [.ref 0, .int t, .null], [.int t, .ref 0], M, J)) (fl_n 2 rfl) <|
   fl_td (s' := (30, [.ref 0, .int t, .null], [.int (ra_v M t)], (ra_M M t), J)) (fl_cv (o := some (.int (ra_v M t))) rfl rfl rfl rfl (cc_15 0 M J t (ft_R4 (show ¬ ((t < 0) ∨ (¬ (t < 4))) by assumption)).1 (ft_R4 (show ¬ ((t < 0) ∨ (¬ (t < 4))) by assumption)).2.1 (hs _ (ft_R4 (show ¬ ((t < 0) ∨ (¬ (t < 4))) by assumption)).2.2) hK).2 rfl) <|
   fx_gen (p := fun (MM273 : fl_M) => fl_dn fB21 (30, [.ref 0, .int t, .null], [.int (ra_v M t)], MM273, J) (some (.int (v_21 t M)), (m_21 t M), J)) (ra_M M t) (fun MM273 eMM273 =>
    fl_td (s' := (32, [.ref 0, .int t, .null], [.int (-9), .int (ra_v M t)], MM273, J)) (fl_n 1 rfl) <|
    fl_dtwo (fl_ic (t := 38) rfl rfl) fl_cT (fun h4 =>
     fl_td (s' := (42, [.ref 0, .int t, .null], [.ref 24], MM273, J)) (fl_n 2 rfl) <|
     fl_td (s' := (45, [.ref 0, .int t, .null], [], (lr_22_53 24 (lr_22_18 24 (fl_u (fl_u (fl_u MM273 24 2 0) 24 3 (-9)) 24 4 0))), J)) (fl_cv (o := none) rfl rfl rfl rfl (cc_22 MM273 J 24) rfl) <|
     fx_gen (p := fun (MM274 : fl_M) => fl_dn fB21 (45, [.ref 0, .int t, .null], [], MM274, J) (some (.int (v_21 t M)), (m_21 t M), J)) (lr_22_53 24 (lr_22_18 24 (fl_u (fl_u (fl_u MM273 24 2 0) 24 3 (-9)) 24 4 0))) (fun MM274 eMM274 =>
      fl_td (s' := (53, [.ref 0, .int t, .null], [.ref 24, .ref 15], MM274, J)) (fl_n 4 rfl) <|
      fl_td (s' := (56, [.ref 0, .int t, .null], [], (m_23 15 24 MM274), J)) (fl_cv (o := none) rfl rfl rfl rfl (cc_23 MM274 J 15 24) rfl) <|
      fx_gen (p := fun (MM275 : fl_M) => fl_dn fB21 (56, [.ref 0, .int t, .null], [], MM275, J) (some (.int (v_21 t M)), (m_21 t M), J)) (m_23 15 24 MM274) (fun MM275 eMM275 =>
       fl_td (s' := (66, [.ref 0, .int t, .int 0], [], (fl_u MM275 42 0 0), J)) (fl_n 6 rfl) <|
       lp_21_66 t (fl_u MM275 42 0 0) J (fun u276 =>
        fx_gen (p := fun (MM277 : fl_M) => fl_dn fB21 (87, [.ref 0, .int t, u276], [], MM277, J) (some (.int (v_21 t M)), (m_21 t M), J)) (lr_21_66 (fl_u MM275 42 0 0)) (fun MM277 eMM277 =>
         fl_td (s' := (94, [.ref 0, .int t, u276], [.int (MM277 15 1)], MM277, J)) (fl_n 3 rfl) <|
         fl_rt rfl (fun _ => rfl) (by subst eMM273; subst eMM274; subst eMM275; subst eMM277; unfold v_21 m_21; first | (simp only [if_neg h1, if_neg h2, if_pos h4]; done) | rfl)))))) (fun h4 =>
     fl_td (s' := (37, [.ref 0, .int t, .null], [.int (-4)], MM273, J)) (fl_n 1 rfl) <|
     fl_rt rfl (fun _ => rfl) (by subst eMM273; unfold v_21 m_21; first | (simp only [if_neg h1, if_neg h2, if_neg h4]; done) | rfl)))))
def fB119 : sm_P := (fun pc => sm_ch sm_t119 pc, sm_Kn 3 2 none, fun x => sm_lk sm_ca3 x, some .int)
def v_119 (t : Int32) (M : fl_M) : Int32 := (if (¬ (t < 0)) ∧ (¬ (3 < t)) then (if (M 89 t.toNatClampNeg) < 0 then (-3) else fo_v M t) else (-1))
def m_119 (t : Int32) (M : fl_M) : fl_M := (if (¬ (t < 0)) ∧ (¬ (3 < t)) then (if (M 89 t.toNatClampNeg) < 0 then (fl_u (fl_u M 81 14 1) 91 1 ((M 91 1) + 1)) else (fo_M M t)) else M)
set_option maxRecDepth 8000 in
theorem cc_119 (M : fl_M) (J : fl_J) (t : Int32) (hs : ∀ q, q < 4 → (M 89 q).toInt ≤ 60) : fl_C 119 [.ref 81, .int t] M J (some (.int (v_119 t M)), (m_119 t M), J) :=
 fl_Co (B := fB119) rfl rfl <|
 fl_td (s' := (1, [.ref 81, .int t], [.int t], M, J)) (fl_n 1 rfl) <|
 fl_td (s' := (4, [.ref 81, .int t], [.int (if (¬ (t < 0)) ∧ (¬ (3 < t)) then 1 else 0)], M, J)) (fl_cs (o := some (.int (if (¬ (t < 0)) ∧ (¬ (3 < t)) then 1 else 0))) rfl rfl rfl (cc_117 M J t) rfl) <|
 fl_dtwo (fl_if (t := 9) rfl rfl) fl_b1 (fun h1 =>
  fl_td (s' := (15, [.ref 81, .int t], [.int (M 89 t.toNatClampNeg)], M, J)) (fl_n 4 rfl) <|
  fl_dnot (fl_if (t := 26) rfl rfl) fl_nlt (fun h2 =>
   fl_td (s' := (20, [.ref 81, .int t], [.int 1, .ref 81], M, J)) (fl_n 2 rfl) <|
   fl_td (s' := (23, [.ref 81, .int t], [.int (-3)], (fl_u (fl_u M 81 14 1) 91 1 ((M 91 1) + 1)), J)) (fl_cv (o := some (.int (-3))) rfl rfl rfl rfl (cc_106 M J 1) rfl) <|
   fl_td (s' := (31, [.ref 81, .int t], [.int (-3)], (fl_u (fl_u M 81 14 1) 91 1 ((M 91 1) + 1)), J)) (fl_n 1 rfl) <|
   fl_rt rfl (fun _ => rfl) (by unfold v_119 m_119; first | (simp only [if_pos h1, if_pos h2]; done) | rfl)) (fun h2 =>
   fl_td (s' := (28, [.ref 81, .int t], [.int t, .ref 81], M, J)) (fl_n 2 rfl) <|
   fl_td (s' := (31, [.ref 81, .int t], [.int (fo_v M t)], (fo_M M t), J)) (fl_cv (o := some (.int (fo_v M t))) rfl rfl rfl rfl (cc_120 0 M J t (ft_R4 (ft_A3.mp (show (¬ (t < 0)) ∧ (¬ (3 < t)) by assumption))).1 (ft_R4 (ft_A3.mp (show (¬ (t < 0)) ∧ (¬ (3 < t)) by assumption))).2.1 (by have z := fi_ge.mp (show ¬ (M 89 t.toNatClampNeg) < 0 by assumption); rw [fi_i0] at z; exact z) (hs _ (ft_R4 (ft_A3.mp (show (¬ (t < 0)) ∧ (¬ (3 < t)) by assumption))).2.2)).2 rfl) <|
   fx_gen (p := fun (MM196 : fl_M) => fl_dn fB119 (31, [.ref 81, .int t], [.int (fo_v M t)], MM196, J) (some (.int (v_119 t M)), (m_119 t M), J)) (fo_M M t) (fun MM196 eMM196 =>
    fl_rt rfl (fun _ => rfl) (by subst eMM196; unfold v_119 m_119; first | (simp only [if_pos h1, if_neg h2]; done) | rfl)))) (fun h1 =>
  fl_td (s' := (8, [.ref 81, .int t], [.int (-1)], M, J)) (fl_n 1 rfl) <|
  fl_rt rfl (fun _ => rfl) (by unfold v_119 m_119; first | (simp only [if_neg h1]; done) | rfl))
def fB129 : sm_P := (fun pc => sm_ch sm_t129 pc, sm_Kn 3 3 none, fun x => sm_lk sm_ca3 x, some .int)
-- MiceRegistersModel.register 39
def ls_129_39 (m : Nat) (q : fl_M) : fl_M := (fl_u q 82 (Int32.ofNat m).toNatClampNeg 0)
def lq_129_39 (M : fl_M) (m : Nat) : fl_M := fx_it ls_129_39 m M
theorem lqs_129_39 (M : fl_M) (m : Nat) : lq_129_39 M (m + 1) = ls_129_39 m (lq_129_39 M m) := by
  unfold lq_129_39
  exact fx_it_s _ _ _
def lr_129_39 (M : fl_M) : fl_M := (lq_129_39 M (944))
set_option maxRecDepth 8000 in
theorem ts_129_39 {r : fl_Q} (i1 i2 : Int32) (M : fl_M) (J : fl_J) (q1 : (i2 < 944) → fl_dn fB129 (39, [.ref 81, .int i1, .int (i2 + 1)], [], (fl_u M 82 i2.toNatClampNeg 0), J) r) (q2 : (¬ (i2 < 944)) → fl_dn fB129 (59, [.ref 81, .int i1, .int i2], [], M, J) r) : fl_dn fB129 (39, [.ref 81, .int i1, .int i2], [], M, J) r :=
 fl_td (s' := (43, [.ref 81, .int i1, .int i2], [.int 944, .int i2], M, J)) (fl_n 2 rfl) <|
 fl_dnot (fl_ic (t := 59) rfl rfl) fl_nlt (fun h1 =>
  fl_td (s' := (39, [.ref 81, .int i1, .int (i2 + 1)], [], (fl_u M 82 i2.toNatClampNeg 0), J)) (fl_n 7 rfl) <|
  (q1 h1)) (fun h1 =>
  (q2 h1))
theorem lp_129_39 {r : fl_Q} (i1 : Int32) (M : fl_M) (J : fl_J) (hx : ∀ w2 : Value, fl_dn fB129 (59, [.ref 81, .int i1, w2], [], (lr_129_39 M), J) r) : fl_dn fB129 (39, [.ref 81, .int i1, .int 0], [], M, J) r := by
  have hb : (944 : Int32).toNatClampNeg = 944 := rfl
  have key : ∀ (n m : Nat), m + n = 944 → fl_dn fB129 (39, [.ref 81, .int i1, .int (Int32.ofNat m)], [], (lq_129_39 M m), J) r := by
    intro n
    induction n with
    | zero =>
      intro m hm
      have hm : m = 944 := by omega
      have hn : ¬ ((Int32.ofNat m) < 944) := fun z => by have z := (fi_lt (by omega)).mp z; omega
      exact ts_129_39 i1 (Int32.ofNat m) (lq_129_39 M m) J (fun h1 => absurd h1 hn) (fun h1 => (by have e : lr_129_39 M = lq_129_39 M m := (by show lq_129_39 M (944) = _; rw [← hm]); rw [e] at hx; exact hx _))
    | succ n ih =>
      intro m hm
      have hp : (Int32.ofNat m) < 944 := by exact (fi_lt (by omega)).mpr (by omega)
      refine ts_129_39 i1 (Int32.ofNat m) (lq_129_39 M m) J (fun h1 => ?_) (fun h1 => absurd hp h1)
      · have e : lq_129_39 M (m + 1) = (fl_u (lq_129_39 M m) 82 (Int32.ofNat m).toNatClampNeg 0) := by
          rw [lqs_129_39]
          unfold ls_129_39
          rfl
        have q := ih (m + 1) (by omega)
        rw [e] at q
        first | (rw [fi_s]; exact q) | (rw [← fi_s] at q; exact q) | (simp only [fi_s] at q ⊢; exact q)
  exact key (944) 0 (Nat.zero_add _)
-- MiceRegistersModel.register 85
def ls_129_85 (m : Nat) (q : fl_M) : fl_M := (fl_u (fl_u (fl_u q 83 (Int32.ofNat m).toNatClampNeg (q 92 (Int32.ofNat m).toNatClampNeg)) 84 (Int32.ofNat m).toNatClampNeg (q 93 (Int32.ofNat m).toNatClampNeg)) 82 ((4 + (Int32.ofNat m)).toNatClampNeg) (q 93 (Int32.ofNat m).toNatClampNeg))
def lq_129_85 (M : fl_M) (m : Nat) : fl_M := fx_it ls_129_85 m M
theorem lqs_129_85 (M : fl_M) (m : Nat) : lq_129_85 M (m + 1) = ls_129_85 m (lq_129_85 M m) := by
  unfold lq_129_85
  exact fx_it_s _ _ _
def lr_129_85 (M : fl_M) : fl_M := (lq_129_85 M (((M 81 1)).toNatClampNeg))
set_option maxRecDepth 8000 in
theorem ts_129_85 {r : fl_Q} (i1 i2 : Int32) (M : fl_M) (J : fl_J) (q1 : (i2 < (M 81 1)) → fl_dn fB129 (85, [.ref 81, .int i1, .int (i2 + 1)], [], (fl_u (fl_u (fl_u M 83 i2.toNatClampNeg (M 92 i2.toNatClampNeg)) 84 i2.toNatClampNeg (M 93 i2.toNatClampNeg)) 82 ((4 + i2).toNatClampNeg) (M 93 i2.toNatClampNeg)), J) r) (q2 : (¬ (i2 < (M 81 1))) → fl_dn fB129 (137, [.ref 81, .int i1, .int i2], [], M, J) r) : fl_dn fB129 (85, [.ref 81, .int i1, .int i2], [], M, J) r :=
 fl_td (s' := (90, [.ref 81, .int i1, .int i2], [.int (M 81 1), .int i2], M, J)) (fl_n 3 rfl) <|
 fl_dnot (fl_ic (t := 137) rfl rfl) fl_nlt (fun h1 =>
  fl_td (s' := (85, [.ref 81, .int i1, .int (i2 + 1)], [], (fl_u (fl_u (fl_u M 83 i2.toNatClampNeg (M 92 i2.toNatClampNeg)) 84 i2.toNatClampNeg (M 93 i2.toNatClampNeg)) 82 ((4 + i2).toNatClampNeg) (M 93 i2.toNatClampNeg)), J)) (fl_n 28 rfl) <|
  (q1 h1)) (fun h1 =>
  (q2 h1))
theorem lk_129_85 (M : fl_M) (m : Nat) : ((lq_129_85 M m) 81 1) = (M 81 1) := by
  induction m with
  | zero => rfl
  | succ m ih =>
    rw [← ih]
    rw [lqs_129_85]
    generalize lq_129_85 M m = q
    unfold ls_129_85
    (repeat' split) <;> first | with_reducible rfl | (simp [fl_u, fw_150_5, fw_150_130, fw_150, fw_149, fw_156, fw_160, fw_161, fw_166, fw_171]; done) | rfl
theorem lp_129_85 {r : fl_Q} (i1 : Int32) (M : fl_M) (J : fl_J) (hx : ∀ w2 : Value, fl_dn fB129 (137, [.ref 81, .int i1, w2], [], (lr_129_85 M), J) r) : fl_dn fB129 (85, [.ref 81, .int i1, .int 0], [], M, J) r := by
  have hb := fi_bd (M 81 1)
  have hB := fun m => lk_129_85 M m
  have key : ∀ (n m : Nat), m + n = ((M 81 1)).toNatClampNeg → fl_dn fB129 (85, [.ref 81, .int i1, .int (Int32.ofNat m)], [], (lq_129_85 M m), J) r := by
    intro n
    induction n with
    | zero =>
      intro m hm
      have hm : m = ((M 81 1)).toNatClampNeg := by omega
      have hn : ¬ ((Int32.ofNat m) < ((lq_129_85 M m) 81 1)) := fun z => by rw [hB m] at z; have z := (fi_lt (by omega)).mp z; omega
      exact ts_129_85 i1 (Int32.ofNat m) (lq_129_85 M m) J (fun h1 => absurd h1 hn) (fun h1 => (by have e : lr_129_85 M = lq_129_85 M m := (by show lq_129_85 M (((M 81 1)).toNatClampNeg) = _; rw [← hm]); rw [e] at hx; exact hx _))
    | succ n ih =>
      intro m hm
      have hp : (Int32.ofNat m) < ((lq_129_85 M m) 81 1) := by rw [hB m]; exact (fi_lt (by omega)).mpr (by omega)
      refine ts_129_85 i1 (Int32.ofNat m) (lq_129_85 M m) J (fun h1 => ?_) (fun h1 => absurd hp h1)
      · have e : lq_129_85 M (m + 1) = (fl_u (fl_u (fl_u (lq_129_85 M m) 83 (Int32.ofNat m).toNatClampNeg ((lq_129_85 M m) 92 (Int32.ofNat m).toNatClampNeg)) 84 (Int32.ofNat m).toNatClampNeg ((lq_129_85 M m) 93 (Int32.ofNat m).toNatClampNeg)) 82 ((4 + (Int32.ofNat m)).toNatClampNeg) ((lq_129_85 M m) 93 (Int32.ofNat m).toNatClampNeg)) := by
          rw [lqs_129_85]
          unfold ls_129_85
          rfl
        have q := ih (m + 1) (by omega)
        rw [e] at q
        first | (rw [fi_s]; exact q) | (rw [← fi_s] at q; exact q) | (simp only [fi_s] at q ⊢; exact q)
  exact key (((M 81 1)).toNatClampNeg) 0 (Nat.zero_add _)
-- MiceRegistersModel.register 139
def ls_129_139 (m : Nat) (q : fl_M) : fl_M := (fl_u (fl_u (fl_u q 85 (Int32.ofNat m).toNatClampNeg (q 94 ((3 * (Int32.ofNat m)).toNatClampNeg))) 82 ((20 + (Int32.ofNat m)).toNatClampNeg) (q 94 (((3 * (Int32.ofNat m)) + 1).toNatClampNeg))) 86 (Int32.ofNat m).toNatClampNeg (q 94 (((3 * (Int32.ofNat m)) + 2).toNatClampNeg)))
def lq_129_139 (M : fl_M) (m : Nat) : fl_M := fx_it ls_129_139 m M
theorem lqs_129_139 (M : fl_M) (m : Nat) : lq_129_139 M (m + 1) = ls_129_139 m (lq_129_139 M m) := by
  unfold lq_129_139
  exact fx_it_s _ _ _
def lr_129_139 (M : fl_M) : fl_M := (lq_129_139 M (((M 81 4)).toNatClampNeg))
set_option maxRecDepth 8000 in
theorem ts_129_139 {r : fl_Q} (i1 i2 : Int32) (M : fl_M) (J : fl_J) (q1 : (i2 < (M 81 4)) → fl_dn fB129 (139, [.ref 81, .int i1, .int (i2 + 1)], [], (fl_u (fl_u (fl_u M 85 i2.toNatClampNeg (M 94 ((3 * i2).toNatClampNeg))) 82 ((20 + i2).toNatClampNeg) (M 94 (((3 * i2) + 1).toNatClampNeg))) 86 i2.toNatClampNeg (M 94 (((3 * i2) + 2).toNatClampNeg))), J) r) (q2 : (¬ (i2 < (M 81 4))) → fl_dn fB129 (202, [.ref 81, .int i1, .int i2], [], M, J) r) : fl_dn fB129 (139, [.ref 81, .int i1, .int i2], [], M, J) r :=
 fl_td (s' := (144, [.ref 81, .int i1, .int i2], [.int (M 81 4), .int i2], M, J)) (fl_n 3 rfl) <|
 fl_dnot (fl_ic (t := 202) rfl rfl) fl_nlt (fun h1 =>
  fl_td (s' := (139, [.ref 81, .int i1, .int (i2 + 1)], [], (fl_u (fl_u (fl_u M 85 i2.toNatClampNeg (M 94 ((3 * i2).toNatClampNeg))) 82 ((20 + i2).toNatClampNeg) (M 94 (((3 * i2) + 1).toNatClampNeg))) 86 i2.toNatClampNeg (M 94 (((3 * i2) + 2).toNatClampNeg))), J)) (fl_n 38 rfl) <|
  (q1 h1)) (fun h1 =>
  (q2 h1))
theorem lk_129_139 (M : fl_M) (m : Nat) : ((lq_129_139 M m) 81 4) = (M 81 4) := by
  induction m with
  | zero => rfl
  | succ m ih =>
    rw [← ih]
    rw [lqs_129_139]
    generalize lq_129_139 M m = q
    unfold ls_129_139
    (repeat' split) <;> first | with_reducible rfl | (simp [fl_u, fw_150_5, fw_150_130, fw_150, fw_149, fw_156, fw_160, fw_161, fw_166, fw_171]; done) | rfl
theorem lp_129_139 {r : fl_Q} (i1 : Int32) (M : fl_M) (J : fl_J) (hx : ∀ w2 : Value, fl_dn fB129 (202, [.ref 81, .int i1, w2], [], (lr_129_139 M), J) r) : fl_dn fB129 (139, [.ref 81, .int i1, .int 0], [], M, J) r := by
  have hb := fi_bd (M 81 4)
  have hB := fun m => lk_129_139 M m
  have key : ∀ (n m : Nat), m + n = ((M 81 4)).toNatClampNeg → fl_dn fB129 (139, [.ref 81, .int i1, .int (Int32.ofNat m)], [], (lq_129_139 M m), J) r := by
    intro n
    induction n with
    | zero =>
      intro m hm
      have hm : m = ((M 81 4)).toNatClampNeg := by omega
      have hn : ¬ ((Int32.ofNat m) < ((lq_129_139 M m) 81 4)) := fun z => by rw [hB m] at z; have z := (fi_lt (by omega)).mp z; omega
      exact ts_129_139 i1 (Int32.ofNat m) (lq_129_139 M m) J (fun h1 => absurd h1 hn) (fun h1 => (by have e : lr_129_139 M = lq_129_139 M m := (by show lq_129_139 M (((M 81 4)).toNatClampNeg) = _; rw [← hm]); rw [e] at hx; exact hx _))
    | succ n ih =>
      intro m hm
      have hp : (Int32.ofNat m) < ((lq_129_139 M m) 81 4) := by rw [hB m]; exact (fi_lt (by omega)).mpr (by omega)
      refine ts_129_139 i1 (Int32.ofNat m) (lq_129_139 M m) J (fun h1 => ?_) (fun h1 => absurd hp h1)
      · have e : lq_129_139 M (m + 1) = (fl_u (fl_u (fl_u (lq_129_139 M m) 85 (Int32.ofNat m).toNatClampNeg ((lq_129_139 M m) 94 ((3 * (Int32.ofNat m)).toNatClampNeg))) 82 ((20 + (Int32.ofNat m)).toNatClampNeg) ((lq_129_139 M m) 94 (((3 * (Int32.ofNat m)) + 1).toNatClampNeg))) 86 (Int32.ofNat m).toNatClampNeg ((lq_129_139 M m) 94 (((3 * (Int32.ofNat m)) + 2).toNatClampNeg))) := by
          rw [lqs_129_139]
          unfold ls_129_139
          rfl
        have q := ih (m + 1) (by omega)
        rw [e] at q
        first | (rw [fi_s]; exact q) | (rw [← fi_s] at q; exact q) | (simp only [fi_s] at q ⊢; exact q)
  exact key (((M 81 4)).toNatClampNeg) 0 (Nat.zero_add _)
-- MiceRegistersModel.register 204
def ls_129_204 (m : Nat) (q : fl_M) : fl_M := (fl_u q 82 (((944 * (Int32.ofNat (1 + m))) + 0).toNatClampNeg) (-1))
def lq_129_204 (M : fl_M) (m : Nat) : fl_M := fx_it ls_129_204 m M
theorem lqs_129_204 (M : fl_M) (m : Nat) : lq_129_204 M (m + 1) = ls_129_204 m (lq_129_204 M m) := by
  unfold lq_129_204
  exact fx_it_s _ _ _
def lr_129_204 (M : fl_M) : fl_M := (lq_129_204 M (3))
set_option maxRecDepth 8000 in
theorem ts_129_204 {r : fl_Q} (i1 i2 : Int32) (M : fl_M) (J : fl_J) (q1 : (i2 < 4) → fl_dn fB129 (204, [.ref 81, .int i1, .int (i2 + 1)], [], (fl_u M 82 (((944 * i2) + 0).toNatClampNeg) (-1)), J) r) (q2 : (¬ (i2 < 4)) → fl_dn fB129 (228, [.ref 81, .int i1, .int i2], [], M, J) r) : fl_dn fB129 (204, [.ref 81, .int i1, .int i2], [], M, J) r :=
 fl_td (s' := (206, [.ref 81, .int i1, .int i2], [.int 4, .int i2], M, J)) (fl_n 2 rfl) <|
 fl_dnot (fl_ic (t := 228) rfl rfl) fl_nlt (fun h1 =>
  fl_td (s' := (204, [.ref 81, .int i1, .int (i2 + 1)], [], (fl_u M 82 (((944 * i2) + 0).toNatClampNeg) (-1)), J)) (fl_n 11 rfl) <|
  (q1 h1)) (fun h1 =>
  (q2 h1))
theorem lp_129_204 {r : fl_Q} (i1 : Int32) (M : fl_M) (J : fl_J) (hx : ∀ w2 : Value, fl_dn fB129 (228, [.ref 81, .int i1, w2], [], (lr_129_204 M), J) r) : fl_dn fB129 (204, [.ref 81, .int i1, .int 1], [], M, J) r := by
  have hb : (4 : Int32).toNatClampNeg = 4 := rfl
  have key : ∀ (n m : Nat), m + n = 3 → fl_dn fB129 (204, [.ref 81, .int i1, .int (Int32.ofNat (1 + m))], [], (lq_129_204 M m), J) r := by
    intro n
    induction n with
    | zero =>
      intro m hm
      have hm : m = 3 := by omega
      have hn : ¬ ((Int32.ofNat (1 + m)) < 4) := fun z => by have z := (fi_lt (by omega)).mp z; omega
      exact ts_129_204 i1 (Int32.ofNat (1 + m)) (lq_129_204 M m) J (fun h1 => absurd h1 hn) (fun h1 => (by have e : lr_129_204 M = lq_129_204 M m := (by show lq_129_204 M (3) = _; rw [← hm]); rw [e] at hx; exact hx _))
    | succ n ih =>
      intro m hm
      have hp : (Int32.ofNat (1 + m)) < 4 := by exact (fi_lt (by omega)).mpr (by omega)
      refine ts_129_204 i1 (Int32.ofNat (1 + m)) (lq_129_204 M m) J (fun h1 => ?_) (fun h1 => absurd hp h1)
      · have e : lq_129_204 M (m + 1) = (fl_u (lq_129_204 M m) 82 (((944 * (Int32.ofNat (1 + m))) + 0).toNatClampNeg) (-1)) := by
          rw [lqs_129_204]
          unfold ls_129_204
          rfl
        have q := ih (m + 1) (by omega)
        rw [e] at q
        first | (rw [fi_s]; exact q) | (rw [← fi_s] at q; exact q) | (simp only [fi_s] at q ⊢; exact q)
  exact key (3) 0 (Nat.zero_add _)
def v_129 (t : Int32) (M : fl_M) : Int32 := (if (¬ (t < 0)) ∧ (¬ (3 < t)) then (if (M 89 t.toNatClampNeg) < 0 then (-3) else (if (fo_v M t) = (-9) then (lr_129_204 (lr_129_139 (lr_129_85 (fl_u (fl_u (fl_u (lr_129_39 (fo_M M t)) 82 2 (-9)) 81 1 ((lr_129_39 (fo_M M t)) 81 19)) 81 4 ((lr_129_39 (fo_M M t)) 81 22))))) 81 4 else (-4))) else (-1))
def m_129 (t : Int32) (M : fl_M) : fl_M := (if (¬ (t < 0)) ∧ (¬ (3 < t)) then (if (M 89 t.toNatClampNeg) < 0 then (fl_u (fl_u M 81 14 1) 91 1 ((M 91 1) + 1)) else (if (fo_v M t) = (-9) then (lr_129_204 (lr_129_139 (lr_129_85 (fl_u (fl_u (fl_u (lr_129_39 (fo_M M t)) 82 2 (-9)) 81 1 ((lr_129_39 (fo_M M t)) 81 19)) 81 4 ((lr_129_39 (fo_M M t)) 81 22))))) else (fo_M M t))) else M)
set_option maxRecDepth 8000 in
theorem cc_129 (M : fl_M) (J : fl_J) (t : Int32) (hs : ∀ q, q < 4 → (M 89 q).toInt ≤ 60) : fl_C 129 [.ref 81, .int t] M J (some (.int (v_129 t M)), (m_129 t M), J) :=
 fl_Co (B := fB129) rfl rfl <|
 fl_td (s' := (1, [.ref 81, .int t, .null], [.int t], M, J)) (fl_n 1 rfl) <|
 fl_td (s' := (4, [.ref 81, .int t, .null], [.int (if (¬ (t < 0)) ∧ (¬ (3 < t)) then 1 else 0)], M, J)) (fl_cs (o := some (.int (if (¬ (t < 0)) ∧ (¬ (3 < t)) then 1 else 0))) rfl rfl rfl (cc_117 M J t) rfl) <|
 fl_dtwo (fl_if (t := 9) rfl rfl) fl_b1 (fun h1 =>
  fl_td (s' := (15, [.ref 81, .int t, .null], [.int (M 89 t.toNatClampNeg)], M, J)) (fl_n 4 rfl) <|
  fl_dnot (fl_if (t := 24) rfl rfl) fl_nlt (fun h2 =>
   fl_td (s' := (20, [.ref 81, .int t, .null], [.int 1, .ref 81], M, J)) (fl_n 2 rfl) <|
   fl_td (s' := (23, [.ref 81, .int t, .null], [.int (-3)], (fl_u (fl_u M 81 14 1) 91 1 ((M 91 1) + 1)), J)) (fl_cv (o := some (.int (-3))) rfl rfl rfl rfl (cc_106 M J 1) rfl) <|
   fl_rt rfl (fun _ => rfl) (by unfold v_129 m_129; first | (simp only [if_pos h1, if_pos h2]; done) | rfl)) (fun h2 =>
   fl_td (s' := (26, [.ref 81, .int t, .null], [.int t, .ref 81], M, J)) (fl_n 2 rfl) <|
   fl_td (s' := (29, [.ref 81, .int t, .null], [.int (fo_v M t)], (fo_M M t), J)) (fl_cv (o := some (.int (fo_v M t))) rfl rfl rfl rfl (cc_120 0 M J t (ft_R4 (ft_A3.mp (show (¬ (t < 0)) ∧ (¬ (3 < t)) by assumption))).1 (ft_R4 (ft_A3.mp (show (¬ (t < 0)) ∧ (¬ (3 < t)) by assumption))).2.1 (by have z := fi_ge.mp (show ¬ (M 89 t.toNatClampNeg) < 0 by assumption); rw [fi_i0] at z; exact z) (hs _ (ft_R4 (ft_A3.mp (show (¬ (t < 0)) ∧ (¬ (3 < t)) by assumption))).2.2)).2 rfl) <|
   fx_gen (p := fun (MM197 : fl_M) => fl_dn fB129 (29, [.ref 81, .int t, .null], [.int (fo_v M t)], MM197, J) (some (.int (v_129 t M)), (m_129 t M), J)) (fo_M M t) (fun MM197 eMM197 =>
    fl_td (s' := (31, [.ref 81, .int t, .null], [.int (-9), .int (fo_v M t)], MM197, J)) (fl_n 1 rfl) <|
    fl_dtwo (fl_ic (t := 37) rfl rfl) fl_cT (fun h4 =>
     fl_td (s' := (39, [.ref 81, .int t, .int 0], [], MM197, J)) (fl_n 2 rfl) <|
     lp_129_39 t MM197 J (fun u198 =>
      fx_gen (p := fun (MM199 : fl_M) => fl_dn fB129 (59, [.ref 81, .int t, u198], [], MM199, J) (some (.int (v_129 t M)), (m_129 t M), J)) (lr_129_39 MM197) (fun MM199 eMM199 =>
       fl_td (s' := (85, [.ref 81, .int t, .int 0], [], (fl_u (fl_u (fl_u MM199 82 2 (-9)) 81 1 (MM199 81 19)) 81 4 (MM199 81 22)), J)) (fl_n 15 rfl) <|
       lp_129_85 t (fl_u (fl_u (fl_u MM199 82 2 (-9)) 81 1 (MM199 81 19)) 81 4 (MM199 81 22)) J (fun u200 =>
        fx_gen (p := fun (MM201 : fl_M) => fl_dn fB129 (137, [.ref 81, .int t, u200], [], MM201, J) (some (.int (v_129 t M)), (m_129 t M), J)) (lr_129_85 (fl_u (fl_u (fl_u MM199 82 2 (-9)) 81 1 (MM199 81 19)) 81 4 (MM199 81 22))) (fun MM201 eMM201 =>
         fl_td (s' := (139, [.ref 81, .int t, .int 0], [], MM201, J)) (fl_n 2 rfl) <|
         lp_129_139 t MM201 J (fun u202 =>
          fx_gen (p := fun (MM203 : fl_M) => fl_dn fB129 (202, [.ref 81, .int t, u202], [], MM203, J) (some (.int (v_129 t M)), (m_129 t M), J)) (lr_129_139 MM201) (fun MM203 eMM203 =>
           fl_td (s' := (204, [.ref 81, .int t, .int 1], [], MM203, J)) (fl_n 2 rfl) <|
           lp_129_204 t MM203 J (fun u204 =>
            fx_gen (p := fun (MM205 : fl_M) => fl_dn fB129 (228, [.ref 81, .int t, u204], [], MM205, J) (some (.int (v_129 t M)), (m_129 t M), J)) (lr_129_204 MM203) (fun MM205 eMM205 =>
             fl_td (s' := (232, [.ref 81, .int t, u204], [.int (MM205 81 4)], MM205, J)) (fl_n 2 rfl) <|
             fl_rt rfl (fun _ => rfl) (by subst eMM197; subst eMM199; subst eMM201; subst eMM203; subst eMM205; unfold v_129 m_129; first | (simp only [if_pos h1, if_neg h2, if_pos h4]; done) | rfl)))))))))) (fun h4 =>
     fl_td (s' := (36, [.ref 81, .int t, .null], [.int (-4)], MM197, J)) (fl_n 1 rfl) <|
     fl_rt rfl (fun _ => rfl) (by subst eMM197; unfold v_129 m_129; first | (simp only [if_pos h1, if_neg h2, if_neg h4]; done) | rfl))))) (fun h1 =>
  fl_td (s' := (8, [.ref 81, .int t, .null], [.int (-1)], M, J)) (fl_n 1 rfl) <|
  fl_rt rfl (fun _ => rfl) (by unfold v_129 m_129; first | (simp only [if_neg h1]; done) | rfl))
