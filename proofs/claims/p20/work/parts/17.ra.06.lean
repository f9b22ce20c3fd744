def fB139 : sm_P := (fun pc => sm_ch sm_t139 pc, sm_Kn 3 3 none, fun x => sm_lk sm_ca3 x, some .int)
def v_139 (i wh : Int32) (M : fl_M) : Int32 := (if (¬ (i < 0)) ∧ (¬ ((M 81 4) - 1 < i)) then (if (¬ (wh < 0)) ∧ (¬ (4 < wh)) then 1 else (-1)) else (-1))
def m_139 (i wh : Int32) (M : fl_M) : fl_M := (if (¬ (i < 0)) ∧ (¬ ((M 81 4) - 1 < i)) then (if (¬ (wh < 0)) ∧ (¬ (4 < wh)) then (fl_u M 81 11 (v_141 i wh M)) else M) else M)
set_option maxRecDepth 8000 in
theorem cc_139 (M : fl_M) (J : fl_J) (i wh : Int32) : fl_C 139 [.ref 81, .int i, .int wh] M J (some (.int (v_139 i wh M)), (m_139 i wh M), J) :=
 fl_Co (B := fB139) rfl rfl <|
 fl_td (s' := (2, [.ref 81, .int i, .int wh], [.int i, .ref 81], M, J)) (fl_n 2 rfl) <|
 fl_td (s' := (5, [.ref 81, .int i, .int wh], [.int (if (¬ (i < 0)) ∧ (¬ ((M 81 4) - 1 < i)) then 1 else 0)], M, J)) (fl_cv (o := some (.int (if (¬ (i < 0)) ∧ (¬ ((M 81 4) - 1 < i)) then 1 else 0))) rfl rfl rfl rfl (cc_140 M J i) rfl) <|
 fl_dnot (fl_if (t := 33) rfl rfl) fl_b0 (fun h1 =>
  fl_td (s' := (14, [.ref 81, .int i, .int wh], [.long 4, .long 0, .long wh.toInt64], M, J)) (fl_n 4 rfl) <|
  fl_td (s' := (17, [.ref 81, .int i, .int wh], [.int (if (¬ (wh < 0)) ∧ (¬ (4 < wh)) then 1 else 0)], M, J)) (fl_cs (o := some (.int (if (¬ (wh < 0)) ∧ (¬ (4 < wh)) then 1 else 0))) rfl rfl rfl (cc_105i M J wh 0 4) rfl) <|
  fl_dnot (fl_if (t := 33) rfl rfl) fl_b0 (fun h2 =>
   fl_td (s' := (24, [.ref 81, .int i, .int wh], [.int wh, .int i, .ref 81, .ref 81], M, J)) (fl_n 4 rfl) <|
   fl_td (s' := (27, [.ref 81, .int i, .int wh], [.int (v_141 i wh M), .ref 81], M, J)) (fl_cv (o := some (.int (v_141 i wh M))) rfl rfl rfl rfl (cc_141 M J i wh) rfl) <|
   fl_td (s' := (30, [.ref 81, .int i, .int wh], [.int 1], (fl_u M 81 11 (v_141 i wh M)), J)) (fl_cv (o := some (.int 1)) rfl rfl rfl rfl (cc_110 M J (v_141 i wh M)) rfl) <|
   fl_td (s' := (34, [.ref 81, .int i, .int wh], [.int 1], (fl_u M 81 11 (v_141 i wh M)), J)) (fl_n 1 rfl) <|
   fl_rt rfl (fun _ => rfl) (by unfold v_139 m_139; first | (simp only [if_pos h1, if_pos h2]; done) | rfl)) (fun h2 =>
   fl_td (s' := (34, [.ref 81, .int i, .int wh], [.int (-1)], M, J)) (fl_n 1 rfl) <|
   fl_rt rfl (fun _ => rfl) (by unfold v_139 m_139; first | (simp only [if_pos h1, if_neg h2]; done) | rfl))) (fun h1 =>
  fl_td (s' := (34, [.ref 81, .int i, .int wh], [.int (-1)], M, J)) (fl_n 1 rfl) <|
  fl_rt rfl (fun _ => rfl) (by unfold v_139 m_139; first | (simp only [if_neg h1]; done) | rfl))
def fB144 : sm_P := (fun pc => sm_ch sm_t144 pc, sm_Kn 3 4 none, fun x => sm_lk sm_ca3 x, some .boolean)
set_option maxRecDepth 8000 in
theorem cc_144 (M : fl_M) (J : fl_J) (i kind : Int32) : fl_C 144 [.ref 81, .int i, .int kind] M J (some (.int (if ((M 85 i.toNatClampNeg) = kind) ∨ (((kind = 2) ∧ (((M 85 i.toNatClampNeg) = 4) ∨ ((kind = 3) ∧ ((M 85 i.toNatClampNeg) = 5)))) ∨ ((¬ (kind = 2)) ∧ ((kind = 3) ∧ ((M 85 i.toNatClampNeg) = 5)))) then 1 else 0)), M, J) :=
 fl_Co (B := fB144) rfl rfl <|
 fl_td (s' := (9, [.ref 81, .int i, .int kind, .int (M 85 i.toNatClampNeg)], [.int kind, .int (M 85 i.toNatClampNeg)], M, J)) (fl_n 7 rfl) <|
 fl_dtwo (fl_ic (t := 32) rfl rfl) fl_cT (fun h1 =>
  fl_td (s' := (37, [.ref 81, .int i, .int kind, .int (M 85 i.toNatClampNeg)], [.int 1], M, J)) (fl_n 2 rfl) <|
  fl_rt rfl (fun _ => rfl) (by first | (simp [h1]; done) | (simp_all; done))) (fun h1 =>
  fl_td (s' := (14, [.ref 81, .int i, .int kind, .int (M 85 i.toNatClampNeg)], [.int 2, .int kind], M, J)) (fl_n 2 rfl) <|
  fl_dnot (fl_ic (t := 22) rfl rfl) fl_cF (fun h2 =>
   fl_td (s' := (19, [.ref 81, .int i, .int kind, .int (M 85 i.toNatClampNeg)], [.int 4, .int (M 85 i.toNatClampNeg)], M, J)) (fl_n 2 rfl) <|
   fl_dtwo (fl_ic (t := 32) rfl rfl) fl_cT (fun h3 =>
    fl_td (s' := (37, [.ref 81, .int i, .int kind, .int (M 85 i.toNatClampNeg)], [.int 1], M, J)) (fl_n 2 rfl) <|
    fl_rt rfl (fun _ => rfl) (by first | (simp [h1, h2, h3]; done) | (simp_all; done))) (fun h3 =>
    fl_td (s' := (24, [.ref 81, .int i, .int kind, .int (M 85 i.toNatClampNeg)], [.int 3, .int kind], M, J)) (fl_n 2 rfl) <|
    fl_dnot (fl_ic (t := 36) rfl rfl) fl_cF (fun h4 =>
     fl_td (s' := (29, [.ref 81, .int i, .int kind, .int (M 85 i.toNatClampNeg)], [.int 5, .int (M 85 i.toNatClampNeg)], M, J)) (fl_n 2 rfl) <|
     fl_dnot (fl_ic (t := 36) rfl rfl) fl_cF (fun h5 =>
      fl_td (s' := (37, [.ref 81, .int i, .int kind, .int (M 85 i.toNatClampNeg)], [.int 1], M, J)) (fl_n 2 rfl) <|
      fl_rt rfl (fun _ => rfl) (by first | (simp [h1, h2, h3, h4, h5]; done) | (simp_all; done))) (fun h5 =>
      fl_td (s' := (37, [.ref 81, .int i, .int kind, .int (M 85 i.toNatClampNeg)], [.int 0], M, J)) (fl_n 1 rfl) <|
      fl_rt rfl (fun _ => rfl) (by first | (simp [h1, h2, h3, h4, h5]; done) | (simp_all; done)))) (fun h4 =>
     fl_td (s' := (37, [.ref 81, .int i, .int kind, .int (M 85 i.toNatClampNeg)], [.int 0], M, J)) (fl_n 1 rfl) <|
     fl_rt rfl (fun _ => rfl) (by first | (simp [h1, h2, h3, h4]; done) | (simp_all; done))))) (fun h2 =>
   fl_td (s' := (24, [.ref 81, .int i, .int kind, .int (M 85 i.toNatClampNeg)], [.int 3, .int kind], M, J)) (fl_n 2 rfl) <|
   fl_dnot (fl_ic (t := 36) rfl rfl) fl_cF (fun h6 =>
    fl_td (s' := (29, [.ref 81, .int i, .int kind, .int (M 85 i.toNatClampNeg)], [.int 5, .int (M 85 i.toNatClampNeg)], M, J)) (fl_n 2 rfl) <|
    fl_dnot (fl_ic (t := 36) rfl rfl) fl_cF (fun h7 =>
     fl_td (s' := (37, [.ref 81, .int i, .int kind, .int (M 85 i.toNatClampNeg)], [.int 1], M, J)) (fl_n 2 rfl) <|
     fl_rt rfl (fun _ => rfl) (by first | (simp [h1, h2, h6, h7]; done) | (simp_all; done))) (fun h7 =>
     fl_td (s' := (37, [.ref 81, .int i, .int kind, .int (M 85 i.toNatClampNeg)], [.int 0], M, J)) (fl_n 1 rfl) <|
     fl_rt rfl (fun _ => rfl) (by first | (simp [h1, h2, h6, h7]; done) | (simp_all; done)))) (fun h6 =>
    fl_td (s' := (37, [.ref 81, .int i, .int kind, .int (M 85 i.toNatClampNeg)], [.int 0], M, J)) (fl_n 1 rfl) <|
    fl_rt rfl (fun _ => rfl) (by first | (simp [h1, h2, h6]; done) | (simp_all; done)))))
def fB145 : sm_P := (fun pc => sm_ch sm_t145 pc, sm_Kn 3 4 none, fun x => sm_lk sm_ca3 x, some .int)
-- MiceRegistersModel.likedBy 4
def ls_145_4 (i1 : Int32) (M : fl_M) (m : Nat) (q : Int32) : Int32 := (if 0 < (v_136 0 i1 (Int32.ofNat m) M) then (q + 1) else (q + 0))
def lq_145_4 (i1 i2 : Int32) (M : fl_M) (m : Nat) : Int32 := fx_it (ls_145_4 i1 M) m i2
theorem lqs_145_4 (i1 i2 : Int32) (M : fl_M) (m : Nat) : lq_145_4 i1 i2 M (m + 1) = (ls_145_4 i1 M) m (lq_145_4 i1 i2 M m) := by
  unfold lq_145_4
  exact fx_it_s _ _ _
def lr_145_4 (i1 i2 : Int32) (M : fl_M) : Int32 := (lq_145_4 i1 i2 M (((M 81 1)).toNatClampNeg))
set_option maxRecDepth 8000 in
theorem ts_145_4 {r : fl_Q} (i1 i2 i3 : Int32) (M : fl_M) (J : fl_J) (q1 : (i3 < (M 81 1)) → (0 < (v_136 0 i1 i3 M)) → fl_dn fB145 (4, [.ref 81, .int i1, .int (i2 + 1), .int (i3 + 1)], [], M, J) r) (q2 : (i3 < (M 81 1)) → (¬ (0 < (v_136 0 i1 i3 M))) → fl_dn fB145 (4, [.ref 81, .int i1, .int (i2 + 0), .int (i3 + 1)], [], M, J) r) (q3 : (¬ (i3 < (M 81 1))) → fl_dn fB145 (36, [.ref 81, .int i1, .int i2, .int i3], [], M, J) r) : fl_dn fB145 (4, [.ref 81, .int i1, .int i2, .int i3], [], M, J) r :=
 fl_td (s' := (9, [.ref 81, .int i1, .int i2, .int i3], [.int (M 81 1), .int i3], M, J)) (fl_n 3 rfl) <|
 fl_dnot (fl_ic (t := 36) rfl rfl) fl_nlt (fun h1 =>
  fl_td (s' := (17, [.ref 81, .int i1, .int i2, .int i3], [.int i3, .int i1, .int 0, .ref 81, .int i2], M, J)) (fl_n 5 rfl) <|
  fl_td (s' := (20, [.ref 81, .int i1, .int i2, .int i3], [.int (v_136 0 i1 i3 M), .int i2], M, J)) (fl_cv (o := some (.int (v_136 0 i1 i3 M))) rfl rfl rfl rfl (cc_136 M J 0 i1 i3) rfl) <|
  fl_dnot (fl_if (t := 27) rfl rfl) fl_nle (fun h2 =>
   fl_td (s' := (4, [.ref 81, .int i1, .int (i2 + 1), .int (i3 + 1)], [], M, J)) (fl_n 6 rfl) <|
   (q1 h1 h2)) (fun h2 =>
   fl_td (s' := (4, [.ref 81, .int i1, .int (i2 + 0), .int (i3 + 1)], [], M, J)) (fl_n 5 rfl) <|
   (q2 h1 h2))) (fun h1 =>
  (q3 h1))
theorem lp_145_4 {r : fl_Q} (i1 i2 : Int32) (M : fl_M) (J : fl_J) (hx : ∀ w3 : Value, fl_dn fB145 (36, [.ref 81, .int i1, .int (lr_145_4 i1 i2 M), w3], [], M, J) r) : fl_dn fB145 (4, [.ref 81, .int i1, .int i2, .int 0], [], M, J) r := by
  have hb := fi_bd (M 81 1)
  have key : ∀ (n m : Nat), m + n = ((M 81 1)).toNatClampNeg → fl_dn fB145 (4, [.ref 81, .int i1, .int (lq_145_4 i1 i2 M m), .int (Int32.ofNat m)], [], M, J) r := by
    intro n
    induction n with
    | zero =>
      intro m hm
      have hm : m = ((M 81 1)).toNatClampNeg := by omega
      have hn : ¬ ((Int32.ofNat m) < (M 81 1)) := fun z => by have z := (fi_lt (by omega)).mp z; omega
      exact ts_145_4 i1 (lq_145_4 i1 i2 M m) (Int32.ofNat m) M J (fun h1 h2 => absurd h1 hn) (fun h1 h2 => absurd h1 hn) (fun h1 => (by have e : lr_145_4 i1 i2 M = lq_145_4 i1 i2 M m := (by show lq_145_4 i1 i2 M (((M 81 1)).toNatClampNeg) = _; rw [← hm]); rw [e] at hx; exact hx _))
    | succ n ih =>
      intro m hm
      have hp : (Int32.ofNat m) < (M 81 1) := by exact (fi_lt (by omega)).mpr (by omega)
      refine ts_145_4 i1 (lq_145_4 i1 i2 M m) (Int32.ofNat m) M J (fun h1 h2 => ?_) (fun h1 h2 => ?_) (fun h1 => absurd hp h1)
      · have e : lq_145_4 i1 i2 M (m + 1) = ((lq_145_4 i1 i2 M m) + 1) := by
          rw [lqs_145_4]
          unfold ls_145_4
          simp only [if_pos h2]
        have q := ih (m + 1) (by omega)
        rw [e] at q
        first | (rw [fi_s]; exact q) | (rw [← fi_s] at q; exact q) | (simp only [fi_s] at q ⊢; exact q)
      · have e : lq_145_4 i1 i2 M (m + 1) = ((lq_145_4 i1 i2 M m) + 0) := by
          rw [lqs_145_4]
          unfold ls_145_4
          simp only [if_neg h2]
        have q := ih (m + 1) (by omega)
        rw [e] at q
        first | (rw [fi_s]; exact q) | (rw [← fi_s] at q; exact q) | (simp only [fi_s] at q ⊢; exact q)
  exact key (((M 81 1)).toNatClampNeg) 0 (Nat.zero_add _)
set_option maxRecDepth 8000 in
theorem cc_145 (M : fl_M) (J : fl_J) (i : Int32) : fl_C 145 [.ref 81, .int i] M J (some (.int (lr_145_4 i 0 M)), M, J) :=
 fl_Co (B := fB145) rfl rfl <|
 fl_td (s' := (4, [.ref 81, .int i, .int 0, .int 0], [], M, J)) (fl_n 4 rfl) <|
 lp_145_4 i 0 M J (fun u20 =>
  fx_gen (p := fun (II21 : Int32) => fl_dn fB145 (36, [.ref 81, .int i, .int II21, u20], [], M, J) (some (.int (lr_145_4 i 0 M)), M, J)) (lr_145_4 i 0 M) (fun II21 eII21 =>
   fl_td (s' := (37, [.ref 81, .int i, .int II21, u20], [.int II21], M, J)) (fl_n 1 rfl) <|
   fl_rt rfl (fun _ => rfl) (by subst eII21; rfl)))
def fB146 : sm_P := (fun pc => sm_ch sm_t146 pc, sm_Kn 3 3 none, fun x => sm_lk sm_ca3 x, some .int)
-- MiceRegistersModel.littleWrong 4
def ls_146_4 (M : fl_M) (m : Nat) (q : Int32) : Int32 := (if (M 83 (Int32.ofNat m).toNatClampNeg) < 4 then (q + 1) else (q + 0))
def lq_146_4 (i1 : Int32) (M : fl_M) (m : Nat) : Int32 := fx_it (ls_146_4 M) m i1
theorem lqs_146_4 (i1 : Int32) (M : fl_M) (m : Nat) : lq_146_4 i1 M (m + 1) = (ls_146_4 M) m (lq_146_4 i1 M m) := by
  unfold lq_146_4
  exact fx_it_s _ _ _
def lr_146_4 (i1 : Int32) (M : fl_M) : Int32 := (lq_146_4 i1 M (((M 81 1)).toNatClampNeg))
set_option maxRecDepth 8000 in
theorem ts_146_4 {r : fl_Q} (i1 i2 : Int32) (M : fl_M) (J : fl_J) (q1 : (i2 < (M 81 1)) → ((M 83 i2.toNatClampNeg) < 4) → fl_dn fB146 (4, [.ref 81, .int (i1 + 1), .int (i2 + 1)], [], M, J) r) (q2 : (i2 < (M 81 1)) → (¬ ((M 83 i2.toNatClampNeg) < 4)) → fl_dn fB146 (4, [.ref 81, .int (i1 + 0), .int (i2 + 1)], [], M, J) r) (q3 : (¬ (i2 < (M 81 1))) → fl_dn fB146 (36, [.ref 81, .int i1, .int i2], [], M, J) r) : fl_dn fB146 (4, [.ref 81, .int i1, .int i2], [], M, J) r :=
 fl_td (s' := (9, [.ref 81, .int i1, .int i2], [.int (M 81 1), .int i2], M, J)) (fl_n 3 rfl) <|
 fl_dnot (fl_ic (t := 36) rfl rfl) fl_nlt (fun h1 =>
  fl_td (s' := (20, [.ref 81, .int i1, .int i2], [.int 4, .int (M 83 i2.toNatClampNeg), .int i1], M, J)) (fl_n 6 rfl) <|
  fl_dnot (fl_ic (t := 27) rfl rfl) fl_nlt (fun h2 =>
   fl_td (s' := (4, [.ref 81, .int (i1 + 1), .int (i2 + 1)], [], M, J)) (fl_n 6 rfl) <|
   (q1 h1 h2)) (fun h2 =>
   fl_td (s' := (4, [.ref 81, .int (i1 + 0), .int (i2 + 1)], [], M, J)) (fl_n 5 rfl) <|
   (q2 h1 h2))) (fun h1 =>
  (q3 h1))
