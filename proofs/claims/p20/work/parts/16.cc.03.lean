def fB65 : sm_P := (fun pc => sm_ch sm_t65 pc, sm_Kn 2 6 none, fun x => sm_lk sm_ca2 x, some .int)
-- MiceRegisters.guard 33
def ls_65_33 (i1 : Int32) (m : Nat) (q : (Int32 × Int32 × fl_M)) : (Int32 × Int32 × fl_M) := (if q.2.1 < (lr_66_4 0 24 (lr_59_2 i1 24 (fl_u (m_23 24 15 q.2.2) 24 3 (Int32.ofNat m)))) then ((Int32.ofNat m), (lr_66_4 0 24 (lr_59_2 i1 24 (fl_u (m_23 24 15 q.2.2) 24 3 (Int32.ofNat m)))), (lr_59_2 i1 24 (fl_u (m_23 24 15 q.2.2) 24 3 (Int32.ofNat m)))) else (q.1, q.2.1, (lr_59_2 i1 24 (fl_u (m_23 24 15 q.2.2) 24 3 (Int32.ofNat m)))))
def lq_65_33 (i1 i2 i3 : Int32) (M : fl_M) (m : Nat) : (Int32 × Int32 × fl_M) := fx_it (ls_65_33 i1) m (i2, i3, M)
theorem lqs_65_33 (i1 i2 i3 : Int32) (M : fl_M) (m : Nat) : lq_65_33 i1 i2 i3 M (m + 1) = (ls_65_33 i1) m (lq_65_33 i1 i2 i3 M m) := by
  unfold lq_65_33
  exact fx_it_s _ _ _
def lr_65_33 (i1 i2 i3 : Int32) (M : fl_M) : (Int32 × Int32 × fl_M) := (lq_65_33 i1 i2 i3 M (((M 15 0)).toNatClampNeg))
theorem ts_65_33 {r : fl_Q} (i1 i2 i3 i4 : Int32) (u5 : Value) (M : fl_M) (J : fl_J) (q1 : (i4 < (M 15 0)) → (i3 < (lr_66_4 0 24 (lr_59_2 i1 24 (fl_u (m_23 24 15 M) 24 3 i4)))) → fl_dn fB65 (33, [.ref 0, .int i1, .int i4, .int (lr_66_4 0 24 (lr_59_2 i1 24 (fl_u (m_23 24 15 M) 24 3 i4))), .int (i4 + 1), .int (lr_66_4 0 24 (lr_59_2 i1 24 (fl_u (m_23 24 15 M) 24 3 i4)))], [], (lr_59_2 i1 24 (fl_u (m_23 24 15 M) 24 3 i4)), J) r) (q2 : (i4 < (M 15 0)) → (¬ (i3 < (lr_66_4 0 24 (lr_59_2 i1 24 (fl_u (m_23 24 15 M) 24 3 i4))))) → fl_dn fB65 (33, [.ref 0, .int i1, .int i2, .int i3, .int (i4 + 1), .int (lr_66_4 0 24 (lr_59_2 i1 24 (fl_u (m_23 24 15 M) 24 3 i4)))], [], (lr_59_2 i1 24 (fl_u (m_23 24 15 M) 24 3 i4)), J) r) (q3 : (¬ (i4 < (M 15 0))) → fl_dn fB65 (100, [.ref 0, .int i1, .int i2, .int i3, .int i4, u5], [], M, J) r) : fl_dn fB65 (33, [.ref 0, .int i1, .int i2, .int i3, .int i4, u5], [], M, J) r :=
 fl_td (s' := (42, [.ref 0, .int i1, .int i2, .int i3, .int i4, u5], [.int (M 15 0), .int i4], M, J)) (fl_n 4 rfl) <|
 fl_dnot (fl_ic (t := 100) rfl rfl) fl_nlt (fun h1 =>
  fl_td (s' := (53, [.ref 0, .int i1, .int i2, .int i3, .int i4, u5], [.ref 15, .ref 24], M, J)) (fl_n 4 rfl) <|
  fl_td (s' := (56, [.ref 0, .int i1, .int i2, .int i3, .int i4, u5], [], (m_23 24 15 M), J)) (fl_cv (o := none) rfl rfl rfl rfl (cc_23 M J 24 15) rfl) <|
  fx_gen (p := fun (MM93 : fl_M) => fl_dn fB65 (56, [.ref 0, .int i1, .int i2, .int i3, .int i4, u5], [], MM93, J) r) (m_23 24 15 M) (fun MM93 eMM93 =>
   fl_td (s' := (70, [.ref 0, .int i1, .int i2, .int i3, .int i4, u5], [.int i1, .ref 24], (fl_u MM93 24 3 i4), J)) (fl_n 7 rfl) <|
   fl_td (s' := (73, [.ref 0, .int i1, .int i2, .int i3, .int i4, u5], [], (lr_59_2 i1 24 (fl_u MM93 24 3 i4)), J)) (fl_cv (o := none) rfl rfl rfl rfl (cc_59 (fl_u MM93 24 3 i4) J i1 24) rfl) <|
   fx_gen (p := fun (MM94 : fl_M) => fl_dn fB65 (73, [.ref 0, .int i1, .int i2, .int i3, .int i4, u5], [], MM94, J) r) (lr_59_2 i1 24 (fl_u MM93 24 3 i4)) (fun MM94 eMM94 =>
    fl_td (s' := (77, [.ref 0, .int i1, .int i2, .int i3, .int i4, u5], [.ref 24], MM94, J)) (fl_n 2 rfl) <|
    fl_td (s' := (80, [.ref 0, .int i1, .int i2, .int i3, .int i4, u5], [.int (lr_66_4 0 24 MM94)], MM94, J)) (fl_cv (o := some (.int (lr_66_4 0 24 MM94))) rfl rfl rfl rfl (cc_66 MM94 J 24) rfl) <|
    fx_gen (p := fun (II95 : Int32) => fl_dn fB65 (80, [.ref 0, .int i1, .int i2, .int i3, .int i4, u5], [.int II95], MM94, J) r) (lr_66_4 0 24 MM94) (fun II95 eII95 =>
     fl_td (s' := (85, [.ref 0, .int i1, .int i2, .int i3, .int i4, .int II95], [.int i3, .int II95], MM94, J)) (fl_n 3 rfl) <|
     fl_dnot (fl_ic (t := 94) rfl rfl) fl_nle (fun h4 =>
      fl_td (s' := (33, [.ref 0, .int i1, .int i4, .int II95, .int (i4 + 1), .int II95], [], MM94, J)) (fl_n 6 rfl) <|
      (by subst eMM93; subst eMM94; subst eII95; exact (q1 h1 h4))) (fun h4 =>
      fl_td (s' := (33, [.ref 0, .int i1, .int i2, .int i3, .int (i4 + 1), .int II95], [], MM94, J)) (fl_n 2 rfl) <|
      (by subst eMM93; subst eMM94; subst eII95; exact (q2 h1 h4))))))) (fun h1 =>
  (q3 h1))
theorem lk_65_33 (i1 i2 i3 : Int32) (M : fl_M) (m : Nat) : (((lq_65_33 i1 i2 i3 M m).2.2) 15 0) = (M 15 0) := by
  induction m with
  | zero => rfl
  | succ m ih =>
    rw [← ih]
    rw [lqs_65_33]
    generalize lq_65_33 i1 i2 i3 M m = q
    unfold ls_65_33
    (repeat' split) <;> first | with_reducible rfl | (simp [fl_u, fr_22_18, fr_22_53, fr_23_42, fr_23_106, fr_23, fr_46_4, fr_46_100, fr_46, fr_45, fr_59_2, fr_44, fr_54_10, fr_51_9, fr_64_28, fr_64]; done) | rfl
theorem lp_65_33 {r : fl_Q} (i1 i2 i3 : Int32) (u5 : Value) (M : fl_M) (J : fl_J) (hx : ∀ w4 w5 : Value, fl_dn fB65 (100, [.ref 0, .int i1, .int ((lr_65_33 i1 i2 i3 M).1), .int ((lr_65_33 i1 i2 i3 M).2.1), w4, w5], [], ((lr_65_33 i1 i2 i3 M).2.2), J) r) : fl_dn fB65 (33, [.ref 0, .int i1, .int i2, .int i3, .int 0, u5], [], M, J) r := by
  have hb := fi_bd (M 15 0)
  have hB := fun m => lk_65_33 i1 i2 i3 M m
  have key : ∀ (n m : Nat) (w5 : Value), m + n = ((M 15 0)).toNatClampNeg → fl_dn fB65 (33, [.ref 0, .int i1, .int ((lq_65_33 i1 i2 i3 M m).1), .int ((lq_65_33 i1 i2 i3 M m).2.1), .int (Int32.ofNat m), w5], [], ((lq_65_33 i1 i2 i3 M m).2.2), J) r := by
    intro n
    induction n with
    | zero =>
      intro m w5 hm
      have hm : m = ((M 15 0)).toNatClampNeg := by omega
      have hn : ¬ ((Int32.ofNat m) < (((lq_65_33 i1 i2 i3 M m).2.2) 15 0)) := fun z => by rw [hB m] at z; have z := (fi_lt (by omega)).mp z; omega
      exact ts_65_33 i1 ((lq_65_33 i1 i2 i3 M m).1) ((lq_65_33 i1 i2 i3 M m).2.1) (Int32.ofNat m) w5 ((lq_65_33 i1 i2 i3 M m).2.2) J (fun h1 h4 => absurd h1 hn) (fun h1 h4 => absurd h1 hn) (fun h1 => (by have e : lr_65_33 i1 i2 i3 M = lq_65_33 i1 i2 i3 M m := (by show lq_65_33 i1 i2 i3 M (((M 15 0)).toNatClampNeg) = _; rw [← hm]); rw [e] at hx; exact hx _ _))
    | succ n ih =>
      intro m w5 hm
      have hp : (Int32.ofNat m) < (((lq_65_33 i1 i2 i3 M m).2.2) 15 0) := by rw [hB m]; exact (fi_lt (by omega)).mpr (by omega)
      refine ts_65_33 i1 ((lq_65_33 i1 i2 i3 M m).1) ((lq_65_33 i1 i2 i3 M m).2.1) (Int32.ofNat m) w5 ((lq_65_33 i1 i2 i3 M m).2.2) J (fun h1 h4 => ?_) (fun h1 h4 => ?_) (fun h1 => absurd hp h1)
      · have e : lq_65_33 i1 i2 i3 M (m + 1) = ((Int32.ofNat m), (lr_66_4 0 24 (lr_59_2 i1 24 (fl_u (m_23 24 15 ((lq_65_33 i1 i2 i3 M m).2.2)) 24 3 (Int32.ofNat m)))), (lr_59_2 i1 24 (fl_u (m_23 24 15 ((lq_65_33 i1 i2 i3 M m).2.2)) 24 3 (Int32.ofNat m)))) := by
          rw [lqs_65_33]
          unfold ls_65_33
          simp only [if_pos h4]
        have q := ih (m + 1) (.int (lr_66_4 0 24 (lr_59_2 i1 24 (fl_u (m_23 24 15 ((lq_65_33 i1 i2 i3 M m).2.2)) 24 3 (Int32.ofNat m))))) (by omega)
        rw [e] at q
        first | (rw [fi_s]; exact q) | (rw [← fi_s] at q; exact q) | (simp only [fi_s] at q ⊢; exact q)
      · have e : lq_65_33 i1 i2 i3 M (m + 1) = (((lq_65_33 i1 i2 i3 M m).1), ((lq_65_33 i1 i2 i3 M m).2.1), (lr_59_2 i1 24 (fl_u (m_23 24 15 ((lq_65_33 i1 i2 i3 M m).2.2)) 24 3 (Int32.ofNat m)))) := by
          rw [lqs_65_33]
          unfold ls_65_33
          simp only [if_neg h4]
        have q := ih (m + 1) (.int (lr_66_4 0 24 (lr_59_2 i1 24 (fl_u (m_23 24 15 ((lq_65_33 i1 i2 i3 M m).2.2)) 24 3 (Int32.ofNat m))))) (by omega)
        rw [e] at q
        first | (rw [fi_s]; exact q) | (rw [← fi_s] at q; exact q) | (simp only [fi_s] at q ⊢; exact q)
  exact key (((M 15 0)).toNatClampNeg) 0 u5 (Nat.zero_add _)
def v_65 (n : Int32) (M : fl_M) : Int32 := (if n < 1 then (-1) else (if 20 < n then (-1) else (if (M 15 1) = 0 then (-4) else ((lr_65_33 n 0 (-1) M).1))))
def m_65 (n : Int32) (M : fl_M) : fl_M := (if n < 1 then M else (if 20 < n then M else (if (M 15 1) = 0 then M else (fl_u ((lr_65_33 n 0 (-1) M).2.2) 0 12 ((lr_65_33 n 0 (-1) M).2.1)))))
theorem cc_65 (M : fl_M) (J : fl_J) (n : Int32) : fl_C 65 [.ref 0, .int n] M J (some (.int (v_65 n M)), (m_65 n M), J) :=
 fl_Co (B := fB65) rfl rfl <|
 fl_td (s' := (2, [.ref 0, .int n, .null, .null, .null, .null], [.int 1, .int n], M, J)) (fl_n 2 rfl) <|
 fl_dtwo (fl_ic (t := 11) rfl rfl) fl_cT (fun h1 =>
  fl_td (s' := (12, [.ref 0, .int n, .null, .null, .null, .null], [.int (-1)], M, J)) (fl_n 1 rfl) <|
  fl_rt rfl (fun _ => rfl) (by unfold v_65 m_65; first | (simp only [if_pos h1]; done) | rfl)) (fun h1 =>
  fl_td (s' := (8, [.ref 0, .int n, .null, .null, .null, .null], [.int 20, .int n], M, J)) (fl_n 2 rfl) <|
  fl_dnot (fl_ic (t := 13) rfl rfl) fl_nle (fun h2 =>
   fl_td (s' := (12, [.ref 0, .int n, .null, .null, .null, .null], [.int (-1)], M, J)) (fl_n 1 rfl) <|
   fl_rt rfl (fun _ => rfl) (by unfold v_65 m_65; first | (simp only [if_neg h1, if_pos h2]; done) | rfl)) (fun h2 =>
   fl_td (s' := (20, [.ref 0, .int n, .null, .null, .null, .null], [.int (M 15 1)], M, J)) (fl_n 3 rfl) <|
   fl_dnot (fl_if (t := 26) rfl rfl) fl_cF (fun h3 =>
    fl_td (s' := (25, [.ref 0, .int n, .null, .null, .null, .null], [.int (-4)], M, J)) (fl_n 1 rfl) <|
    fl_rt rfl (fun _ => rfl) (by unfold v_65 m_65; first | (simp only [if_neg h1, if_neg h2, if_pos h3]; done) | rfl)) (fun h3 =>
    fl_td (s' := (33, [.ref 0, .int n, .int 0, .int (-1), .int 0, .null], [], M, J)) (fl_n 6 rfl) <|
    lp_65_33 n 0 (-1) .null M J (fun u96 u97 =>
     fx_gen (p := fun (MM98 : fl_M) => fl_dn fB65 (100, [.ref 0, .int n, .int ((lr_65_33 n 0 (-1) M).1), .int ((lr_65_33 n 0 (-1) M).2.1), u96, u97], [], MM98, J) (some (.int (v_65 n M)), (m_65 n M), J)) ((lr_65_33 n 0 (-1) M).2.2) (fun MM98 eMM98 =>
      fx_gen (p := fun (II99 : Int32) => fl_dn fB65 (100, [.ref 0, .int n, .int II99, .int ((lr_65_33 n 0 (-1) M).2.1), u96, u97], [], MM98, J) (some (.int (v_65 n M)), (m_65 n M), J)) ((lr_65_33 n 0 (-1) M).1) (fun II99 eII99 =>
       fx_gen (p := fun (II100 : Int32) => fl_dn fB65 (100, [.ref 0, .int n, .int II99, .int II100, u96, u97], [], MM98, J) (some (.int (v_65 n M)), (m_65 n M), J)) ((lr_65_33 n 0 (-1) M).2.1) (fun II100 eII100 =>
        fl_td (s' := (102, [.ref 0, .int n, .int II99, .int II100, u96, u97], [.int II100, .ref 0], MM98, J)) (fl_n 2 rfl) <|
        fl_td (s' := (105, [.ref 0, .int n, .int II99, .int II100, u96, u97], [.int 1], (fl_u MM98 0 12 II100), J)) (fl_cv (o := some (.int 1)) rfl rfl rfl rfl (cc_5 MM98 J II100) rfl) <|
        fl_td (s' := (107, [.ref 0, .int n, .int II99, .int II100, u96, u97], [.int II99], (fl_u MM98 0 12 II100), J)) (fl_n 2 rfl) <|
        fl_rt rfl (fun _ => rfl) (by subst eMM98; subst eII99; subst eII100; unfold v_65 m_65; first | (simp only [if_neg h1, if_neg h2, if_neg h3]; done) | rfl))))))))
