def v_67 (i r : Int32) (M : fl_M) : Int32 := (if (v_68 i r M) = 0 then ((lr_67_19 i r 0 (m_68 i r M)).1) else v_68 i r M)
theorem cc_67 (M : fl_M) (J : fl_J) (i r : Int32) : fl_C 67 [.ref 0, .int i, .int r] M J (some (.int (v_67 i r M)), (if (v_68 i r M) = 0 then ((lr_67_19 i r 0 (m_68 i r M)).2) else (m_68 i r M)), J) :=
 fl_Co (B := fB67) rfl rfl <|
 fl_td (s' := (3, [.ref 0, .int i, .int r, .null, .null, .null], [.int r, .int i, .ref 0], M, J)) (fl_n 3 rfl) <|
 fl_td (s' := (6, [.ref 0, .int i, .int r, .null, .null, .null], [.int (v_68 i r M)], (m_68 i r M), J)) (fl_cv (o := some (.int (v_68 i r M))) rfl rfl rfl rfl (cc_68 M J i r) rfl) <|
 fx_gen (p := fun (MM109 : fl_M) => fl_dn fB67 (6, [.ref 0, .int i, .int r, .null, .null, .null], [.int (v_68 i r M)], MM109, J) (some (.int (v_67 i r M)), (if (v_68 i r M) = 0 then ((lr_67_19 i r 0 (m_68 i r M)).2) else (m_68 i r M)), J)) (m_68 i r M) (fun MM109 eMM109 =>
  fl_td (s' := (8, [.ref 0, .int i, .int r, .int (v_68 i r M), .null, .null], [.int (v_68 i r M)], MM109, J)) (fl_n 2 rfl) <|
  fl_dtwo (fl_if (t := 13) rfl rfl) fl_cT (fun h2 =>
   fl_td (s' := (19, [.ref 0, .int i, .int r, .int (v_68 i r M), .int 0, .int 0], [], MM109, J)) (fl_n 4 rfl) <|
   lp_67_19 i r (v_68 i r M) 0 MM109 J (fun u112 =>
    fx_gen (p := fun (MM113 : fl_M) => fl_dn fB67 (77, [.ref 0, .int i, .int r, .int (v_68 i r M), .int ((lr_67_19 i r 0 MM109).1), u112], [], MM113, J) (some (.int (v_67 i r M)), (if (v_68 i r M) = 0 then ((lr_67_19 i r 0 (m_68 i r M)).2) else (m_68 i r M)), J)) ((lr_67_19 i r 0 MM109).2) (fun MM113 eMM113 =>
     fx_gen (p := fun (II114 : Int32) => fl_dn fB67 (77, [.ref 0, .int i, .int r, .int (v_68 i r M), .int II114, u112], [], MM113, J) (some (.int (v_67 i r M)), (if (v_68 i r M) = 0 then ((lr_67_19 i r 0 (m_68 i r M)).2) else (m_68 i r M)), J)) ((lr_67_19 i r 0 MM109).1) (fun II114 eII114 =>
      fl_td (s' := (79, [.ref 0, .int i, .int r, .int (v_68 i r M), .int II114, u112], [.int II114], MM113, J)) (fl_n 1 rfl) <|
      fl_rt rfl (fun _ => rfl) (by subst eMM109; subst eMM113; subst eII114; unfold v_67; first | (simp only [if_pos h2]; done) | rfl))))) (fun h2 =>
   fl_td (s' := (12, [.ref 0, .int i, .int r, .int (v_68 i r M), .null, .null], [.int (v_68 i r M)], MM109, J)) (fl_n 1 rfl) <|
   fl_rt rfl (fun _ => rfl) (by subst eMM109; unfold v_67; first | (simp only [if_neg h2]; done) | rfl)))
def fB71 : sm_P := (fun pc => sm_ch sm_t71 pc, sm_Kn 2 5 none, fun x => sm_lk sm_ca2 x, some .int)
-- MiceRegisters.kindsThatFit 5
def ls_71_5 (i1 i2 : Int32) (m : Nat) (q : (Int32 × fl_M)) : (Int32 × fl_M) := (if (v_69 i1 i2 (fl_u (m_23 24 15 q.2) 29 i1.toNatClampNeg (Int32.ofNat m))) = 0 then (q.1, (m_69 i1 i2 (fl_u (m_23 24 15 q.2) 29 i1.toNatClampNeg (Int32.ofNat m)))) else ((q.1 ||| ((1 : Int32) <<< ((Int32.ofNat m) &&& 31))), (m_69 i1 i2 (fl_u (m_23 24 15 q.2) 29 i1.toNatClampNeg (Int32.ofNat m)))))
def lq_71_5 (i1 i2 i3 : Int32) (M : fl_M) (m : Nat) : (Int32 × fl_M) := fx_it (ls_71_5 i1 i2) m (i3, M)
theorem lqs_71_5 (i1 i2 i3 : Int32) (M : fl_M) (m : Nat) : lq_71_5 i1 i2 i3 M (m + 1) = (ls_71_5 i1 i2) m (lq_71_5 i1 i2 i3 M m) := by
  unfold lq_71_5
  exact fx_it_s _ _ _
def lr_71_5 (i1 i2 i3 : Int32) (M : fl_M) : (Int32 × fl_M) := (lq_71_5 i1 i2 i3 M (6))
theorem ts_71_5 {r : fl_Q} (i1 i2 i3 i4 : Int32) (M : fl_M) (J : fl_J) (q1 : (i4 < 6) → ((v_69 i1 i2 (fl_u (m_23 24 15 M) 29 i1.toNatClampNeg i4)) = 0) → fl_dn fB71 (5, [.ref 0, .int i1, .int i2, .int i3, .int (i4 + 1)], [], (m_69 i1 i2 (fl_u (m_23 24 15 M) 29 i1.toNatClampNeg i4)), J) r) (q2 : (i4 < 6) → (¬ ((v_69 i1 i2 (fl_u (m_23 24 15 M) 29 i1.toNatClampNeg i4)) = 0)) → fl_dn fB71 (5, [.ref 0, .int i1, .int i2, .int (i3 ||| ((1 : Int32) <<< (i4 &&& 31))), .int (i4 + 1)], [], (m_69 i1 i2 (fl_u (m_23 24 15 M) 29 i1.toNatClampNeg i4)), J) r) (q3 : (¬ (i4 < 6)) → fl_dn fB71 (56, [.ref 0, .int i1, .int i2, .int i3, .int i4], [], M, J) r) : fl_dn fB71 (5, [.ref 0, .int i1, .int i2, .int i3, .int i4], [], M, J) r :=
 fl_td (s' := (9, [.ref 0, .int i1, .int i2, .int i3, .int i4], [.int 6, .int i4], M, J)) (fl_n 2 rfl) <|
 fl_dnot (fl_ic (t := 56) rfl rfl) fl_nlt (fun h1 =>
  fl_td (s' := (20, [.ref 0, .int i1, .int i2, .int i3, .int i4], [.ref 15, .ref 24], M, J)) (fl_n 4 rfl) <|
  fl_td (s' := (23, [.ref 0, .int i1, .int i2, .int i3, .int i4], [], (m_23 24 15 M), J)) (fl_cv (o := none) rfl rfl rfl rfl (cc_23 M J 24 15) rfl) <|
  fx_gen (p := fun (MM115 : fl_M) => fl_dn fB71 (23, [.ref 0, .int i1, .int i2, .int i3, .int i4], [], MM115, J) r) (m_23 24 15 M) (fun MM115 eMM115 =>
   fl_td (s' := (37, [.ref 0, .int i1, .int i2, .int i3, .int i4], [.int i2, .int i1, .ref 0], (fl_u MM115 29 i1.toNatClampNeg i4), J)) (fl_n 9 rfl) <|
   fl_td (s' := (40, [.ref 0, .int i1, .int i2, .int i3, .int i4], [.int (v_69 i1 i2 (fl_u MM115 29 i1.toNatClampNeg i4))], (m_69 i1 i2 (fl_u MM115 29 i1.toNatClampNeg i4)), J)) (fl_cv (o := some (.int (v_69 i1 i2 (fl_u MM115 29 i1.toNatClampNeg i4)))) rfl rfl rfl rfl (cc_69 (fl_u MM115 29 i1.toNatClampNeg i4) J i1 i2) rfl) <|
   fx_gen (p := fun (MM116 : fl_M) => fl_dn fB71 (40, [.ref 0, .int i1, .int i2, .int i3, .int i4], [.int (v_69 i1 i2 (fl_u MM115 29 i1.toNatClampNeg i4))], MM116, J) r) (m_69 i1 i2 (fl_u MM115 29 i1.toNatClampNeg i4)) (fun MM116 eMM116 =>
    fl_dtwo (fl_if (t := 50) rfl rfl) fl_cT (fun h4 =>
     fl_td (s' := (5, [.ref 0, .int i1, .int i2, .int i3, .int (i4 + 1)], [], MM116, J)) (fl_n 2 rfl) <|
     (by subst eMM115; subst eMM116; exact (q1 h1 h4))) (fun h4 =>
     fl_td (s' := (5, [.ref 0, .int i1, .int i2, .int (i3 ||| ((1 : Int32) <<< (i4 &&& 31))), .int (i4 + 1)], [], MM116, J)) (fl_n 8 rfl) <|
     (by subst eMM115; subst eMM116; exact (q2 h1 h4)))))) (fun h1 =>
  (q3 h1))
theorem lp_71_5 {r : fl_Q} (i1 i2 i3 : Int32) (M : fl_M) (J : fl_J) (hx : ∀ w4 : Value, fl_dn fB71 (56, [.ref 0, .int i1, .int i2, .int ((lr_71_5 i1 i2 i3 M).1), w4], [], ((lr_71_5 i1 i2 i3 M).2), J) r) : fl_dn fB71 (5, [.ref 0, .int i1, .int i2, .int i3, .int 0], [], M, J) r := by
  have hb : (6 : Int32).toNatClampNeg = 6 := rfl
  have key : ∀ (n m : Nat), m + n = 6 → fl_dn fB71 (5, [.ref 0, .int i1, .int i2, .int ((lq_71_5 i1 i2 i3 M m).1), .int (Int32.ofNat m)], [], ((lq_71_5 i1 i2 i3 M m).2), J) r := by
    intro n
    induction n with
    | zero =>
      intro m hm
      have hm : m = 6 := by omega
      have hn : ¬ ((Int32.ofNat m) < 6) := fun z => by have z := (fi_lt (by omega)).mp z; omega
      exact ts_71_5 i1 i2 ((lq_71_5 i1 i2 i3 M m).1) (Int32.ofNat m) ((lq_71_5 i1 i2 i3 M m).2) J (fun h1 h4 => absurd h1 hn) (fun h1 h4 => absurd h1 hn) (fun h1 => (by have e : lr_71_5 i1 i2 i3 M = lq_71_5 i1 i2 i3 M m := (by show lq_71_5 i1 i2 i3 M (6) = _; rw [← hm]); rw [e] at hx; exact hx _))
    | succ n ih =>
      intro m hm
      have hp : (Int32.ofNat m) < 6 := by exact (fi_lt (by omega)).mpr (by omega)
      refine ts_71_5 i1 i2 ((lq_71_5 i1 i2 i3 M m).1) (Int32.ofNat m) ((lq_71_5 i1 i2 i3 M m).2) J (fun h1 h4 => ?_) (fun h1 h4 => ?_) (fun h1 => absurd hp h1)
      · have e : lq_71_5 i1 i2 i3 M (m + 1) = (((lq_71_5 i1 i2 i3 M m).1), (m_69 i1 i2 (fl_u (m_23 24 15 ((lq_71_5 i1 i2 i3 M m).2)) 29 i1.toNatClampNeg (Int32.ofNat m)))) := by
          rw [lqs_71_5]
          unfold ls_71_5
          simp only [if_pos h4]
        have q := ih (m + 1) (by omega)
        rw [e] at q
        first | (rw [fi_s]; exact q) | (rw [← fi_s] at q; exact q) | (simp only [fi_s] at q ⊢; exact q)
      · have e : lq_71_5 i1 i2 i3 M (m + 1) = ((((lq_71_5 i1 i2 i3 M m).1) ||| ((1 : Int32) <<< ((Int32.ofNat m) &&& 31))), (m_69 i1 i2 (fl_u (m_23 24 15 ((lq_71_5 i1 i2 i3 M m).2)) 29 i1.toNatClampNeg (Int32.ofNat m)))) := by
          rw [lqs_71_5]
          unfold ls_71_5
          simp only [if_neg h4]
        have q := ih (m + 1) (by omega)
        rw [e] at q
        first | (rw [fi_s]; exact q) | (rw [← fi_s] at q; exact q) | (simp only [fi_s] at q ⊢; exact q)
  exact key (6) 0 (Nat.zero_add _)
theorem cc_71 (M : fl_M) (J : fl_J) (i r : Int32) : fl_C 71 [.ref 0, .int i, .int r] M J (some (.int ((lr_71_5 i r 0 M).1)), ((lr_71_5 i r 0 M).2), J) :=
 fl_Co (B := fB71) rfl rfl <|
 fl_td (s' := (5, [.ref 0, .int i, .int r, .int 0, .int 0], [], M, J)) (fl_n 4 rfl) <|
 lp_71_5 i r 0 M J (fun u117 =>
  fx_gen (p := fun (MM118 : fl_M) => fl_dn fB71 (56, [.ref 0, .int i, .int r, .int ((lr_71_5 i r 0 M).1), u117], [], MM118, J) (some (.int ((lr_71_5 i r 0 M).1)), ((lr_71_5 i r 0 M).2), J)) ((lr_71_5 i r 0 M).2) (fun MM118 eMM118 =>
   fx_gen (p := fun (II119 : Int32) => fl_dn fB71 (56, [.ref 0, .int i, .int r, .int II119, u117], [], MM118, J) (some (.int ((lr_71_5 i r 0 M).1)), ((lr_71_5 i r 0 M).2), J)) ((lr_71_5 i r 0 M).1) (fun II119 eII119 =>
    fl_td (s' := (57, [.ref 0, .int i, .int r, .int II119, u117], [.int II119], MM118, J)) (fl_n 1 rfl) <|
    fl_rt rfl (fun _ => rfl) (by subst eMM118; subst eII119; rfl))))
def fB70 : sm_P := (fun pc => sm_ch sm_t70 pc, sm_Kn 2 4 none, fun x => sm_lk sm_ca2 x, some .int)
def v_70 (i r : Int32) (M : fl_M) : Int32 := (if (v_68 i r M) = 0 then ((lr_71_5 i r 0 (m_68 i r M)).1) else v_68 i r M)
theorem cc_70 (M : fl_M) (J : fl_J) (i r : Int32) : fl_C 70 [.ref 0, .int i, .int r] M J (some (.int (v_70 i r M)), (if (v_68 i r M) = 0 then ((lr_71_5 i r 0 (m_68 i r M)).2) else (m_68 i r M)), J) :=
 fl_Co (B := fB70) rfl rfl <|
 fl_td (s' := (3, [.ref 0, .int i, .int r, .null], [.int r, .int i, .ref 0], M, J)) (fl_n 3 rfl) <|
 fl_td (s' := (6, [.ref 0, .int i, .int r, .null], [.int (v_68 i r M)], (m_68 i r M), J)) (fl_cv (o := some (.int (v_68 i r M))) rfl rfl rfl rfl (cc_68 M J i r) rfl) <|
 fx_gen (p := fun (MM120 : fl_M) => fl_dn fB70 (6, [.ref 0, .int i, .int r, .null], [.int (v_68 i r M)], MM120, J) (some (.int (v_70 i r M)), (if (v_68 i r M) = 0 then ((lr_71_5 i r 0 (m_68 i r M)).2) else (m_68 i r M)), J)) (m_68 i r M) (fun MM120 eMM120 =>
  fl_td (s' := (8, [.ref 0, .int i, .int r, .int (v_68 i r M)], [.int (v_68 i r M)], MM120, J)) (fl_n 2 rfl) <|
  fl_dtwo (fl_if (t := 13) rfl rfl) fl_cT (fun h2 =>
   fl_td (s' := (16, [.ref 0, .int i, .int r, .int (v_68 i r M)], [.int r, .int i, .ref 0], MM120, J)) (fl_n 3 rfl) <|
   fl_td (s' := (19, [.ref 0, .int i, .int r, .int (v_68 i r M)], [.int ((lr_71_5 i r 0 MM120).1)], ((lr_71_5 i r 0 MM120).2), J)) (fl_cv (o := some (.int ((lr_71_5 i r 0 MM120).1))) rfl rfl rfl rfl (cc_71 MM120 J i r) rfl) <|
   fx_gen (p := fun (MM121 : fl_M) => fl_dn fB70 (19, [.ref 0, .int i, .int r, .int (v_68 i r M)], [.int ((lr_71_5 i r 0 MM120).1)], MM121, J) (some (.int (v_70 i r M)), (if (v_68 i r M) = 0 then ((lr_71_5 i r 0 (m_68 i r M)).2) else (m_68 i r M)), J)) ((lr_71_5 i r 0 MM120).2) (fun MM121 eMM121 =>
    fx_gen (p := fun (II122 : Int32) => fl_dn fB70 (19, [.ref 0, .int i, .int r, .int (v_68 i r M)], [.int II122], MM121, J) (some (.int (v_70 i r M)), (if (v_68 i r M) = 0 then ((lr_71_5 i r 0 (m_68 i r M)).2) else (m_68 i r M)), J)) ((lr_71_5 i r 0 MM120).1) (fun II122 eII122 =>
     fl_rt rfl (fun _ => rfl) (by subst eMM120; subst eMM121; subst eII122; unfold v_70; first | (simp only [if_pos h2]; done) | rfl)))) (fun h2 =>
   fl_td (s' := (12, [.ref 0, .int i, .int r, .int (v_68 i r M)], [.int (v_68 i r M)], MM120, J)) (fl_n 1 rfl) <|
   fl_rt rfl (fun _ => rfl) (by subst eMM120; unfold v_70; first | (simp only [if_neg h2]; done) | rfl)))
