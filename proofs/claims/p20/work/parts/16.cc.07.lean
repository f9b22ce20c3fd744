def fB74 : sm_P := (fun pc => sm_ch sm_t74 pc, sm_Kn 2 4 none, fun x => sm_lk sm_ca2 x, none)
-- MiceRegisters.followKind 23
def ls_74_23 (i1 : Int32) (m : Nat) (q : fl_M) : fl_M := (fl_u (m_46 0 24 q) (fl_ar 59 (Int32.ofNat m).toNatClampNeg) (((m_46 0 24 q) 32 i1.toNatClampNeg).toNatClampNeg) (((m_46 0 24 q) (fl_ar 59 (Int32.ofNat m).toNatClampNeg) (((m_46 0 24 q) 32 i1.toNatClampNeg).toNatClampNeg)) + 1))
def lq_74_23 (i1 : Int32) (M : fl_M) (m : Nat) : fl_M := fx_it (ls_74_23 i1) m M
theorem lqs_74_23 (i1 : Int32) (M : fl_M) (m : Nat) : lq_74_23 i1 M (m + 1) = (ls_74_23 i1) m (lq_74_23 i1 M m) := by
  unfold lq_74_23
  exact fx_it_s _ _ _
def lr_74_23 (i1 : Int32) (M : fl_M) : fl_M := (lq_74_23 i1 M (20))
theorem ts_74_23 {r : fl_Q} (i1 i2 i3 : Int32) (M : fl_M) (J : fl_J) (q1 : (i3 < 20) → fl_dn fB74 (23, [.ref 0, .int i1, .int i2, .int (i3 + 1)], [], (fl_u (m_46 0 24 M) (fl_ar 59 i3.toNatClampNeg) (((m_46 0 24 M) 32 i1.toNatClampNeg).toNatClampNeg) (((m_46 0 24 M) (fl_ar 59 i3.toNatClampNeg) (((m_46 0 24 M) 32 i1.toNatClampNeg).toNatClampNeg)) + 1)), J) r) (q2 : (¬ (i3 < 20)) → fl_dn fB74 (64, [.ref 0, .int i1, .int i2, .int i3], [], M, J) r) : fl_dn fB74 (23, [.ref 0, .int i1, .int i2, .int i3], [], M, J) r :=
 fl_td (s' := (26, [.ref 0, .int i1, .int i2, .int i3], [.int 20, .int i3], M, J)) (fl_n 2 rfl) <|
 fl_dnot (fl_ic (t := 64) rfl rfl) fl_nlt (fun h1 =>
  fl_td (s' := (34, [.ref 0, .int i1, .int i2, .int i3], [.int 0, .ref 24], M, J)) (fl_n 3 rfl) <|
  fl_td (s' := (37, [.ref 0, .int i1, .int i2, .int i3], [.int ((lr_46_4 0 0 24 M).1)], (m_46 0 24 M), J)) (fl_cv (o := some (.int ((lr_46_4 0 0 24 M).1))) rfl rfl rfl rfl (cc_46 M J 0 24) rfl) <|
  fx_gen (p := fun (MM124 : fl_M) => fl_dn fB74 (37, [.ref 0, .int i1, .int i2, .int i3], [.int ((lr_46_4 0 0 24 M).1)], MM124, J) r) (m_46 0 24 M) (fun MM124 eMM124 =>
   fx_gen (p := fun (II125 : Int32) => fl_dn fB74 (37, [.ref 0, .int i1, .int i2, .int i3], [.int II125], MM124, J) r) ((lr_46_4 0 0 24 M).1) (fun II125 eII125 =>
    fl_td (s' := (23, [.ref 0, .int i1, .int i2, .int (i3 + 1)], [], (fl_u MM124 (fl_ar 59 i3.toNatClampNeg) ((MM124 32 i1.toNatClampNeg).toNatClampNeg) ((MM124 (fl_ar 59 i3.toNatClampNeg) ((MM124 32 i1.toNatClampNeg).toNatClampNeg)) + 1)), J)) (fl_n 17 rfl) <|
    (by subst eMM124; subst eII125; exact (q1 h1))))) (fun h1 =>
  (q2 h1))
theorem lp_74_23 {r : fl_Q} (i1 i2 : Int32) (M : fl_M) (J : fl_J) (hx : ∀ w3 : Value, fl_dn fB74 (64, [.ref 0, .int i1, .int i2, w3], [], (lr_74_23 i1 M), J) r) : fl_dn fB74 (23, [.ref 0, .int i1, .int i2, .int 0], [], M, J) r := by
  have hb : (20 : Int32).toNatClampNeg = 20 := rfl
  have key : ∀ (n m : Nat), m + n = 20 → fl_dn fB74 (23, [.ref 0, .int i1, .int i2, .int (Int32.ofNat m)], [], (lq_74_23 i1 M m), J) r := by
    intro n
    induction n with
    | zero =>
      intro m hm
      have hm : m = 20 := by omega
      have hn : ¬ ((Int32.ofNat m) < 20) := fun z => by have z := (fi_lt (by omega)).mp z; omega
      exact ts_74_23 i1 i2 (Int32.ofNat m) (lq_74_23 i1 M m) J (fun h1 => absurd h1 hn) (fun h1 => (by have e : lr_74_23 i1 M = lq_74_23 i1 M m := (by show lq_74_23 i1 M (20) = _; rw [← hm]); rw [e] at hx; exact hx _))
    | succ n ih =>
      intro m hm
      have hp : (Int32.ofNat m) < 20 := by exact (fi_lt (by omega)).mpr (by omega)
      refine ts_74_23 i1 i2 (Int32.ofNat m) (lq_74_23 i1 M m) J (fun h1 => ?_) (fun h1 => absurd hp h1)
      · have e : lq_74_23 i1 M (m + 1) = (fl_u (m_46 0 24 (lq_74_23 i1 M m)) (fl_ar 59 (Int32.ofNat m).toNatClampNeg) (((m_46 0 24 (lq_74_23 i1 M m)) 32 i1.toNatClampNeg).toNatClampNeg) (((m_46 0 24 (lq_74_23 i1 M m)) (fl_ar 59 (Int32.ofNat m).toNatClampNeg) (((m_46 0 24 (lq_74_23 i1 M m)) 32 i1.toNatClampNeg).toNatClampNeg)) + 1)) := by
          rw [lqs_74_23]
          unfold ls_74_23
          rfl
        have q := ih (m + 1) (by omega)
        rw [e] at q
        first | (rw [fi_s]; exact q) | (rw [← fi_s] at q; exact q) | (simp only [fi_s] at q ⊢; exact q)
  exact key (20) 0 (Nat.zero_add _)
theorem cc_74 (M : fl_M) (J : fl_J) (i kind : Int32) : fl_C 74 [.ref 0, .int i, .int kind] M J (none, (lr_74_23 i (fl_u (m_23 24 15 M) 29 i.toNatClampNeg kind)), J) :=
 fl_Co (B := fB74) rfl rfl <|
 fl_td (s' := (8, [.ref 0, .int i, .int kind, .null], [.ref 15, .ref 24], M, J)) (fl_n 4 rfl) <|
 fl_td (s' := (11, [.ref 0, .int i, .int kind, .null], [], (m_23 24 15 M), J)) (fl_cv (o := none) rfl rfl rfl rfl (cc_23 M J 24 15) rfl) <|
 fx_gen (p := fun (MM123 : fl_M) => fl_dn fB74 (11, [.ref 0, .int i, .int kind, .null], [], MM123, J) (none, (lr_74_23 i (fl_u (m_23 24 15 M) 29 i.toNatClampNeg kind)), J)) (m_23 24 15 M) (fun MM123 eMM123 =>
  fl_td (s' := (23, [.ref 0, .int i, .int kind, .int 0], [], (fl_u MM123 29 i.toNatClampNeg kind), J)) (fl_n 8 rfl) <|
  lp_74_23 i kind (fl_u MM123 29 i.toNatClampNeg kind) J (fun u126 =>
   fx_gen (p := fun (MM127 : fl_M) => fl_dn fB74 (64, [.ref 0, .int i, .int kind, u126], [], MM127, J) (none, (lr_74_23 i (fl_u (m_23 24 15 M) 29 i.toNatClampNeg kind)), J)) (lr_74_23 i (fl_u MM123 29 i.toNatClampNeg kind)) (fun MM127 eMM127 =>
    fl_rt rfl (fun _ => rfl) (by subst eMM123; subst eMM127; rfl))))
def fB73 : sm_P := (fun pc => sm_ch sm_t73 pc, sm_Kn 2 5 none, fun x => sm_lk sm_ca2 x, none)
-- MiceRegisters.followKinds 11
def ls_73_11 (i3 : Int32) (m : Nat) (q : fl_M) : fl_M := (fl_u q (fl_ar 59 i3.toNatClampNeg) (Int32.ofNat m).toNatClampNeg 0)
def lq_73_11 (i3 : Int32) (M : fl_M) (m : Nat) : fl_M := fx_it (ls_73_11 i3) m M
theorem lqs_73_11 (i3 : Int32) (M : fl_M) (m : Nat) : lq_73_11 i3 M (m + 1) = (ls_73_11 i3) m (lq_73_11 i3 M m) := by
  unfold lq_73_11
  exact fx_it_s _ _ _
def lr_73_11 (i3 : Int32) (M : fl_M) : fl_M := (lq_73_11 i3 M (8))
theorem ts_73_11 {r : fl_Q} (i1 i2 i3 i4 : Int32) (M : fl_M) (J : fl_J) (q1 : (i4 < 8) → fl_dn fB73 (11, [.ref 0, .int i1, .int i2, .int i3, .int (i4 + 1)], [], (fl_u M (fl_ar 59 i3.toNatClampNeg) i4.toNatClampNeg 0), J) r) (q2 : (¬ (i4 < 8)) → fl_dn fB73 (34, [.ref 0, .int i1, .int i2, .int i3, .int i4], [], M, J) r) : fl_dn fB73 (11, [.ref 0, .int i1, .int i2, .int i3, .int i4], [], M, J) r :=
 fl_td (s' := (15, [.ref 0, .int i1, .int i2, .int i3, .int i4], [.int 8, .int i4], M, J)) (fl_n 2 rfl) <|
 fl_dnot (fl_ic (t := 34) rfl rfl) fl_nlt (fun h1 =>
  fl_td (s' := (11, [.ref 0, .int i1, .int i2, .int i3, .int (i4 + 1)], [], (fl_u M (fl_ar 59 i3.toNatClampNeg) i4.toNatClampNeg 0), J)) (fl_n 9 rfl) <|
  (q1 h1)) (fun h1 =>
  (q2 h1))
theorem lp_73_11 {r : fl_Q} (i1 i2 i3 : Int32) (M : fl_M) (J : fl_J) (hx : ∀ w4 : Value, fl_dn fB73 (34, [.ref 0, .int i1, .int i2, .int i3, w4], [], (lr_73_11 i3 M), J) r) : fl_dn fB73 (11, [.ref 0, .int i1, .int i2, .int i3, .int 0], [], M, J) r := by
  have hb : (8 : Int32).toNatClampNeg = 8 := rfl
  have key : ∀ (n m : Nat), m + n = 8 → fl_dn fB73 (11, [.ref 0, .int i1, .int i2, .int i3, .int (Int32.ofNat m)], [], (lq_73_11 i3 M m), J) r := by
    intro n
    induction n with
    | zero =>
      intro m hm
      have hm : m = 8 := by omega
      have hn : ¬ ((Int32.ofNat m) < 8) := fun z => by have z := (fi_lt (by omega)).mp z; omega
      exact ts_73_11 i1 i2 i3 (Int32.ofNat m) (lq_73_11 i3 M m) J (fun h1 => absurd h1 hn) (fun h1 => (by have e : lr_73_11 i3 M = lq_73_11 i3 M m := (by show lq_73_11 i3 M (8) = _; rw [← hm]); rw [e] at hx; exact hx _))
    | succ n ih =>
      intro m hm
      have hp : (Int32.ofNat m) < 8 := by exact (fi_lt (by omega)).mpr (by omega)
      refine ts_73_11 i1 i2 i3 (Int32.ofNat m) (lq_73_11 i3 M m) J (fun h1 => ?_) (fun h1 => absurd hp h1)
      · have e : lq_73_11 i3 M (m + 1) = (fl_u (lq_73_11 i3 M m) (fl_ar 59 i3.toNatClampNeg) (Int32.ofNat m).toNatClampNeg 0) := by
          rw [lqs_73_11]
          unfold ls_73_11
          rfl
        have q := ih (m + 1) (by omega)
        rw [e] at q
        first | (rw [fi_s]; exact q) | (rw [← fi_s] at q; exact q) | (simp only [fi_s] at q ⊢; exact q)
  exact key (8) 0 (Nat.zero_add _)
-- MiceRegisters.followKinds 2
def ls_73_2 (m : Nat) (q : fl_M) : fl_M := (lr_73_11 (Int32.ofNat m) q)
def lq_73_2 (M : fl_M) (m : Nat) : fl_M := fx_it ls_73_2 m M
theorem lqs_73_2 (M : fl_M) (m : Nat) : lq_73_2 M (m + 1) = ls_73_2 m (lq_73_2 M m) := by
  unfold lq_73_2
  exact fx_it_s _ _ _
def lr_73_2 (M : fl_M) : fl_M := (lq_73_2 M (20))
theorem ts_73_2 {r : fl_Q} (i1 i2 i3 : Int32) (u4 : Value) (M : fl_M) (J : fl_J) (q1 : (i3 < 20) → ∀ u128 : Value, fl_dn fB73 (2, [.ref 0, .int i1, .int i2, .int (i3 + 1), u128], [], (lr_73_11 i3 M), J) r) (q2 : (¬ (i3 < 20)) → fl_dn fB73 (40, [.ref 0, .int i1, .int i2, .int i3, u4], [], M, J) r) : fl_dn fB73 (2, [.ref 0, .int i1, .int i2, .int i3, u4], [], M, J) r :=
 fl_td (s' := (5, [.ref 0, .int i1, .int i2, .int i3, u4], [.int 20, .int i3], M, J)) (fl_n 2 rfl) <|
 fl_dnot (fl_ic (t := 40) rfl rfl) fl_nlt (fun h1 =>
  fl_td (s' := (11, [.ref 0, .int i1, .int i2, .int i3, .int 0], [], M, J)) (fl_n 2 rfl) <|
  lp_73_11 i1 i2 i3 M J (fun u128 =>
   fx_gen (p := fun (MM129 : fl_M) => fl_dn fB73 (34, [.ref 0, .int i1, .int i2, .int i3, u128], [], MM129, J) r) (lr_73_11 i3 M) (fun MM129 eMM129 =>
    fl_td (s' := (2, [.ref 0, .int i1, .int i2, .int (i3 + 1), u128], [], MM129, J)) (fl_n 2 rfl) <|
    (by subst eMM129; exact (q1 h1 u128))))) (fun h1 =>
  (q2 h1))
theorem lp_73_2 {r : fl_Q} (i1 i2 : Int32) (u4 : Value) (M : fl_M) (J : fl_J) (hx : ∀ w3 w4 : Value, fl_dn fB73 (40, [.ref 0, .int i1, .int i2, w3, w4], [], (lr_73_2 M), J) r) : fl_dn fB73 (2, [.ref 0, .int i1, .int i2, .int 0, u4], [], M, J) r := by
  have hb : (20 : Int32).toNatClampNeg = 20 := rfl
  have key : ∀ (n m : Nat) (w4 : Value), m + n = 20 → fl_dn fB73 (2, [.ref 0, .int i1, .int i2, .int (Int32.ofNat m), w4], [], (lq_73_2 M m), J) r := by
    intro n
    induction n with
    | zero =>
      intro m w4 hm
      have hm : m = 20 := by omega
      have hn : ¬ ((Int32.ofNat m) < 20) := fun z => by have z := (fi_lt (by omega)).mp z; omega
      exact ts_73_2 i1 i2 (Int32.ofNat m) w4 (lq_73_2 M m) J (fun h1 u128 => absurd h1 hn) (fun h1 => (by have e : lr_73_2 M = lq_73_2 M m := (by show lq_73_2 M (20) = _; rw [← hm]); rw [e] at hx; exact hx _ _))
    | succ n ih =>
      intro m w4 hm
      have hp : (Int32.ofNat m) < 20 := by exact (fi_lt (by omega)).mpr (by omega)
      refine ts_73_2 i1 i2 (Int32.ofNat m) w4 (lq_73_2 M m) J (fun h1 u128 => ?_) (fun h1 => absurd hp h1)
      · have e : lq_73_2 M (m + 1) = (lr_73_11 (Int32.ofNat m) (lq_73_2 M m)) := by
          rw [lqs_73_2]
          unfold ls_73_2
          rfl
        have q := ih (m + 1) u128 (by omega)
        rw [e] at q
        first | (rw [fi_s]; exact q) | (rw [← fi_s] at q; exact q) | (simp only [fi_s] at q ⊢; exact q)
  exact key (20) 0 u4 (Nat.zero_add _)

