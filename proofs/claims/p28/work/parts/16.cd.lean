-- MiceRegisters.followKinds 42
def ls_73_42 (i1 i2 : Int32) (m : Nat) (q : fl_M) : fl_M := (if ((i2 >>> ((Int32.ofNat m) &&& 31)) &&& 1) = 1 then (lr_74_23 i1 (fl_u (m_23 24 15 q) 29 i1.toNatClampNeg (Int32.ofNat m))) else q)
def lq_73_42 (i1 i2 : Int32) (M : fl_M) (m : Nat) : fl_M := fx_it (ls_73_42 i1 i2) m M
theorem lqs_73_42 (i1 i2 : Int32) (M : fl_M) (m : Nat) : lq_73_42 i1 i2 M (m + 1) = (ls_73_42 i1 i2) m (lq_73_42 i1 i2 M m) := by
  unfold lq_73_42
  exact fx_it_s _ _ _
def lr_73_42 (i1 i2 : Int32) (M : fl_M) : fl_M := (lq_73_42 i1 i2 M (6))
theorem ts_73_42 {r : fl_Q} (i1 i2 i3 : Int32) (u4 : Value) (M : fl_M) (J : fl_J) (q1 : (i3 < 6) → (((i2 >>> (i3 &&& 31)) &&& 1) = 1) → fl_dn fB73 (42, [.ref 0, .int i1, .int i2, .int (i3 + 1), u4], [], (lr_74_23 i1 (fl_u (m_23 24 15 M) 29 i1.toNatClampNeg i3)), J) r) (q2 : (i3 < 6) → (¬ (((i2 >>> (i3 &&& 31)) &&& 1) = 1)) → fl_dn fB73 (42, [.ref 0, .int i1, .int i2, .int (i3 + 1), u4], [], M, J) r) (q3 : (¬ (i3 < 6)) → fl_dn fB73 (69, [.ref 0, .int i1, .int i2, .int i3, u4], [], M, J) r) : fl_dn fB73 (42, [.ref 0, .int i1, .int i2, .int i3, u4], [], M, J) r :=
 fl_td (s' := (45, [.ref 0, .int i1, .int i2, .int i3, u4], [.int 6, .int i3], M, J)) (fl_n 2 rfl) <|
 fl_dnot (fl_ic (t := 69) rfl rfl) fl_nlt (fun h1 =>
  fl_td (s' := (54, [.ref 0, .int i1, .int i2, .int i3, u4], [.int 1, .int ((i2 >>> (i3 &&& 31)) &&& 1)], M, J)) (fl_n 6 rfl) <|
  fl_dnot (fl_ic (t := 63) rfl rfl) fl_cF (fun h2 =>
   fl_td (s' := (60, [.ref 0, .int i1, .int i2, .int i3, u4], [.int i3, .int i1, .ref 0], M, J)) (fl_n 3 rfl) <|
   fl_td (s' := (63, [.ref 0, .int i1, .int i2, .int i3, u4], [], (lr_74_23 i1 (fl_u (m_23 24 15 M) 29 i1.toNatClampNeg i3)), J)) (fl_cv (o := none) rfl rfl rfl rfl (cc_74 M J i1 i3) rfl) <|
   fx_gen (p := fun (MM133 : fl_M) => fl_dn fB73 (63, [.ref 0, .int i1, .int i2, .int i3, u4], [], MM133, J) r) (lr_74_23 i1 (fl_u (m_23 24 15 M) 29 i1.toNatClampNeg i3)) (fun MM133 eMM133 =>
    fl_td (s' := (42, [.ref 0, .int i1, .int i2, .int (i3 + 1), u4], [], MM133, J)) (fl_n 2 rfl) <|
    (by subst eMM133; exact (q1 h1 h2)))) (fun h2 =>
   fl_td (s' := (42, [.ref 0, .int i1, .int i2, .int (i3 + 1), u4], [], M, J)) (fl_n 2 rfl) <|
   (q2 h1 h2))) (fun h1 =>
  (q3 h1))
theorem lp_73_42 {r : fl_Q} (i1 i2 : Int32) (u4 : Value) (M : fl_M) (J : fl_J) (hx : ∀ w3 : Value, fl_dn fB73 (69, [.ref 0, .int i1, .int i2, w3, u4], [], (lr_73_42 i1 i2 M), J) r) : fl_dn fB73 (42, [.ref 0, .int i1, .int i2, .int 0, u4], [], M, J) r := by
  have hb : (6 : Int32).toNatClampNeg = 6 := rfl
  have key : ∀ (n m : Nat), m + n = 6 → fl_dn fB73 (42, [.ref 0, .int i1, .int i2, .int (Int32.ofNat m), u4], [], (lq_73_42 i1 i2 M m), J) r := by
    intro n
    induction n with
    | zero =>
      intro m hm
      have hm : m = 6 := by omega
      have hn : ¬ ((Int32.ofNat m) < 6) := fun z => by have z := (fi_lt (by omega)).mp z; omega
      exact ts_73_42 i1 i2 (Int32.ofNat m) u4 (lq_73_42 i1 i2 M m) J (fun h1 h2 => absurd h1 hn) (fun h1 h2 => absurd h1 hn) (fun h1 => (by have e : lr_73_42 i1 i2 M = lq_73_42 i1 i2 M m := (by show lq_73_42 i1 i2 M (6) = _; rw [← hm]); rw [e] at hx; exact hx _))
    | succ n ih =>
      intro m hm
      have hp : (Int32.ofNat m) < 6 := by exact (fi_lt (by omega)).mpr (by omega)
      refine ts_73_42 i1 i2 (Int32.ofNat m) u4 (lq_73_42 i1 i2 M m) J (fun h1 h2 => ?_) (fun h1 h2 => ?_) (fun h1 => absurd hp h1)
      · have e : lq_73_42 i1 i2 M (m + 1) = (lr_74_23 i1 (fl_u (m_23 24 15 (lq_73_42 i1 i2 M m)) 29 i1.toNatClampNeg (Int32.ofNat m))) := by
          rw [lqs_73_42]
          unfold ls_73_42
          simp only [if_pos h2]
        have q := ih (m + 1) (by omega)
        rw [e] at q
        first | (rw [fi_s]; exact q) | (rw [← fi_s] at q; exact q) | (simp only [fi_s] at q ⊢; exact q)
      · have e : lq_73_42 i1 i2 M (m + 1) = (lq_73_42 i1 i2 M m) := by
          rw [lqs_73_42]
          unfold ls_73_42
          simp only [if_neg h2]
        have q := ih (m + 1) (by omega)
        rw [e] at q
        first | (rw [fi_s]; exact q) | (rw [← fi_s] at q; exact q) | (simp only [fi_s] at q ⊢; exact q)
  exact key (6) 0 (Nat.zero_add _)
theorem cc_73 (M : fl_M) (J : fl_J) (i f : Int32) : fl_C 73 [.ref 0, .int i, .int f] M J (none, (lr_73_42 i f (lr_73_2 M)), J) :=
 fl_Co (B := fB73) rfl rfl <|
 fl_td (s' := (2, [.ref 0, .int i, .int f, .int 0, .null], [], M, J)) (fl_n 2 rfl) <|
 lp_73_2 i f .null M J (fun u130 u131 =>
  fx_gen (p := fun (MM132 : fl_M) => fl_dn fB73 (40, [.ref 0, .int i, .int f, u130, u131], [], MM132, J) (none, (lr_73_42 i f (lr_73_2 M)), J)) (lr_73_2 M) (fun MM132 eMM132 =>
   fl_td (s' := (42, [.ref 0, .int i, .int f, .int 0, u131], [], MM132, J)) (fl_n 2 rfl) <|
   lp_73_42 i f u131 MM132 J (fun u134 =>
    fx_gen (p := fun (MM135 : fl_M) => fl_dn fB73 (69, [.ref 0, .int i, .int f, u134, u131], [], MM135, J) (none, (lr_73_42 i f (lr_73_2 M)), J)) (lr_73_42 i f MM132) (fun MM135 eMM135 =>
     fl_rt rfl (fun _ => rfl) (by subst eMM132; subst eMM135; rfl)))))
def fB75 : sm_P := (fun pc => sm_ch sm_t75 pc, sm_Kn 2 4 none, fun x => sm_lk sm_ca2 x, some .int)
-- MiceRegisters.greatestPart 4
def ls_75_4 (i1 : Int32) (M : fl_M) (m : Nat) (q : Int32) : Int32 := (if q < M (fl_ar 59 i1.toNatClampNeg) (Int32.ofNat m).toNatClampNeg then M (fl_ar 59 i1.toNatClampNeg) (Int32.ofNat m).toNatClampNeg else q)
def lq_75_4 (i1 i2 : Int32) (M : fl_M) (m : Nat) : Int32 := fx_it (ls_75_4 i1 M) m i2
theorem lqs_75_4 (i1 i2 : Int32) (M : fl_M) (m : Nat) : lq_75_4 i1 i2 M (m + 1) = (ls_75_4 i1 M) m (lq_75_4 i1 i2 M m) := by
  unfold lq_75_4
  exact fx_it_s _ _ _
def lr_75_4 (i1 i2 : Int32) (M : fl_M) : Int32 := (lq_75_4 i1 i2 M (8))
theorem ts_75_4 {r : fl_Q} (i1 i2 i3 : Int32) (M : fl_M) (J : fl_J) (q1 : (i3 < 8) → fl_dn fB75 (4, [.ref 0, .int i1, .int (if i2 < M (fl_ar 59 i1.toNatClampNeg) i3.toNatClampNeg then M (fl_ar 59 i1.toNatClampNeg) i3.toNatClampNeg else i2), .int (i3 + 1)], [], M, J) r) (q2 : (¬ (i3 < 8)) → fl_dn fB75 (29, [.ref 0, .int i1, .int i2, .int i3], [], M, J) r) : fl_dn fB75 (4, [.ref 0, .int i1, .int i2, .int i3], [], M, J) r :=
 fl_td (s' := (7, [.ref 0, .int i1, .int i2, .int i3], [.int 8, .int i3], M, J)) (fl_n 2 rfl) <|
 fl_dnot (fl_ic (t := 29) rfl rfl) fl_nlt (fun h1 =>
  fl_td (s' := (4, [.ref 0, .int i1, .int (if i2 < M (fl_ar 59 i1.toNatClampNeg) i3.toNatClampNeg then M (fl_ar 59 i1.toNatClampNeg) i3.toNatClampNeg else i2), .int (i3 + 1)], [], M, J)) (fl_n 11 rfl) <|
  (q1 h1)) (fun h1 =>
  (q2 h1))
theorem lp_75_4 {r : fl_Q} (i1 i2 : Int32) (M : fl_M) (J : fl_J) (hx : ∀ w3 : Value, fl_dn fB75 (29, [.ref 0, .int i1, .int (lr_75_4 i1 i2 M), w3], [], M, J) r) : fl_dn fB75 (4, [.ref 0, .int i1, .int i2, .int 0], [], M, J) r := by
  have hb : (8 : Int32).toNatClampNeg = 8 := rfl
  have key : ∀ (n m : Nat), m + n = 8 → fl_dn fB75 (4, [.ref 0, .int i1, .int (lq_75_4 i1 i2 M m), .int (Int32.ofNat m)], [], M, J) r := by
    intro n
    induction n with
    | zero =>
      intro m hm
      have hm : m = 8 := by omega
      have hn : ¬ ((Int32.ofNat m) < 8) := fun z => by have z := (fi_lt (by omega)).mp z; omega
      exact ts_75_4 i1 (lq_75_4 i1 i2 M m) (Int32.ofNat m) M J (fun h1 => absurd h1 hn) (fun h1 => (by have e : lr_75_4 i1 i2 M = lq_75_4 i1 i2 M m := (by show lq_75_4 i1 i2 M (8) = _; rw [← hm]); rw [e] at hx; exact hx _))
    | succ n ih =>
      intro m hm
      have hp : (Int32.ofNat m) < 8 := by exact (fi_lt (by omega)).mpr (by omega)
      refine ts_75_4 i1 (lq_75_4 i1 i2 M m) (Int32.ofNat m) M J (fun h1 => ?_) (fun h1 => absurd hp h1)
      · have e : lq_75_4 i1 i2 M (m + 1) = (if (lq_75_4 i1 i2 M m) < M (fl_ar 59 i1.toNatClampNeg) (Int32.ofNat m).toNatClampNeg then M (fl_ar 59 i1.toNatClampNeg) (Int32.ofNat m).toNatClampNeg else (lq_75_4 i1 i2 M m)) := by
          rw [lqs_75_4]
          unfold ls_75_4
          rfl
        have q := ih (m + 1) (by omega)
        rw [e] at q
        first | (rw [fi_s]; exact q) | (rw [← fi_s] at q; exact q) | (simp only [fi_s] at q ⊢; exact q)
  exact key (8) 0 (Nat.zero_add _)
theorem cc_75 (M : fl_M) (J : fl_J) (y : Int32) : fl_C 75 [.ref 0, .int y] M J (some (.int (lr_75_4 y 0 M)), M, J) :=
 fl_Co (B := fB75) rfl rfl <|
 fl_td (s' := (4, [.ref 0, .int y, .int 0, .int 0], [], M, J)) (fl_n 4 rfl) <|
 lp_75_4 y 0 M J (fun u136 =>
  fx_gen (p := fun (II137 : Int32) => fl_dn fB75 (29, [.ref 0, .int y, .int II137, u136], [], M, J) (some (.int (lr_75_4 y 0 M)), M, J)) (lr_75_4 y 0 M) (fun II137 eII137 =>
   fl_td (s' := (30, [.ref 0, .int y, .int II137, u136], [.int II137], M, J)) (fl_n 1 rfl) <|
   fl_rt rfl (fun _ => rfl) (by subst eII137; rfl)))
def fB72 : sm_P := (fun pc => sm_ch sm_t72 pc, sm_Kn 2 9 none, fun x => sm_lk sm_ca2 x, some .int)
-- MiceRegisters.look 46
def ls_72_46 (M : fl_M) (m : Nat) (q : (Int32 × Int32)) : (Int32 × Int32) := (if (lr_75_4 (Int32.ofNat m) 0 M) < q.2 then (((Int32.ofNat m) + 1), (lr_75_4 (Int32.ofNat m) 0 M)) else (q.1, q.2))
def lq_72_46 (i5 i6 : Int32) (M : fl_M) (m : Nat) : (Int32 × Int32) := fx_it (ls_72_46 M) m (i5, i6)
theorem lqs_72_46 (i5 i6 : Int32) (M : fl_M) (m : Nat) : lq_72_46 i5 i6 M (m + 1) = (ls_72_46 M) m (lq_72_46 i5 i6 M m) := by
  unfold lq_72_46
  exact fx_it_s _ _ _
def lr_72_46 (i5 i6 : Int32) (M : fl_M) : (Int32 × Int32) := (lq_72_46 i5 i6 M (20))
theorem ts_72_46 {r : fl_Q} (i1 i2 i3 i4 i5 i6 i7 : Int32) (u8 : Value) (M : fl_M) (J : fl_J) (q1 : (i7 < 20) → ((lr_75_4 i7 0 M) < i6) → fl_dn fB72 (46, [.ref 0, .int i1, .int i2, .int i3, .int i4, .int (i7 + 1), .int (lr_75_4 i7 0 M), .int (i7 + 1), .int (lr_75_4 i7 0 M)], [], M, J) r) (q2 : (i7 < 20) → (¬ ((lr_75_4 i7 0 M) < i6)) → fl_dn fB72 (46, [.ref 0, .int i1, .int i2, .int i3, .int i4, .int i5, .int i6, .int (i7 + 1), .int (lr_75_4 i7 0 M)], [], M, J) r) (q3 : (¬ (i7 < 20)) → fl_dn fB72 (84, [.ref 0, .int i1, .int i2, .int i3, .int i4, .int i5, .int i6, .int i7, u8], [], M, J) r) : fl_dn fB72 (46, [.ref 0, .int i1, .int i2, .int i3, .int i4, .int i5, .int i6, .int i7, u8], [], M, J) r :=
 fl_td (s' := (50, [.ref 0, .int i1, .int i2, .int i3, .int i4, .int i5, .int i6, .int i7, u8], [.int 20, .int i7], M, J)) (fl_n 2 rfl) <|
 fl_dnot (fl_ic (t := 84) rfl rfl) fl_nlt (fun h1 =>
  fl_td (s' := (56, [.ref 0, .int i1, .int i2, .int i3, .int i4, .int i5, .int i6, .int i7, u8], [.int i7, .ref 0], M, J)) (fl_n 2 rfl) <|
  fl_td (s' := (59, [.ref 0, .int i1, .int i2, .int i3, .int i4, .int i5, .int i6, .int i7, u8], [.int (lr_75_4 i7 0 M)], M, J)) (fl_cv (o := some (.int (lr_75_4 i7 0 M))) rfl rfl rfl rfl (cc_75 M J i7) rfl) <|
  fx_gen (p := fun (II142 : Int32) => fl_dn fB72 (59, [.ref 0, .int i1, .int i2, .int i3, .int i4, .int i5, .int i6, .int i7, u8], [.int II142], M, J) r) (lr_75_4 i7 0 M) (fun II142 eII142 =>
   fl_td (s' := (65, [.ref 0, .int i1, .int i2, .int i3, .int i4, .int i5, .int i6, .int i7, .int II142], [.int i6, .int II142], M, J)) (fl_n 3 rfl) <|
   fl_dnot (fl_ic (t := 78) rfl rfl) fl_nlt (fun h2 =>
    fl_td (s' := (46, [.ref 0, .int i1, .int i2, .int i3, .int i4, .int (i7 + 1), .int II142, .int (i7 + 1), .int II142], [], M, J)) (fl_n 8 rfl) <|
    (by subst eII142; exact (q1 h1 h2))) (fun h2 =>
    fl_td (s' := (46, [.ref 0, .int i1, .int i2, .int i3, .int i4, .int i5, .int i6, .int (i7 + 1), .int II142], [], M, J)) (fl_n 2 rfl) <|
    (by subst eII142; exact (q2 h1 h2))))) (fun h1 =>
  (q3 h1))
theorem lp_72_46 {r : fl_Q} (i1 i2 i3 i4 i5 i6 : Int32) (u8 : Value) (M : fl_M) (J : fl_J) (hx : ∀ w7 w8 : Value, fl_dn fB72 (84, [.ref 0, .int i1, .int i2, .int i3, .int i4, .int ((lr_72_46 i5 i6 M).1), .int ((lr_72_46 i5 i6 M).2), w7, w8], [], M, J) r) : fl_dn fB72 (46, [.ref 0, .int i1, .int i2, .int i3, .int i4, .int i5, .int i6, .int 0, u8], [], M, J) r := by
  have hb : (20 : Int32).toNatClampNeg = 20 := rfl
  have key : ∀ (n m : Nat) (w8 : Value), m + n = 20 → fl_dn fB72 (46, [.ref 0, .int i1, .int i2, .int i3, .int i4, .int ((lq_72_46 i5 i6 M m).1), .int ((lq_72_46 i5 i6 M m).2), .int (Int32.ofNat m), w8], [], M, J) r := by
    intro n
    induction n with
    | zero =>
      intro m w8 hm
      have hm : m = 20 := by omega
      have hn : ¬ ((Int32.ofNat m) < 20) := fun z => by have z := (fi_lt (by omega)).mp z; omega
      exact ts_72_46 i1 i2 i3 i4 ((lq_72_46 i5 i6 M m).1) ((lq_72_46 i5 i6 M m).2) (Int32.ofNat m) w8 M J (fun h1 h2 => absurd h1 hn) (fun h1 h2 => absurd h1 hn) (fun h1 => (by have e : lr_72_46 i5 i6 M = lq_72_46 i5 i6 M m := (by show lq_72_46 i5 i6 M (20) = _; rw [← hm]); rw [e] at hx; exact hx _ _))
    | succ n ih =>
      intro m w8 hm
      have hp : (Int32.ofNat m) < 20 := by exact (fi_lt (by omega)).mpr (by omega)
      refine ts_72_46 i1 i2 i3 i4 ((lq_72_46 i5 i6 M m).1) ((lq_72_46 i5 i6 M m).2) (Int32.ofNat m) w8 M J (fun h1 h2 => ?_) (fun h1 h2 => ?_) (fun h1 => absurd hp h1)
      · have e : lq_72_46 i5 i6 M (m + 1) = (((Int32.ofNat m) + 1), (lr_75_4 (Int32.ofNat m) 0 M)) := by
          rw [lqs_72_46]
          unfold ls_72_46
          simp only [if_pos h2]
        have q := ih (m + 1) (.int (lr_75_4 (Int32.ofNat m) 0 M)) (by omega)
        rw [e] at q
        first | (rw [fi_s]; exact q) | (rw [← fi_s] at q; exact q) | (simp only [fi_s] at q ⊢; exact q)
      · have e : lq_72_46 i5 i6 M (m + 1) = (((lq_72_46 i5 i6 M m).1), ((lq_72_46 i5 i6 M m).2)) := by
          rw [lqs_72_46]
          unfold ls_72_46
          simp only [if_neg h2]
        have q := ih (m + 1) (.int (lr_75_4 (Int32.ofNat m) 0 M)) (by omega)
        rw [e] at q
        first | (rw [fi_s]; exact q) | (rw [← fi_s] at q; exact q) | (simp only [fi_s] at q ⊢; exact q)
  exact key (20) 0 u8 (Nat.zero_add _)
def v_72 (i r : Int32) (M : fl_M) : Int32 := (if (v_68 i r M) = 0 then (if ((lr_71_5 i r 0 (m_68 i r M)).1) = 0 then (-9) else ((lr_72_46 0 7 (lr_73_42 i ((lr_71_5 i r 0 (m_68 i r M)).1) (lr_73_2 ((lr_71_5 i r 0 (m_68 i r M)).2)))).1)) else v_68 i r M)
def m_72 (i r : Int32) (M : fl_M) : fl_M := (if (v_68 i r M) = 0 then (if ((lr_71_5 i r 0 (m_68 i r M)).1) = 0 then ((lr_71_5 i r 0 (m_68 i r M)).2) else (fl_u (lr_73_42 i ((lr_71_5 i r 0 (m_68 i r M)).1) (lr_73_2 ((lr_71_5 i r 0 (m_68 i r M)).2))) 0 12 ((lr_72_46 0 7 (lr_73_42 i ((lr_71_5 i r 0 (m_68 i r M)).1) (lr_73_2 ((lr_71_5 i r 0 (m_68 i r M)).2)))).2))) else (m_68 i r M))
theorem cc_72 (M : fl_M) (J : fl_J) (i r : Int32) : fl_C 72 [.ref 0, .int i, .int r] M J (some (.int (v_72 i r M)), (m_72 i r M), J) :=
 fl_Co (B := fB72) rfl rfl <|
 fl_td (s' := (3, [.ref 0, .int i, .int r, .null, .null, .null, .null, .null, .null], [.int r, .int i, .ref 0], M, J)) (fl_n 3 rfl) <|
 fl_td (s' := (6, [.ref 0, .int i, .int r, .null, .null, .null, .null, .null, .null], [.int (v_68 i r M)], (m_68 i r M), J)) (fl_cv (o := some (.int (v_68 i r M))) rfl rfl rfl rfl (cc_68 M J i r) rfl) <|
 fx_gen (p := fun (MM138 : fl_M) => fl_dn fB72 (6, [.ref 0, .int i, .int r, .null, .null, .null, .null, .null, .null], [.int (v_68 i r M)], MM138, J) (some (.int (v_72 i r M)), (m_72 i r M), J)) (m_68 i r M) (fun MM138 eMM138 =>
  fl_td (s' := (8, [.ref 0, .int i, .int r, .int (v_68 i r M), .null, .null, .null, .null, .null], [.int (v_68 i r M)], MM138, J)) (fl_n 2 rfl) <|
  fl_dtwo (fl_if (t := 13) rfl rfl) fl_cT (fun h2 =>
   fl_td (s' := (16, [.ref 0, .int i, .int r, .int (v_68 i r M), .null, .null, .null, .null, .null], [.int r, .int i, .ref 0], MM138, J)) (fl_n 3 rfl) <|
   fl_td (s' := (19, [.ref 0, .int i, .int r, .int (v_68 i r M), .null, .null, .null, .null, .null], [.int ((lr_71_5 i r 0 MM138).1)], ((lr_71_5 i r 0 MM138).2), J)) (fl_cv (o := some (.int ((lr_71_5 i r 0 MM138).1))) rfl rfl rfl rfl (cc_71 MM138 J i r) rfl) <|
   fx_gen (p := fun (MM139 : fl_M) => fl_dn fB72 (19, [.ref 0, .int i, .int r, .int (v_68 i r M), .null, .null, .null, .null, .null], [.int ((lr_71_5 i r 0 MM138).1)], MM139, J) (some (.int (v_72 i r M)), (m_72 i r M), J)) ((lr_71_5 i r 0 MM138).2) (fun MM139 eMM139 =>
    fx_gen (p := fun (II140 : Int32) => fl_dn fB72 (19, [.ref 0, .int i, .int r, .int (v_68 i r M), .null, .null, .null, .null, .null], [.int II140], MM139, J) (some (.int (v_72 i r M)), (m_72 i r M), J)) ((lr_71_5 i r 0 MM138).1) (fun II140 eII140 =>
     fl_td (s' := (23, [.ref 0, .int i, .int r, .int (v_68 i r M), .int II140, .null, .null, .null, .null], [.int II140], MM139, J)) (fl_n 2 rfl) <|
     fl_dnot (fl_if (t := 29) rfl rfl) fl_cF (fun h4 =>
      fl_td (s' := (28, [.ref 0, .int i, .int r, .int (v_68 i r M), .int II140, .null, .null, .null, .null], [.int (-9)], MM139, J)) (fl_n 1 rfl) <|
      fl_rt rfl (fun _ => rfl) (by subst eMM138; subst eMM139; subst eII140; unfold v_72 m_72; first | (simp only [if_pos h2, if_pos h4]; done) | rfl)) (fun h4 =>
      fl_td (s' := (33, [.ref 0, .int i, .int r, .int (v_68 i r M), .int II140, .null, .null, .null, .null], [.int II140, .int i, .ref 0], MM139, J)) (fl_n 3 rfl) <|
      fl_td (s' := (36, [.ref 0, .int i, .int r, .int (v_68 i r M), .int II140, .null, .null, .null, .null], [], (lr_73_42 i II140 (lr_73_2 MM139)), J)) (fl_cv (o := none) rfl rfl rfl rfl (cc_73 MM139 J i II140) rfl) <|
      fx_gen (p := fun (MM141 : fl_M) => fl_dn fB72 (36, [.ref 0, .int i, .int r, .int (v_68 i r M), .int II140, .null, .null, .null, .null], [], MM141, J) (some (.int (v_72 i r M)), (m_72 i r M), J)) (lr_73_42 i II140 (lr_73_2 MM139)) (fun MM141 eMM141 =>
       fl_td (s' := (46, [.ref 0, .int i, .int r, .int (v_68 i r M), .int II140, .int 0, .int 7, .int 0, .null], [], MM141, J)) (fl_n 6 rfl) <|
       lp_72_46 i r (v_68 i r M) II140 0 7 .null MM141 J (fun u143 u144 =>
        fx_gen (p := fun (II145 : Int32) => fl_dn fB72 (84, [.ref 0, .int i, .int r, .int (v_68 i r M), .int II140, .int II145, .int ((lr_72_46 0 7 MM141).2), u143, u144], [], MM141, J) (some (.int (v_72 i r M)), (m_72 i r M), J)) ((lr_72_46 0 7 MM141).1) (fun II145 eII145 =>
         fx_gen (p := fun (II146 : Int32) => fl_dn fB72 (84, [.ref 0, .int i, .int r, .int (v_68 i r M), .int II140, .int II145, .int II146, u143, u144], [], MM141, J) (some (.int (v_72 i r M)), (m_72 i r M), J)) ((lr_72_46 0 7 MM141).2) (fun II146 eII146 =>
          fl_td (s' := (87, [.ref 0, .int i, .int r, .int (v_68 i r M), .int II140, .int II145, .int II146, u143, u144], [.int II146, .ref 0], MM141, J)) (fl_n 2 rfl) <|
          fl_td (s' := (90, [.ref 0, .int i, .int r, .int (v_68 i r M), .int II140, .int II145, .int II146, u143, u144], [.int 1], (fl_u MM141 0 12 II146), J)) (fl_cv (o := some (.int 1)) rfl rfl rfl rfl (cc_5 MM141 J II146) rfl) <|
          fl_td (s' := (93, [.ref 0, .int i, .int r, .int (v_68 i r M), .int II140, .int II145, .int II146, u143, u144], [.int II145], (fl_u MM141 0 12 II146), J)) (fl_n 2 rfl) <|
          fl_rt rfl (fun _ => rfl) (by subst eMM138; subst eMM139; subst eII140; subst eMM141; subst eII145; subst eII146; unfold v_72 m_72; first | (simp only [if_pos h2, if_neg h4]; done) | rfl))))))))) (fun h2 =>
   fl_td (s' := (12, [.ref 0, .int i, .int r, .int (v_68 i r M), .null, .null, .null, .null, .null], [.int (v_68 i r M)], MM138, J)) (fl_n 1 rfl) <|
   fl_rt rfl (fun _ => rfl) (by subst eMM138; unfold v_72 m_72; first | (simp only [if_neg h2]; done) | rfl)))
def fB84 : sm_P := (fun pc => sm_ch sm_t84 pc, sm_Kn 2 2 none, fun x => sm_lk sm_ca2 x, none)
theorem cc_84 (M : fl_M) (J : fl_J) (s : Int32) : fl_C 84 [.ref 0, .int s] M J (none, (m_46 s 24 (m_23 24 15 M)), J) :=
 fl_Co (B := fB84) rfl rfl <|
 fl_td (s' := (8, [.ref 0, .int s], [.ref 15, .ref 24], M, J)) (fl_n 4 rfl) <|
 fl_td (s' := (11, [.ref 0, .int s], [], (m_23 24 15 M), J)) (fl_cv (o := none) rfl rfl rfl rfl (cc_23 M J 24 15) rfl) <|
 fx_gen (p := fun (MM147 : fl_M) => fl_dn fB84 (11, [.ref 0, .int s], [], MM147, J) (none, (m_46 s 24 (m_23 24 15 M)), J)) (m_23 24 15 M) (fun MM147 eMM147 =>
  fl_td (s' := (16, [.ref 0, .int s], [.int s, .ref 24], MM147, J)) (fl_n 3 rfl) <|
  fl_td (s' := (19, [.ref 0, .int s], [.int ((lr_46_4 s 0 24 MM147).1)], (m_46 s 24 MM147), J)) (fl_cv (o := some (.int ((lr_46_4 s 0 24 MM147).1))) rfl rfl rfl rfl (cc_46 MM147 J s 24) rfl) <|
  fx_gen (p := fun (MM148 : fl_M) => fl_dn fB84 (19, [.ref 0, .int s], [.int ((lr_46_4 s 0 24 MM147).1)], MM148, J) (none, (m_46 s 24 (m_23 24 15 M)), J)) (m_46 s 24 MM147) (fun MM148 eMM148 =>
   fx_gen (p := fun (II149 : Int32) => fl_dn fB84 (19, [.ref 0, .int s], [.int II149], MM148, J) (none, (m_46 s 24 (m_23 24 15 M)), J)) ((lr_46_4 s 0 24 MM147).1) (fun II149 eII149 =>
    fl_td (s' := (20, [.ref 0, .int s], [], MM148, J)) (fl_n 1 rfl) <|
    fl_rt rfl (fun _ => rfl) (by subst eMM147; subst eMM148; subst eII149; rfl))))
def fB85 : sm_P := (fun pc => sm_ch sm_t85 pc, sm_Kn 2 6 none, fun x => sm_lk sm_ca2 x, some .long)
-- MiceRegisters.weightOf 5
def ls_85_5 (i1 i2 : Int32) (m : Nat) (q : Int64) : Int64 := (if ((i1 >>> ((Int32.ofNat m) &&& 31)) &&& 1) = 1 then (q * i2.toInt64) else (q * ((12 - i2).toInt64)))
def lq_85_5 (i1 i2 : Int32) (l3 : Int64) (m : Nat) : Int64 := fx_it (ls_85_5 i1 i2) m l3
theorem lqs_85_5 (i1 i2 : Int32) (l3 : Int64) (m : Nat) : lq_85_5 i1 i2 l3 (m + 1) = (ls_85_5 i1 i2) m (lq_85_5 i1 i2 l3 m) := by
  unfold lq_85_5
  exact fx_it_s _ _ _
def lr_85_5 (i1 i2 : Int32) (l3 : Int64) (M : fl_M) : Int64 := (lq_85_5 i1 i2 l3 (((M 15 1)).toNatClampNeg))
theorem ts_85_5 {r : fl_Q} (i1 i2 i5 : Int32) (l3 : Int64) (M : fl_M) (J : fl_J) (q1 : (i5 < (M 15 1)) → (((i1 >>> (i5 &&& 31)) &&& 1) = 1) → fl_dn fB85 (5, [.ref 0, .int i1, .int i2, .long (l3 * i2.toInt64), .null, .int (i5 + 1)], [], M, J) r) (q2 : (i5 < (M 15 1)) → (¬ (((i1 >>> (i5 &&& 31)) &&& 1) = 1)) → fl_dn fB85 (5, [.ref 0, .int i1, .int i2, .long (l3 * ((12 - i2).toInt64)), .null, .int (i5 + 1)], [], M, J) r) (q3 : (¬ (i5 < (M 15 1))) → fl_dn fB85 (46, [.ref 0, .int i1, .int i2, .long l3, .null, .int i5], [], M, J) r) : fl_dn fB85 (5, [.ref 0, .int i1, .int i2, .long l3, .null, .int i5], [], M, J) r :=
 fl_td (s' := (14, [.ref 0, .int i1, .int i2, .long l3, .null, .int i5], [.int (M 15 1), .int i5], M, J)) (fl_n 4 rfl) <|
 fl_dnot (fl_ic (t := 46) rfl rfl) fl_nlt (fun h1 =>
  fl_td (s' := (25, [.ref 0, .int i1, .int i2, .long l3, .null, .int i5], [.int 1, .int ((i1 >>> (i5 &&& 31)) &&& 1), .long l3], M, J)) (fl_n 7 rfl) <|
  fl_dnot (fl_ic (t := 33) rfl rfl) fl_cF (fun h2 =>
   fl_td (s' := (5, [.ref 0, .int i1, .int i2, .long (l3 * i2.toInt64), .null, .int (i5 + 1)], [], M, J)) (fl_n 7 rfl) <|
   (q1 h1 h2)) (fun h2 =>
   fl_td (s' := (5, [.ref 0, .int i1, .int i2, .long (l3 * ((12 - i2).toInt64)), .null, .int (i5 + 1)], [], M, J)) (fl_n 8 rfl) <|
   (q2 h1 h2))) (fun h1 =>
  (q3 h1))
theorem lp_85_5 {r : fl_Q} (i1 i2 : Int32) (l3 : Int64) (M : fl_M) (J : fl_J) (hx : ∀ w5 : Value, fl_dn fB85 (46, [.ref 0, .int i1, .int i2, .long (lr_85_5 i1 i2 l3 M), .null, w5], [], M, J) r) : fl_dn fB85 (5, [.ref 0, .int i1, .int i2, .long l3, .null, .int 0], [], M, J) r := by
  have hb := fi_bd (M 15 1)
  have key : ∀ (n m : Nat), m + n = ((M 15 1)).toNatClampNeg → fl_dn fB85 (5, [.ref 0, .int i1, .int i2, .long (lq_85_5 i1 i2 l3 m), .null, .int (Int32.ofNat m)], [], M, J) r := by
    intro n
    induction n with
    | zero =>
      intro m hm
      have hm : m = ((M 15 1)).toNatClampNeg := by omega
      have hn : ¬ ((Int32.ofNat m) < (M 15 1)) := fun z => by have z := (fi_lt (by omega)).mp z; omega
      exact ts_85_5 i1 i2 (Int32.ofNat m) (lq_85_5 i1 i2 l3 m) M J (fun h1 h2 => absurd h1 hn) (fun h1 h2 => absurd h1 hn) (fun h1 => (by have e : lr_85_5 i1 i2 l3 M = lq_85_5 i1 i2 l3 m := (by show lq_85_5 i1 i2 l3 (((M 15 1)).toNatClampNeg) = _; rw [← hm]); rw [e] at hx; exact hx _))
    | succ n ih =>
      intro m hm
      have hp : (Int32.ofNat m) < (M 15 1) := by exact (fi_lt (by omega)).mpr (by omega)
      refine ts_85_5 i1 i2 (Int32.ofNat m) (lq_85_5 i1 i2 l3 m) M J (fun h1 h2 => ?_) (fun h1 h2 => ?_) (fun h1 => absurd hp h1)
      · have e : lq_85_5 i1 i2 l3 (m + 1) = ((lq_85_5 i1 i2 l3 m) * i2.toInt64) := by
          rw [lqs_85_5]
          unfold ls_85_5
          simp only [if_pos h2]
        have q := ih (m + 1) (by omega)
        rw [e] at q
        first | (rw [fi_s]; exact q) | (rw [← fi_s] at q; exact q) | (simp only [fi_s] at q ⊢; exact q)
      · have e : lq_85_5 i1 i2 l3 (m + 1) = ((lq_85_5 i1 i2 l3 m) * ((12 - i2).toInt64)) := by
          rw [lqs_85_5]
          unfold ls_85_5
          simp only [if_neg h2]
        have q := ih (m + 1) (by omega)
        rw [e] at q
        first | (rw [fi_s]; exact q) | (rw [← fi_s] at q; exact q) | (simp only [fi_s] at q ⊢; exact q)
  exact key (((M 15 1)).toNatClampNeg) 0 (Nat.zero_add _)
theorem cc_85 (M : fl_M) (J : fl_J) (s p : Int32) : fl_C 85 [.ref 0, .int s, .int p] M J (some (.long (lr_85_5 s p 1 M)), M, J) :=
 fl_Co (B := fB85) rfl rfl <|
 fl_td (s' := (5, [.ref 0, .int s, .int p, .long 1, .null, .int 0], [], M, J)) (fl_n 4 rfl) <|
 lp_85_5 s p 1 M J (fun u150 =>
  fx_gen (p := fun (LL151 : Int64) => fl_dn fB85 (46, [.ref 0, .int s, .int p, .long LL151, .null, u150], [], M, J) (some (.long (lr_85_5 s p 1 M)), M, J)) (lr_85_5 s p 1 M) (fun LL151 eLL151 =>
   fl_td (s' := (47, [.ref 0, .int s, .int p, .long LL151, .null, u150], [.long LL151], M, J)) (fl_n 1 rfl) <|
   fl_rt rfl (fun _ => rfl) (by subst eLL151; rfl)))
def fB86 : sm_P := (fun pc => sm_ch sm_t86 pc, sm_Kn 2 4 none, fun x => sm_lk sm_ca2 x, some .long)
-- MiceRegisters.allWeights 4
def ls_86_4 (m : Nat) (q : Int64) : Int64 := (q * 12)
def lq_86_4 (l1 : Int64) (m : Nat) : Int64 := fx_it ls_86_4 m l1
theorem lqs_86_4 (l1 : Int64) (m : Nat) : lq_86_4 l1 (m + 1) = ls_86_4 m (lq_86_4 l1 m) := by
  unfold lq_86_4
  exact fx_it_s _ _ _
def lr_86_4 (l1 : Int64) (M : fl_M) : Int64 := (lq_86_4 l1 (((M 15 1)).toNatClampNeg))
theorem ts_86_4 {r : fl_Q} (i3 : Int32) (l1 : Int64) (M : fl_M) (J : fl_J) (q1 : (i3 < (M 15 1)) → fl_dn fB86 (4, [.ref 0, .long (l1 * 12), .null, .int (i3 + 1)], [], M, J) r) (q2 : (¬ (i3 < (M 15 1))) → fl_dn fB86 (27, [.ref 0, .long l1, .null, .int i3], [], M, J) r) : fl_dn fB86 (4, [.ref 0, .long l1, .null, .int i3], [], M, J) r :=
 fl_td (s' := (12, [.ref 0, .long l1, .null, .int i3], [.int (M 15 1), .int i3], M, J)) (fl_n 4 rfl) <|
 fl_dnot (fl_ic (t := 27) rfl rfl) fl_nlt (fun h1 =>
  fl_td (s' := (4, [.ref 0, .long (l1 * 12), .null, .int (i3 + 1)], [], M, J)) (fl_n 6 rfl) <|
  (q1 h1)) (fun h1 =>
  (q2 h1))
theorem lp_86_4 {r : fl_Q} (l1 : Int64) (M : fl_M) (J : fl_J) (hx : ∀ w3 : Value, fl_dn fB86 (27, [.ref 0, .long (lr_86_4 l1 M), .null, w3], [], M, J) r) : fl_dn fB86 (4, [.ref 0, .long l1, .null, .int 0], [], M, J) r := by
  have hb := fi_bd (M 15 1)
  have key : ∀ (n m : Nat), m + n = ((M 15 1)).toNatClampNeg → fl_dn fB86 (4, [.ref 0, .long (lq_86_4 l1 m), .null, .int (Int32.ofNat m)], [], M, J) r := by
    intro n
    induction n with
    | zero =>
      intro m hm
      have hm : m = ((M 15 1)).toNatClampNeg := by omega
      have hn : ¬ ((Int32.ofNat m) < (M 15 1)) := fun z => by have z := (fi_lt (by omega)).mp z; omega
      exact ts_86_4 (Int32.ofNat m) (lq_86_4 l1 m) M J (fun h1 => absurd h1 hn) (fun h1 => (by have e : lr_86_4 l1 M = lq_86_4 l1 m := (by show lq_86_4 l1 (((M 15 1)).toNatClampNeg) = _; rw [← hm]); rw [e] at hx; exact hx _))
    | succ n ih =>
      intro m hm
      have hp : (Int32.ofNat m) < (M 15 1) := by exact (fi_lt (by omega)).mpr (by omega)
      refine ts_86_4 (Int32.ofNat m) (lq_86_4 l1 m) M J (fun h1 => ?_) (fun h1 => absurd hp h1)
      · have e : lq_86_4 l1 (m + 1) = ((lq_86_4 l1 m) * 12) := by
          rw [lqs_86_4]
          unfold ls_86_4
          rfl
        have q := ih (m + 1) (by omega)
        rw [e] at q
        first | (rw [fi_s]; exact q) | (rw [← fi_s] at q; exact q) | (simp only [fi_s] at q ⊢; exact q)
  exact key (((M 15 1)).toNatClampNeg) 0 (Nat.zero_add _)
theorem cc_86 (M : fl_M) (J : fl_J) : fl_C 86 [.ref 0] M J (some (.long (lr_86_4 1 M)), M, J) :=
 fl_Co (B := fB86) rfl rfl <|
 fl_td (s' := (4, [.ref 0, .long 1, .null, .int 0], [], M, J)) (fl_n 4 rfl) <|
 lp_86_4 1 M J (fun u152 =>
  fx_gen (p := fun (LL153 : Int64) => fl_dn fB86 (27, [.ref 0, .long LL153, .null, u152], [], M, J) (some (.long (lr_86_4 1 M)), M, J)) (lr_86_4 1 M) (fun LL153 eLL153 =>
   fl_td (s' := (28, [.ref 0, .long LL153, .null, u152], [.long LL153], M, J)) (fl_n 1 rfl) <|
   fl_rt rfl (fun _ => rfl) (by subst eLL153; rfl)))
def fB96 : sm_P := (fun pc => sm_ch sm_t96 pc, sm_Kn 2 6 none, fun x => sm_lk sm_ca2 x, some .int)
-- MiceRegisters.howManyThere 10
def ls_96_10 (r2 : Nat) (M : fl_M) (m : Nat) (q : Int32) : Int32 := (if (M r2 (Int32.ofNat m).toNatClampNeg) = (-1) then (q + 0) else (q + 1))
def lq_96_10 (i1 : Int32) (r2 : Nat) (M : fl_M) (m : Nat) : Int32 := fx_it (ls_96_10 r2 M) m i1
theorem lqs_96_10 (i1 : Int32) (r2 : Nat) (M : fl_M) (m : Nat) : lq_96_10 i1 r2 M (m + 1) = (ls_96_10 r2 M) m (lq_96_10 i1 r2 M m) := by
  unfold lq_96_10
  exact fx_it_s _ _ _
def lr_96_10 (i1 i3 : Int32) (r2 : Nat) (M : fl_M) : Int32 := (lq_96_10 i1 r2 M ((i3).toNatClampNeg))
theorem ts_96_10 {r : fl_Q} (i1 i3 i4 : Int32) (r0 r2 : Nat) (u5 : Value) (M : fl_M) (J : fl_J) (q1 : (i4 < i3) → ((M r2 i4.toNatClampNeg) = (-1)) → fl_dn fB96 (10, [.ref r0, .int (i1 + 0), .ref r2, .int i3, .int (i4 + 1), .int (M r2 i4.toNatClampNeg)], [], M, J) r) (q2 : (i4 < i3) → (¬ ((M r2 i4.toNatClampNeg) = (-1))) → fl_dn fB96 (10, [.ref r0, .int (i1 + 1), .ref r2, .int i3, .int (i4 + 1), .int (M r2 i4.toNatClampNeg)], [], M, J) r) (q3 : (¬ (i4 < i3)) → fl_dn fB96 (42, [.ref r0, .int i1, .ref r2, .int i3, .int i4, u5], [], M, J) r) : fl_dn fB96 (10, [.ref r0, .int i1, .ref r2, .int i3, .int i4, u5], [], M, J) r :=
 fl_td (s' := (13, [.ref r0, .int i1, .ref r2, .int i3, .int i4, u5], [.int i3, .int i4], M, J)) (fl_n 2 rfl) <|
 fl_dnot (fl_ic (t := 42) rfl rfl) fl_nlt (fun h1 =>
  fl_td (s' := (26, [.ref r0, .int i1, .ref r2, .int i3, .int i4, .int (M r2 i4.toNatClampNeg)], [.int (-1), .int (M r2 i4.toNatClampNeg), .int i1], M, J)) (fl_n 7 rfl) <|
  fl_dnot (fl_ic (t := 33) rfl rfl) fl_cF (fun h2 =>
   fl_td (s' := (10, [.ref r0, .int (i1 + 0), .ref r2, .int i3, .int (i4 + 1), .int (M r2 i4.toNatClampNeg)], [], M, J)) (fl_n 6 rfl) <|
   (q1 h1 h2)) (fun h2 =>
   fl_td (s' := (10, [.ref r0, .int (i1 + 1), .ref r2, .int i3, .int (i4 + 1), .int (M r2 i4.toNatClampNeg)], [], M, J)) (fl_n 5 rfl) <|
   (q2 h1 h2))) (fun h1 =>
  (q3 h1))
theorem lp_96_10 {r : fl_Q} (i1 i3 : Int32) (r0 r2 : Nat) (u5 : Value) (M : fl_M) (J : fl_J) (hx : ∀ w4 w5 : Value, fl_dn fB96 (42, [.ref r0, .int (lr_96_10 i1 i3 r2 M), .ref r2, .int i3, w4, w5], [], M, J) r) : fl_dn fB96 (10, [.ref r0, .int i1, .ref r2, .int i3, .int 0, u5], [], M, J) r := by
  have hb := fi_bd i3
  have key : ∀ (n m : Nat) (w5 : Value), m + n = (i3).toNatClampNeg → fl_dn fB96 (10, [.ref r0, .int (lq_96_10 i1 r2 M m), .ref r2, .int i3, .int (Int32.ofNat m), w5], [], M, J) r := by
    intro n
    induction n with
    | zero =>
      intro m w5 hm
      have hm : m = (i3).toNatClampNeg := by omega
      have hn : ¬ ((Int32.ofNat m) < i3) := fun z => by have z := (fi_lt (by omega)).mp z; omega
      exact ts_96_10 (lq_96_10 i1 r2 M m) i3 (Int32.ofNat m) r0 r2 w5 M J (fun h1 h2 => absurd h1 hn) (fun h1 h2 => absurd h1 hn) (fun h1 => (by have e : lr_96_10 i1 i3 r2 M = lq_96_10 i1 r2 M m := (by show lq_96_10 i1 r2 M ((i3).toNatClampNeg) = _; rw [← hm]); rw [e] at hx; exact hx _ _))
    | succ n ih =>
      intro m w5 hm
      have hp : (Int32.ofNat m) < i3 := by exact (fi_lt (by omega)).mpr (by omega)
      refine ts_96_10 (lq_96_10 i1 r2 M m) i3 (Int32.ofNat m) r0 r2 w5 M J (fun h1 h2 => ?_) (fun h1 h2 => ?_) (fun h1 => absurd hp h1)
      · have e : lq_96_10 i1 r2 M (m + 1) = ((lq_96_10 i1 r2 M m) + 0) := by
          rw [lqs_96_10]
          unfold ls_96_10
          simp only [if_pos h2]
        have q := ih (m + 1) (.int (M r2 (Int32.ofNat m).toNatClampNeg)) (by omega)
        rw [e] at q
        first | (rw [fi_s]; exact q) | (rw [← fi_s] at q; exact q) | (simp only [fi_s] at q ⊢; exact q)
      · have e : lq_96_10 i1 r2 M (m + 1) = ((lq_96_10 i1 r2 M m) + 1) := by
          rw [lqs_96_10]
          unfold ls_96_10
          simp only [if_neg h2]
        have q := ih (m + 1) (.int (M r2 (Int32.ofNat m).toNatClampNeg)) (by omega)
        rw [e] at q
        first | (rw [fi_s]; exact q) | (rw [← fi_s] at q; exact q) | (simp only [fi_s] at q ⊢; exact q)
  exact key ((i3).toNatClampNeg) 0 u5 (Nat.zero_add _)
theorem cc_96 (M : fl_M) (J : fl_J) (a : Nat) : fl_C 96 [.ref a] M J (some (.int (lr_96_10 0 (Int32.ofNat (fl_len a)) a M)), M, J) :=
 fl_Co (B := fB96) rfl rfl <|
 fl_td (s' := (10, [.ref a, .int 0, .ref a, .int (Int32.ofNat (fl_len a)), .int 0, .null], [], M, J)) (fl_n 9 rfl) <|
 lp_96_10 0 (Int32.ofNat (fl_len a)) a a .null M J (fun u154 u155 =>
  fx_gen (p := fun (II156 : Int32) => fl_dn fB96 (42, [.ref a, .int II156, .ref a, .int (Int32.ofNat (fl_len a)), u154, u155], [], M, J) (some (.int (lr_96_10 0 (Int32.ofNat (fl_len a)) a M)), M, J)) (lr_96_10 0 (Int32.ofNat (fl_len a)) a M) (fun II156 eII156 =>
   fl_td (s' := (43, [.ref a, .int II156, .ref a, .int (Int32.ofNat (fl_len a)), u154, u155], [.int II156], M, J)) (fl_n 1 rfl) <|
   fl_rt rfl (fun _ => rfl) (by subst eII156; rfl)))
def fB97 : sm_P := (fun pc => sm_ch sm_t97 pc, sm_Kn 2 3 none, fun x => sm_lk sm_ca2 x, some .int)
-- MiceRegisters.howManyKept 4
def ls_97_4 (M : fl_M) (m : Nat) (q : Int32) : Int32 := (if (M (fl_ar 46 (Int32.ofNat m).toNatClampNeg) 0) = (-1) then (q + 0) else (q + 1))
def lq_97_4 (i1 : Int32) (M : fl_M) (m : Nat) : Int32 := fx_it (ls_97_4 M) m i1
theorem lqs_97_4 (i1 : Int32) (M : fl_M) (m : Nat) : lq_97_4 i1 M (m + 1) = (ls_97_4 M) m (lq_97_4 i1 M m) := by
  unfold lq_97_4
  exact fx_it_s _ _ _
def lr_97_4 (i1 : Int32) (M : fl_M) : Int32 := (lq_97_4 i1 M (3))
theorem ts_97_4 {r : fl_Q} (i1 i2 : Int32) (M : fl_M) (J : fl_J) (q1 : (i2 < 3) → ((M (fl_ar 46 i2.toNatClampNeg) 0) = (-1)) → fl_dn fB97 (4, [.ref 0, .int (i1 + 0), .int (i2 + 1)], [], M, J) r) (q2 : (i2 < 3) → (¬ ((M (fl_ar 46 i2.toNatClampNeg) 0) = (-1))) → fl_dn fB97 (4, [.ref 0, .int (i1 + 1), .int (i2 + 1)], [], M, J) r) (q3 : (¬ (i2 < 3)) → fl_dn fB97 (36, [.ref 0, .int i1, .int i2], [], M, J) r) : fl_dn fB97 (4, [.ref 0, .int i1, .int i2], [], M, J) r :=
 fl_td (s' := (6, [.ref 0, .int i1, .int i2], [.int 3, .int i2], M, J)) (fl_n 2 rfl) <|
 fl_dnot (fl_ic (t := 36) rfl rfl) fl_nlt (fun h1 =>
  fl_td (s' := (20, [.ref 0, .int i1, .int i2], [.int (-1), .int (M (fl_ar 46 i2.toNatClampNeg) 0), .int i1], M, J)) (fl_n 7 rfl) <|
  fl_dnot (fl_ic (t := 27) rfl rfl) fl_cF (fun h2 =>
   fl_td (s' := (4, [.ref 0, .int (i1 + 0), .int (i2 + 1)], [], M, J)) (fl_n 6 rfl) <|
   (q1 h1 h2)) (fun h2 =>
   fl_td (s' := (4, [.ref 0, .int (i1 + 1), .int (i2 + 1)], [], M, J)) (fl_n 5 rfl) <|
   (q2 h1 h2))) (fun h1 =>
  (q3 h1))
theorem lp_97_4 {r : fl_Q} (i1 : Int32) (M : fl_M) (J : fl_J) (hx : ∀ w2 : Value, fl_dn fB97 (36, [.ref 0, .int (lr_97_4 i1 M), w2], [], M, J) r) : fl_dn fB97 (4, [.ref 0, .int i1, .int 0], [], M, J) r := by
  have hb : (3 : Int32).toNatClampNeg = 3 := rfl
  have key : ∀ (n m : Nat), m + n = 3 → fl_dn fB97 (4, [.ref 0, .int (lq_97_4 i1 M m), .int (Int32.ofNat m)], [], M, J) r := by
    intro n
    induction n with
    | zero =>
      intro m hm
      have hm : m = 3 := by omega
      have hn : ¬ ((Int32.ofNat m) < 3) := fun z => by have z := (fi_lt (by omega)).mp z; omega
      exact ts_97_4 (lq_97_4 i1 M m) (Int32.ofNat m) M J (fun h1 h2 => absurd h1 hn) (fun h1 h2 => absurd h1 hn) (fun h1 => (by have e : lr_97_4 i1 M = lq_97_4 i1 M m := (by show lq_97_4 i1 M (3) = _; rw [← hm]); rw [e] at hx; exact hx _))
    | succ n ih =>
      intro m hm
      have hp : (Int32.ofNat m) < 3 := by exact (fi_lt (by omega)).mpr (by omega)
      refine ts_97_4 (lq_97_4 i1 M m) (Int32.ofNat m) M J (fun h1 h2 => ?_) (fun h1 h2 => ?_) (fun h1 => absurd hp h1)
      · have e : lq_97_4 i1 M (m + 1) = ((lq_97_4 i1 M m) + 0) := by
          rw [lqs_97_4]
          unfold ls_97_4
          simp only [if_pos h2]
        have q := ih (m + 1) (by omega)
        rw [e] at q
        first | (rw [fi_s]; exact q) | (rw [← fi_s] at q; exact q) | (simp only [fi_s] at q ⊢; exact q)
      · have e : lq_97_4 i1 M (m + 1) = ((lq_97_4 i1 M m) + 1) := by
          rw [lqs_97_4]
          unfold ls_97_4
          simp only [if_neg h2]
        have q := ih (m + 1) (by omega)
        rw [e] at q
        first | (rw [fi_s]; exact q) | (rw [← fi_s] at q; exact q) | (simp only [fi_s] at q ⊢; exact q)
  exact key (3) 0 (Nat.zero_add _)
theorem cc_97 (M : fl_M) (J : fl_J) : fl_C 97 [.ref 0] M J (some (.int (lr_97_4 0 M)), M, J) :=
 fl_Co (B := fB97) rfl rfl <|
 fl_td (s' := (4, [.ref 0, .int 0, .int 0], [], M, J)) (fl_n 4 rfl) <|
 lp_97_4 0 M J (fun u157 =>
  fx_gen (p := fun (II158 : Int32) => fl_dn fB97 (36, [.ref 0, .int II158, u157], [], M, J) (some (.int (lr_97_4 0 M)), M, J)) (lr_97_4 0 M) (fun II158 eII158 =>
   fl_td (s' := (37, [.ref 0, .int II158, u157], [.int II158], M, J)) (fl_n 1 rfl) <|
   fl_rt rfl (fun _ => rfl) (by subst eII158; rfl)))
def fB94 : sm_P := (fun pc => sm_ch sm_t94 pc, sm_Kn 2 2 none, fun x => sm_lk sm_ca2 x, some .int)
def v_94 (wh : Int32) (M : fl_M) : Int32 := (if wh = 0 then M 15 0 else (if wh = 1 then M 15 1 else (if wh = 2 then M 15 2 else (if wh = 3 then M 42 0 else (if wh = 4 then (lr_66_4 0 15 M) else (if wh = 5 then (lr_61_4 0 15 M) else (if wh = 6 then M 15 4 else (if wh = 7 then M 15 3 else (if wh = 8 then (lr_41_4 0 15 M) else (if wh = 9 then (lr_95_4 2 0 15 M) else (if wh = 10 then (lr_95_4 3 0 15 M) else (if wh = 11 then (lr_96_10 0 (Int32.ofNat (fl_len 1)) 1 M) else (if wh = 12 then (lr_96_10 0 (Int32.ofNat (fl_len 9)) 9 M) else (lr_97_4 0 M))))))))))))))
theorem cc_94 (M : fl_M) (J : fl_J) (wh : Int32) : fl_C 94 [.ref 0, .int wh] M J (some (.int (v_94 wh M)), M, J) :=
 fl_Co (B := fB94) rfl rfl <|
 fl_td (s' := (1, [.ref 0, .int wh], [.int wh], M, J)) (fl_n 1 rfl) <|
 fl_dc (c := wh = 0) (fun h1 =>
  fl_td (s' := (68, [.ref 0, .int wh], [], M, J)) (fl_sw h1 rfl) <|
  fl_td (s' := (75, [.ref 0, .int wh], [.int (M 15 0)], M, J)) (fl_n 3 rfl) <|
  fl_rt rfl (fun _ => rfl) (by unfold v_94; first | (simp only [if_pos h1]; done) | rfl)) (fun h1 =>
  fl_dc (c := wh = 1) (fun h2 =>
   fl_td (s' := (76, [.ref 0, .int wh], [], M, J)) (fl_sw h2 rfl) <|
   fl_td (s' := (83, [.ref 0, .int wh], [.int (M 15 1)], M, J)) (fl_n 3 rfl) <|
   fl_rt rfl (fun _ => rfl) (by unfold v_94; first | (simp only [if_neg h1, if_pos h2]; done) | rfl)) (fun h2 =>
   fl_dc (c := wh = 2) (fun h3 =>
    fl_td (s' := (84, [.ref 0, .int wh], [], M, J)) (fl_sw h3 rfl) <|
    fl_td (s' := (91, [.ref 0, .int wh], [.int (M 15 2)], M, J)) (fl_n 3 rfl) <|
    fl_rt rfl (fun _ => rfl) (by unfold v_94; first | (simp only [if_neg h1, if_neg h2, if_pos h3]; done) | rfl)) (fun h3 =>
    fl_dc (c := wh = 3) (fun h4 =>
     fl_td (s' := (92, [.ref 0, .int wh], [], M, J)) (fl_sw h4 rfl) <|
     fl_td (s' := (99, [.ref 0, .int wh], [.int (M 42 0)], M, J)) (fl_n 3 rfl) <|
     fl_rt rfl (fun _ => rfl) (by unfold v_94; first | (simp only [if_neg h1, if_neg h2, if_neg h3, if_pos h4]; done) | rfl)) (fun h4 =>
     fl_dc (c := wh = 4) (fun h5 =>
      fl_td (s' := (100, [.ref 0, .int wh], [], M, J)) (fl_sw h5 rfl) <|
      fl_td (s' := (104, [.ref 0, .int wh], [.ref 15], M, J)) (fl_n 2 rfl) <|
      fl_td (s' := (107, [.ref 0, .int wh], [.int (lr_66_4 0 15 M)], M, J)) (fl_cv (o := some (.int (lr_66_4 0 15 M))) rfl rfl rfl rfl (cc_66 M J 15) rfl) <|
      fx_gen (p := fun (II159 : Int32) => fl_dn fB94 (107, [.ref 0, .int wh], [.int II159], M, J) (some (.int (v_94 wh M)), M, J)) (lr_66_4 0 15 M) (fun II159 eII159 =>
       fl_rt rfl (fun _ => rfl) (by subst eII159; unfold v_94; first | (simp only [if_neg h1, if_neg h2, if_neg h3, if_neg h4, if_pos h5]; done) | rfl))) (fun h5 =>
      fl_dc (c := wh = 5) (fun h6 =>
       fl_td (s' := (108, [.ref 0, .int wh], [], M, J)) (fl_sw h6 rfl) <|
       fl_td (s' := (112, [.ref 0, .int wh], [.ref 15], M, J)) (fl_n 2 rfl) <|
       fl_td (s' := (115, [.ref 0, .int wh], [.int (lr_61_4 0 15 M)], M, J)) (fl_cv (o := some (.int (lr_61_4 0 15 M))) rfl rfl rfl rfl (cc_61 M J 15) rfl) <|
       fx_gen (p := fun (II160 : Int32) => fl_dn fB94 (115, [.ref 0, .int wh], [.int II160], M, J) (some (.int (v_94 wh M)), M, J)) (lr_61_4 0 15 M) (fun II160 eII160 =>
        fl_rt rfl (fun _ => rfl) (by subst eII160; unfold v_94; first | (simp only [if_neg h1, if_neg h2, if_neg h3, if_neg h4, if_neg h5, if_pos h6]; done) | rfl))) (fun h6 =>
       fl_dc (c := wh = 6) (fun h7 =>
        fl_td (s' := (116, [.ref 0, .int wh], [], M, J)) (fl_sw h7 rfl) <|
        fl_td (s' := (123, [.ref 0, .int wh], [.int (M 15 4)], M, J)) (fl_n 3 rfl) <|
        fl_rt rfl (fun _ => rfl) (by unfold v_94; first | (simp only [if_neg h1, if_neg h2, if_neg h3, if_neg h4, if_neg h5, if_neg h6, if_pos h7]; done) | rfl)) (fun h7 =>
        fl_dc (c := wh = 7) (fun h8 =>
         fl_td (s' := (124, [.ref 0, .int wh], [], M, J)) (fl_sw h8 rfl) <|
         fl_td (s' := (131, [.ref 0, .int wh], [.int (M 15 3)], M, J)) (fl_n 3 rfl) <|
         fl_rt rfl (fun _ => rfl) (by unfold v_94; first | (simp only [if_neg h1, if_neg h2, if_neg h3, if_neg h4, if_neg h5, if_neg h6, if_neg h7, if_pos h8]; done) | rfl)) (fun h8 =>
         fl_dc (c := wh = 8) (fun h9 =>
          fl_td (s' := (132, [.ref 0, .int wh], [], M, J)) (fl_sw h9 rfl) <|
          fl_td (s' := (136, [.ref 0, .int wh], [.ref 15], M, J)) (fl_n 2 rfl) <|
          fl_td (s' := (139, [.ref 0, .int wh], [.int (lr_41_4 0 15 M)], M, J)) (fl_cv (o := some (.int (lr_41_4 0 15 M))) rfl rfl rfl rfl (cc_41 M J 15) rfl) <|
          fx_gen (p := fun (II161 : Int32) => fl_dn fB94 (139, [.ref 0, .int wh], [.int II161], M, J) (some (.int (v_94 wh M)), M, J)) (lr_41_4 0 15 M) (fun II161 eII161 =>
           fl_rt rfl (fun _ => rfl) (by subst eII161; unfold v_94; first | (simp only [if_neg h1, if_neg h2, if_neg h3, if_neg h4, if_neg h5, if_neg h6, if_neg h7, if_neg h8, if_pos h9]; done) | rfl))) (fun h9 =>
          fl_dc (c := wh = 9) (fun h10 =>
           fl_td (s' := (140, [.ref 0, .int wh], [], M, J)) (fl_sw h10 rfl) <|
           fl_td (s' := (145, [.ref 0, .int wh], [.int 2, .ref 15], M, J)) (fl_n 3 rfl) <|
           fl_td (s' := (148, [.ref 0, .int wh], [.int (lr_95_4 2 0 15 M)], M, J)) (fl_cv (o := some (.int (lr_95_4 2 0 15 M))) rfl rfl rfl rfl (cc_95 M J 2 15) rfl) <|
           fx_gen (p := fun (II162 : Int32) => fl_dn fB94 (148, [.ref 0, .int wh], [.int II162], M, J) (some (.int (v_94 wh M)), M, J)) (lr_95_4 2 0 15 M) (fun II162 eII162 =>
            fl_rt rfl (fun _ => rfl) (by subst eII162; unfold v_94; first | (simp only [if_neg h1, if_neg h2, if_neg h3, if_neg h4, if_neg h5, if_neg h6, if_neg h7, if_neg h8, if_neg h9, if_pos h10]; done) | rfl))) (fun h10 =>
           fl_dc (c := wh = 10) (fun h11 =>
            fl_td (s' := (149, [.ref 0, .int wh], [], M, J)) (fl_sw h11 rfl) <|
            fl_td (s' := (154, [.ref 0, .int wh], [.int 3, .ref 15], M, J)) (fl_n 3 rfl) <|
            fl_td (s' := (157, [.ref 0, .int wh], [.int (lr_95_4 3 0 15 M)], M, J)) (fl_cv (o := some (.int (lr_95_4 3 0 15 M))) rfl rfl rfl rfl (cc_95 M J 3 15) rfl) <|
            fx_gen (p := fun (II163 : Int32) => fl_dn fB94 (157, [.ref 0, .int wh], [.int II163], M, J) (some (.int (v_94 wh M)), M, J)) (lr_95_4 3 0 15 M) (fun II163 eII163 =>
             fl_rt rfl (fun _ => rfl) (by subst eII163; unfold v_94; first | (simp only [if_neg h1, if_neg h2, if_neg h3, if_neg h4, if_neg h5, if_neg h6, if_neg h7, if_neg h8, if_neg h9, if_neg h10, if_pos h11]; done) | rfl))) (fun h11 =>
            fl_dc (c := wh = 11) (fun h12 =>
             fl_td (s' := (158, [.ref 0, .int wh], [], M, J)) (fl_sw h12 rfl) <|
             fl_td (s' := (162, [.ref 0, .int wh], [.ref 1], M, J)) (fl_n 2 rfl) <|
             fl_td (s' := (165, [.ref 0, .int wh], [.int (lr_96_10 0 (Int32.ofNat (fl_len 1)) 1 M)], M, J)) (fl_cs (o := some (.int (lr_96_10 0 (Int32.ofNat (fl_len 1)) 1 M))) rfl rfl rfl (cc_96 M J 1) rfl) <|
             fx_gen (p := fun (II164 : Int32) => fl_dn fB94 (165, [.ref 0, .int wh], [.int II164], M, J) (some (.int (v_94 wh M)), M, J)) (lr_96_10 0 (Int32.ofNat (fl_len 1)) 1 M) (fun II164 eII164 =>
              fl_rt rfl (fun _ => rfl) (by subst eII164; unfold v_94; first | (simp only [if_neg h1, if_neg h2, if_neg h3, if_neg h4, if_neg h5, if_neg h6, if_neg h7, if_neg h8, if_neg h9, if_neg h10, if_neg h11, if_pos h12]; done) | rfl))) (fun h12 =>
             fl_dc (c := wh = 12) (fun h13 =>
              fl_td (s' := (166, [.ref 0, .int wh], [], M, J)) (fl_sw h13 rfl) <|
              fl_td (s' := (170, [.ref 0, .int wh], [.ref 9], M, J)) (fl_n 2 rfl) <|
              fl_td (s' := (173, [.ref 0, .int wh], [.int (lr_96_10 0 (Int32.ofNat (fl_len 9)) 9 M)], M, J)) (fl_cs (o := some (.int (lr_96_10 0 (Int32.ofNat (fl_len 9)) 9 M))) rfl rfl rfl (cc_96 M J 9) rfl) <|
              fx_gen (p := fun (II165 : Int32) => fl_dn fB94 (173, [.ref 0, .int wh], [.int II165], M, J) (some (.int (v_94 wh M)), M, J)) (lr_96_10 0 (Int32.ofNat (fl_len 9)) 9 M) (fun II165 eII165 =>
               fl_rt rfl (fun _ => rfl) (by subst eII165; unfold v_94; first | (simp only [if_neg h1, if_neg h2, if_neg h3, if_neg h4, if_neg h5, if_neg h6, if_neg h7, if_neg h8, if_neg h9, if_neg h10, if_neg h11, if_neg h12, if_pos h13]; done) | rfl))) (fun h13 =>
              fl_td (s' := (174, [.ref 0, .int wh], [], M, J)) (fl_swd rfl rfl (by have e0 := fl_ne 0 rfl h1; have e1 := fl_ne 1 rfl h2; have e2 := fl_ne 2 rfl h3; have e3 := fl_ne 3 rfl h4; have e4 := fl_ne 4 rfl h5; have e5 := fl_ne 5 rfl h6; have e6 := fl_ne 6 rfl h7; have e7 := fl_ne 7 rfl h8; have e8 := fl_ne 8 rfl h9; have e9 := fl_ne 9 rfl h10; have e10 := fl_ne 10 rfl h11; have e11 := fl_ne 11 rfl h12; have e12 := fl_ne 12 rfl h13; omega)) <|
              fl_td (s' := (175, [.ref 0, .int wh], [.ref 0], M, J)) (fl_n 1 rfl) <|
              fl_td (s' := (178, [.ref 0, .int wh], [.int (lr_97_4 0 M)], M, J)) (fl_cv (o := some (.int (lr_97_4 0 M))) rfl rfl rfl rfl (cc_97 M J) rfl) <|
              fx_gen (p := fun (II166 : Int32) => fl_dn fB94 (178, [.ref 0, .int wh], [.int II166], M, J) (some (.int (v_94 wh M)), M, J)) (lr_97_4 0 M) (fun II166 eII166 =>
               fl_rt rfl (fun _ => rfl) (by subst eII166; unfold v_94; first | (simp only [if_neg h1, if_neg h2, if_neg h3, if_neg h4, if_neg h5, if_neg h6, if_neg h7, if_neg h8, if_neg h9, if_neg h10, if_neg h11, if_neg h12, if_neg h13]; done) | rfl)))))))))))))))
def fB93 : sm_P := (fun pc => sm_ch sm_t93 pc, sm_Kn 2 2 none, fun x => sm_lk sm_ca2 x, some .int)
def v_93 (wh : Int32) (M : fl_M) : Int32 := (if wh < 0 then (-1) else (if wh < 14 then v_94 wh M else (-1)))
theorem cc_93 (M : fl_M) (J : fl_J) (wh : Int32) : fl_C 93 [.ref 0, .int wh] M J (some (.int (v_93 wh M)), M, J) :=
 fl_Co (B := fB93) rfl rfl <|
 fl_td (s' := (1, [.ref 0, .int wh], [.int wh], M, J)) (fl_n 1 rfl) <|
 fl_dtwo (fl_if (t := 10) rfl rfl) fl_cT (fun h1 =>
  fl_td (s' := (11, [.ref 0, .int wh], [.int (-1)], M, J)) (fl_n 1 rfl) <|
  fl_rt rfl (fun _ => rfl) (by unfold v_93; first | (simp only [if_pos h1]; done) | rfl)) (fun h1 =>
  fl_td (s' := (7, [.ref 0, .int wh], [.int 14, .int wh], M, J)) (fl_n 2 rfl) <|
  fl_dtwo (fl_ic (t := 12) rfl rfl) fl_cT (fun h2 =>
   fl_td (s' := (14, [.ref 0, .int wh], [.int wh, .ref 0], M, J)) (fl_n 2 rfl) <|
   fl_td (s' := (17, [.ref 0, .int wh], [.int (v_94 wh M)], M, J)) (fl_cv (o := some (.int (v_94 wh M))) rfl rfl rfl rfl (cc_94 M J wh) rfl) <|
   fl_rt rfl (fun _ => rfl) (by unfold v_93; first | (simp only [if_neg h1, if_pos h2]; done) | rfl)) (fun h2 =>
   fl_td (s' := (11, [.ref 0, .int wh], [.int (-1)], M, J)) (fl_n 1 rfl) <|
   fl_rt rfl (fun _ => rfl) (by unfold v_93; first | (simp only [if_neg h1, if_neg h2]; done) | rfl)))
def fB99 : sm_P := (fun pc => sm_ch sm_t99 pc, sm_Kn 2 2 none, fun x => sm_lk sm_ca2 x, some .int)
def v_99 (f : Int32) (M : fl_M) : Int32 := (if f < 1 then (-1) else (if 5 < f then (-1) else M 80 f.toNatClampNeg))
theorem cc_99 (M : fl_M) (J : fl_J) (f : Int32) : fl_C 99 [.ref 0, .int f] M J (some (.int (v_99 f M)), M, J) :=
 fl_Co (B := fB99) rfl rfl <|
 fl_td (s' := (2, [.ref 0, .int f], [.int 1, .int f], M, J)) (fl_n 2 rfl) <|
 fl_dtwo (fl_ic (t := 10) rfl rfl) fl_cT (fun h1 =>
  fl_td (s' := (11, [.ref 0, .int f], [.int (-1)], M, J)) (fl_n 1 rfl) <|
  fl_rt rfl (fun _ => rfl) (by unfold v_99; first | (simp only [if_pos h1]; done) | rfl)) (fun h1 =>
  fl_td (s' := (7, [.ref 0, .int f], [.int 5, .int f], M, J)) (fl_n 2 rfl) <|
  fl_dnot (fl_ic (t := 12) rfl rfl) fl_nle (fun h2 =>
   fl_td (s' := (11, [.ref 0, .int f], [.int (-1)], M, J)) (fl_n 1 rfl) <|
   fl_rt rfl (fun _ => rfl) (by unfold v_99; first | (simp only [if_neg h1, if_pos h2]; done) | rfl)) (fun h2 =>
   fl_td (s' := (18, [.ref 0, .int f], [.int (M 80 f.toNatClampNeg)], M, J)) (fl_n 4 rfl) <|
   fl_rt rfl (fun _ => rfl) (by unfold v_99; first | (simp only [if_neg h1, if_neg h2]; done) | rfl)))
def fB90 : sm_P := (fun pc => sm_ch sm_t90 pc, sm_Kn 2 1 none, fun x => sm_lk sm_ca2 x, some .int)
theorem cc_90 (M : fl_M) (J : fl_J) : fl_C 90 [.ref 0] M J (some (.int (M 0 12)), M, J) :=
 fl_Co (B := fB90) rfl rfl <|
 fl_td (s' := (4, [.ref 0], [.int (M 0 12)], M, J)) (fl_n 2 rfl) <|
 fl_rt rfl (fun _ => rfl) rfl
def fB91 : sm_P := (fun pc => sm_ch sm_t91 pc, sm_Kn 2 1 none, fun x => sm_lk sm_ca2 x, some .long)
theorem cc_91 (M : fl_M) (J : fl_J) : fl_C 91 [.ref 0] M J (some (.long (J 0 13)), M, J) :=
 fl_Co (B := fB91) rfl rfl <|
 fl_td (s' := (4, [.ref 0], [.long (J 0 13)], M, J)) (fl_n 2 rfl) <|
 fl_rt rfl (fun _ => rfl) rfl
def fB92 : sm_P := (fun pc => sm_ch sm_t92 pc, sm_Kn 2 1 none, fun x => sm_lk sm_ca2 x, some .long)
theorem cc_92 (M : fl_M) (J : fl_J) : fl_C 92 [.ref 0] M J (some (.long (J 0 14)), M, J) :=
 fl_Co (B := fB92) rfl rfl <|
 fl_td (s' := (4, [.ref 0], [.long (J 0 14)], M, J)) (fl_n 2 rfl) <|
 fl_rt rfl (fun _ => rfl) rfl
def fB98 : sm_P := (fun pc => sm_ch sm_t98 pc, sm_Kn 2 1 none, fun x => sm_lk sm_ca2 x, some .int)
theorem cc_98 (M : fl_M) (J : fl_J) : fl_C 98 [.ref 0] M J (some (.int (M 0 11)), M, J) :=
 fl_Co (B := fB98) rfl rfl <|
 fl_td (s' := (4, [.ref 0], [.int (M 0 11)], M, J)) (fl_n 2 rfl) <|
 fl_rt rfl (fun _ => rfl) rfl
def fB101 : sm_P := (fun pc => sm_ch sm_t101 pc, sm_Kn 2 7 none, fun x => sm_lk sm_ca2 x, some .long)
-- MiceRegisters.digestOfRows 30
def ls_101_30 (i5 : Int32) (M : fl_M) (m : Nat) (q : Int64) : Int64 := ((31 * q) + ((M (fl_ar 2 i5.toNatClampNeg) (Int32.ofNat m).toNatClampNeg).toInt64))
def lq_101_30 (i5 : Int32) (l3 : Int64) (M : fl_M) (m : Nat) : Int64 := fx_it (ls_101_30 i5 M) m l3
theorem lqs_101_30 (i5 : Int32) (l3 : Int64) (M : fl_M) (m : Nat) : lq_101_30 i5 l3 M (m + 1) = (ls_101_30 i5 M) m (lq_101_30 i5 l3 M m) := by
  unfold lq_101_30
  exact fx_it_s _ _ _
def lr_101_30 (i5 : Int32) (l3 : Int64) (M : fl_M) : Int64 := (lq_101_30 i5 l3 M (((M 1 i5.toNatClampNeg)).toNatClampNeg))
theorem ts_101_30 {r : fl_Q} (i5 i6 : Int32) (l1 l3 : Int64) (M : fl_M) (J : fl_J) (q1 : (i6 < (M 1 i5.toNatClampNeg)) → fl_dn fB101 (30, [.ref 0, .long l1, .null, .long ((31 * l3) + ((M (fl_ar 2 i5.toNatClampNeg) i6.toNatClampNeg).toInt64)), .null, .int i5, .int (i6 + 1)], [], M, J) r) (q2 : (¬ (i6 < (M 1 i5.toNatClampNeg))) → fl_dn fB101 (66, [.ref 0, .long l1, .null, .long l3, .null, .int i5, .int i6], [], M, J) r) : fl_dn fB101 (30, [.ref 0, .long l1, .null, .long l3, .null, .int i5, .int i6], [], M, J) r :=
 fl_td (s' := (39, [.ref 0, .long l1, .null, .long l3, .null, .int i5, .int i6], [.int (M 1 i5.toNatClampNeg), .int i6], M, J)) (fl_n 5 rfl) <|
 fl_dnot (fl_ic (t := 66) rfl rfl) fl_nlt (fun h1 =>
  fl_td (s' := (30, [.ref 0, .long l1, .null, .long ((31 * l3) + ((M (fl_ar 2 i5.toNatClampNeg) i6.toNatClampNeg).toInt64)), .null, .int i5, .int (i6 + 1)], [], M, J)) (fl_n 14 rfl) <|
  (q1 h1)) (fun h1 =>
  (q2 h1))
theorem lp_101_30 {r : fl_Q} (i5 : Int32) (l1 l3 : Int64) (M : fl_M) (J : fl_J) (hx : ∀ w6 : Value, fl_dn fB101 (66, [.ref 0, .long l1, .null, .long (lr_101_30 i5 l3 M), .null, .int i5, w6], [], M, J) r) : fl_dn fB101 (30, [.ref 0, .long l1, .null, .long l3, .null, .int i5, .int 0], [], M, J) r := by
  have hb := fi_bd (M 1 i5.toNatClampNeg)
  have key : ∀ (n m : Nat), m + n = ((M 1 i5.toNatClampNeg)).toNatClampNeg → fl_dn fB101 (30, [.ref 0, .long l1, .null, .long (lq_101_30 i5 l3 M m), .null, .int i5, .int (Int32.ofNat m)], [], M, J) r := by
    intro n
    induction n with
    | zero =>
      intro m hm
      have hm : m = ((M 1 i5.toNatClampNeg)).toNatClampNeg := by omega
      have hn : ¬ ((Int32.ofNat m) < (M 1 i5.toNatClampNeg)) := fun z => by have z := (fi_lt (by omega)).mp z; omega
      exact ts_101_30 i5 (Int32.ofNat m) l1 (lq_101_30 i5 l3 M m) M J (fun h1 => absurd h1 hn) (fun h1 => (by have e : lr_101_30 i5 l3 M = lq_101_30 i5 l3 M m := (by show lq_101_30 i5 l3 M (((M 1 i5.toNatClampNeg)).toNatClampNeg) = _; rw [← hm]); rw [e] at hx; exact hx _))
    | succ n ih =>
      intro m hm
      have hp : (Int32.ofNat m) < (M 1 i5.toNatClampNeg) := by exact (fi_lt (by omega)).mpr (by omega)
      refine ts_101_30 i5 (Int32.ofNat m) l1 (lq_101_30 i5 l3 M m) M J (fun h1 => ?_) (fun h1 => absurd hp h1)
      · have e : lq_101_30 i5 l3 M (m + 1) = ((31 * (lq_101_30 i5 l3 M m)) + ((M (fl_ar 2 i5.toNatClampNeg) (Int32.ofNat m).toNatClampNeg).toInt64)) := by
          rw [lqs_101_30]
          unfold ls_101_30
          rfl
        have q := ih (m + 1) (by omega)
        rw [e] at q
        first | (rw [fi_s]; exact q) | (rw [← fi_s] at q; exact q) | (simp only [fi_s] at q ⊢; exact q)
  exact key (((M 1 i5.toNatClampNeg)).toNatClampNeg) 0 (Nat.zero_add _)
-- MiceRegisters.digestOfRows 5
def ls_101_5 (M : fl_M) (m : Nat) (q : Int64) : Int64 := (lr_101_30 (Int32.ofNat m) ((31 * q) + ((M 1 (Int32.ofNat m).toNatClampNeg).toInt64)) M)
def lq_101_5 (l3 : Int64) (M : fl_M) (m : Nat) : Int64 := fx_it (ls_101_5 M) m l3
theorem lqs_101_5 (l3 : Int64) (M : fl_M) (m : Nat) : lq_101_5 l3 M (m + 1) = (ls_101_5 M) m (lq_101_5 l3 M m) := by
  unfold lq_101_5
  exact fx_it_s _ _ _
def lr_101_5 (l3 : Int64) (M : fl_M) : Int64 := (lq_101_5 l3 M (6))
theorem ts_101_5 {r : fl_Q} (i5 : Int32) (l1 l3 : Int64) (u6 : Value) (M : fl_M) (J : fl_J) (q1 : (i5 < 6) → ∀ u167 : Value, fl_dn fB101 (5, [.ref 0, .long l1, .null, .long (lr_101_30 i5 ((31 * l3) + ((M 1 i5.toNatClampNeg).toInt64)) M), .null, .int (i5 + 1), u167], [], M, J) r) (q2 : (¬ (i5 < 6)) → fl_dn fB101 (72, [.ref 0, .long l1, .null, .long l3, .null, .int i5, u6], [], M, J) r) : fl_dn fB101 (5, [.ref 0, .long l1, .null, .long l3, .null, .int i5, u6], [], M, J) r :=
 fl_td (s' := (9, [.ref 0, .long l1, .null, .long l3, .null, .int i5, u6], [.int 6, .int i5], M, J)) (fl_n 2 rfl) <|
 fl_dnot (fl_ic (t := 72) rfl rfl) fl_nlt (fun h1 =>
  fl_td (s' := (30, [.ref 0, .long l1, .null, .long ((31 * l3) + ((M 1 i5.toNatClampNeg).toInt64)), .null, .int i5, .int 0], [], M, J)) (fl_n 12 rfl) <|
  lp_101_30 i5 l1 ((31 * l3) + ((M 1 i5.toNatClampNeg).toInt64)) M J (fun u167 =>
   fx_gen (p := fun (LL168 : Int64) => fl_dn fB101 (66, [.ref 0, .long l1, .null, .long LL168, .null, .int i5, u167], [], M, J) r) (lr_101_30 i5 ((31 * l3) + ((M 1 i5.toNatClampNeg).toInt64)) M) (fun LL168 eLL168 =>
    fl_td (s' := (5, [.ref 0, .long l1, .null, .long LL168, .null, .int (i5 + 1), u167], [], M, J)) (fl_n 2 rfl) <|
    (by subst eLL168; exact (q1 h1 u167))))) (fun h1 =>
  (q2 h1))
theorem lp_101_5 {r : fl_Q} (l1 l3 : Int64) (u6 : Value) (M : fl_M) (J : fl_J) (hx : ∀ w5 w6 : Value, fl_dn fB101 (72, [.ref 0, .long l1, .null, .long (lr_101_5 l3 M), .null, w5, w6], [], M, J) r) : fl_dn fB101 (5, [.ref 0, .long l1, .null, .long l3, .null, .int 0, u6], [], M, J) r := by
  have hb : (6 : Int32).toNatClampNeg = 6 := rfl
  have key : ∀ (n m : Nat) (w6 : Value), m + n = 6 → fl_dn fB101 (5, [.ref 0, .long l1, .null, .long (lq_101_5 l3 M m), .null, .int (Int32.ofNat m), w6], [], M, J) r := by
    intro n
    induction n with
    | zero =>
      intro m w6 hm
      have hm : m = 6 := by omega
      have hn : ¬ ((Int32.ofNat m) < 6) := fun z => by have z := (fi_lt (by omega)).mp z; omega
      exact ts_101_5 (Int32.ofNat m) l1 (lq_101_5 l3 M m) w6 M J (fun h1 u167 => absurd h1 hn) (fun h1 => (by have e : lr_101_5 l3 M = lq_101_5 l3 M m := (by show lq_101_5 l3 M (6) = _; rw [← hm]); rw [e] at hx; exact hx _ _))
    | succ n ih =>
      intro m w6 hm
      have hp : (Int32.ofNat m) < 6 := by exact (fi_lt (by omega)).mpr (by omega)
      refine ts_101_5 (Int32.ofNat m) l1 (lq_101_5 l3 M m) w6 M J (fun h1 u167 => ?_) (fun h1 => absurd hp h1)
      · have e : lq_101_5 l3 M (m + 1) = (lr_101_30 (Int32.ofNat m) ((31 * (lq_101_5 l3 M m)) + ((M 1 (Int32.ofNat m).toNatClampNeg).toInt64)) M) := by
          rw [lqs_101_5]
          unfold ls_101_5
          rfl
        have q := ih (m + 1) u167 (by omega)
        rw [e] at q
        first | (rw [fi_s]; exact q) | (rw [← fi_s] at q; exact q) | (simp only [fi_s] at q ⊢; exact q)
  exact key (6) 0 u6 (Nat.zero_add _)
theorem cc_101 (M : fl_M) (J : fl_J) (h : Int64) : fl_C 101 [.ref 0, .long h] M J (some (.long (lr_101_5 h M)), M, J) :=
 fl_Co (B := fB101) rfl rfl <|
 fl_td (s' := (5, [.ref 0, .long h, .null, .long h, .null, .int 0, .null], [], M, J)) (fl_n 4 rfl) <|
 lp_101_5 h h .null M J (fun u169 u170 =>
  fx_gen (p := fun (LL171 : Int64) => fl_dn fB101 (72, [.ref 0, .long h, .null, .long LL171, .null, u169, u170], [], M, J) (some (.long (lr_101_5 h M)), M, J)) (lr_101_5 h M) (fun LL171 eLL171 =>
   fl_td (s' := (73, [.ref 0, .long h, .null, .long LL171, .null, u169, u170], [.long LL171], M, J)) (fl_n 1 rfl) <|
   fl_rt rfl (fun _ => rfl) (by subst eLL171; rfl)))
def fB102 : sm_P := (fun pc => sm_ch sm_t102 pc, sm_Kn 2 7 none, fun x => sm_lk sm_ca2 x, some .long)
-- MiceRegisters.digestOfTexts 29
def ls_102_29 (i5 : Int32) (M : fl_M) (m : Nat) (q : Int64) : Int64 := ((31 * q) + ((M (fl_ar 10 i5.toNatClampNeg) (Int32.ofNat m).toNatClampNeg).toInt64))
def lq_102_29 (i5 : Int32) (l3 : Int64) (M : fl_M) (m : Nat) : Int64 := fx_it (ls_102_29 i5 M) m l3
theorem lqs_102_29 (i5 : Int32) (l3 : Int64) (M : fl_M) (m : Nat) : lq_102_29 i5 l3 M (m + 1) = (ls_102_29 i5 M) m (lq_102_29 i5 l3 M m) := by
  unfold lq_102_29
  exact fx_it_s _ _ _
def lr_102_29 (i5 : Int32) (l3 : Int64) (M : fl_M) : Int64 := (lq_102_29 i5 l3 M (((M 9 i5.toNatClampNeg)).toNatClampNeg))
theorem ts_102_29 {r : fl_Q} (i5 i6 : Int32) (l1 l3 : Int64) (M : fl_M) (J : fl_J) (q1 : (i6 < (M 9 i5.toNatClampNeg)) → fl_dn fB102 (29, [.ref 0, .long l1, .null, .long ((31 * l3) + ((M (fl_ar 10 i5.toNatClampNeg) i6.toNatClampNeg).toInt64)), .null, .int i5, .int (i6 + 1)], [], M, J) r) (q2 : (¬ (i6 < (M 9 i5.toNatClampNeg))) → fl_dn fB102 (65, [.ref 0, .long l1, .null, .long l3, .null, .int i5, .int i6], [], M, J) r) : fl_dn fB102 (29, [.ref 0, .long l1, .null, .long l3, .null, .int i5, .int i6], [], M, J) r :=
 fl_td (s' := (38, [.ref 0, .long l1, .null, .long l3, .null, .int i5, .int i6], [.int (M 9 i5.toNatClampNeg), .int i6], M, J)) (fl_n 5 rfl) <|
 fl_dnot (fl_ic (t := 65) rfl rfl) fl_nlt (fun h1 =>
  fl_td (s' := (29, [.ref 0, .long l1, .null, .long ((31 * l3) + ((M (fl_ar 10 i5.toNatClampNeg) i6.toNatClampNeg).toInt64)), .null, .int i5, .int (i6 + 1)], [], M, J)) (fl_n 14 rfl) <|
  (q1 h1)) (fun h1 =>
  (q2 h1))
theorem lp_102_29 {r : fl_Q} (i5 : Int32) (l1 l3 : Int64) (M : fl_M) (J : fl_J) (hx : ∀ w6 : Value, fl_dn fB102 (65, [.ref 0, .long l1, .null, .long (lr_102_29 i5 l3 M), .null, .int i5, w6], [], M, J) r) : fl_dn fB102 (29, [.ref 0, .long l1, .null, .long l3, .null, .int i5, .int 0], [], M, J) r := by
  have hb := fi_bd (M 9 i5.toNatClampNeg)
  have key : ∀ (n m : Nat), m + n = ((M 9 i5.toNatClampNeg)).toNatClampNeg → fl_dn fB102 (29, [.ref 0, .long l1, .null, .long (lq_102_29 i5 l3 M m), .null, .int i5, .int (Int32.ofNat m)], [], M, J) r := by
    intro n
    induction n with
    | zero =>
      intro m hm
      have hm : m = ((M 9 i5.toNatClampNeg)).toNatClampNeg := by omega
      have hn : ¬ ((Int32.ofNat m) < (M 9 i5.toNatClampNeg)) := fun z => by have z := (fi_lt (by omega)).mp z; omega
      exact ts_102_29 i5 (Int32.ofNat m) l1 (lq_102_29 i5 l3 M m) M J (fun h1 => absurd h1 hn) (fun h1 => (by have e : lr_102_29 i5 l3 M = lq_102_29 i5 l3 M m := (by show lq_102_29 i5 l3 M (((M 9 i5.toNatClampNeg)).toNatClampNeg) = _; rw [← hm]); rw [e] at hx; exact hx _))
    | succ n ih =>
      intro m hm
      have hp : (Int32.ofNat m) < (M 9 i5.toNatClampNeg) := by exact (fi_lt (by omega)).mpr (by omega)
      refine ts_102_29 i5 (Int32.ofNat m) l1 (lq_102_29 i5 l3 M m) M J (fun h1 => ?_) (fun h1 => absurd hp h1)
      · have e : lq_102_29 i5 l3 M (m + 1) = ((31 * (lq_102_29 i5 l3 M m)) + ((M (fl_ar 10 i5.toNatClampNeg) (Int32.ofNat m).toNatClampNeg).toInt64)) := by
          rw [lqs_102_29]
          unfold ls_102_29
          rfl
        have q := ih (m + 1) (by omega)
        rw [e] at q
        first | (rw [fi_s]; exact q) | (rw [← fi_s] at q; exact q) | (simp only [fi_s] at q ⊢; exact q)
  exact key (((M 9 i5.toNatClampNeg)).toNatClampNeg) 0 (Nat.zero_add _)
-- MiceRegisters.digestOfTexts 5
def ls_102_5 (M : fl_M) (m : Nat) (q : Int64) : Int64 := (lr_102_29 (Int32.ofNat m) ((31 * q) + ((M 9 (Int32.ofNat m).toNatClampNeg).toInt64)) M)
def lq_102_5 (l3 : Int64) (M : fl_M) (m : Nat) : Int64 := fx_it (ls_102_5 M) m l3
theorem lqs_102_5 (l3 : Int64) (M : fl_M) (m : Nat) : lq_102_5 l3 M (m + 1) = (ls_102_5 M) m (lq_102_5 l3 M m) := by
  unfold lq_102_5
  exact fx_it_s _ _ _
def lr_102_5 (l3 : Int64) (M : fl_M) : Int64 := (lq_102_5 l3 M (4))
theorem ts_102_5 {r : fl_Q} (i5 : Int32) (l1 l3 : Int64) (u6 : Value) (M : fl_M) (J : fl_J) (q1 : (i5 < 4) → ∀ u172 : Value, fl_dn fB102 (5, [.ref 0, .long l1, .null, .long (lr_102_29 i5 ((31 * l3) + ((M 9 i5.toNatClampNeg).toInt64)) M), .null, .int (i5 + 1), u172], [], M, J) r) (q2 : (¬ (i5 < 4)) → fl_dn fB102 (71, [.ref 0, .long l1, .null, .long l3, .null, .int i5, u6], [], M, J) r) : fl_dn fB102 (5, [.ref 0, .long l1, .null, .long l3, .null, .int i5, u6], [], M, J) r :=
 fl_td (s' := (8, [.ref 0, .long l1, .null, .long l3, .null, .int i5, u6], [.int 4, .int i5], M, J)) (fl_n 2 rfl) <|
 fl_dnot (fl_ic (t := 71) rfl rfl) fl_nlt (fun h1 =>
  fl_td (s' := (29, [.ref 0, .long l1, .null, .long ((31 * l3) + ((M 9 i5.toNatClampNeg).toInt64)), .null, .int i5, .int 0], [], M, J)) (fl_n 12 rfl) <|
  lp_102_29 i5 l1 ((31 * l3) + ((M 9 i5.toNatClampNeg).toInt64)) M J (fun u172 =>
   fx_gen (p := fun (LL173 : Int64) => fl_dn fB102 (65, [.ref 0, .long l1, .null, .long LL173, .null, .int i5, u172], [], M, J) r) (lr_102_29 i5 ((31 * l3) + ((M 9 i5.toNatClampNeg).toInt64)) M) (fun LL173 eLL173 =>
    fl_td (s' := (5, [.ref 0, .long l1, .null, .long LL173, .null, .int (i5 + 1), u172], [], M, J)) (fl_n 2 rfl) <|
    (by subst eLL173; exact (q1 h1 u172))))) (fun h1 =>
  (q2 h1))
theorem lp_102_5 {r : fl_Q} (l1 l3 : Int64) (u6 : Value) (M : fl_M) (J : fl_J) (hx : ∀ w5 w6 : Value, fl_dn fB102 (71, [.ref 0, .long l1, .null, .long (lr_102_5 l3 M), .null, w5, w6], [], M, J) r) : fl_dn fB102 (5, [.ref 0, .long l1, .null, .long l3, .null, .int 0, u6], [], M, J) r := by
  have hb : (4 : Int32).toNatClampNeg = 4 := rfl
  have key : ∀ (n m : Nat) (w6 : Value), m + n = 4 → fl_dn fB102 (5, [.ref 0, .long l1, .null, .long (lq_102_5 l3 M m), .null, .int (Int32.ofNat m), w6], [], M, J) r := by
    intro n
    induction n with
    | zero =>
      intro m w6 hm
      have hm : m = 4 := by omega
      have hn : ¬ ((Int32.ofNat m) < 4) := fun z => by have z := (fi_lt (by omega)).mp z; omega
      exact ts_102_5 (Int32.ofNat m) l1 (lq_102_5 l3 M m) w6 M J (fun h1 u172 => absurd h1 hn) (fun h1 => (by have e : lr_102_5 l3 M = lq_102_5 l3 M m := (by show lq_102_5 l3 M (4) = _; rw [← hm]); rw [e] at hx; exact hx _ _))
    | succ n ih =>
      intro m w6 hm
      have hp : (Int32.ofNat m) < 4 := by exact (fi_lt (by omega)).mpr (by omega)
      refine ts_102_5 (Int32.ofNat m) l1 (lq_102_5 l3 M m) w6 M J (fun h1 u172 => ?_) (fun h1 => absurd hp h1)
      · have e : lq_102_5 l3 M (m + 1) = (lr_102_29 (Int32.ofNat m) ((31 * (lq_102_5 l3 M m)) + ((M 9 (Int32.ofNat m).toNatClampNeg).toInt64)) M) := by
          rw [lqs_102_5]
          unfold ls_102_5
          rfl
        have q := ih (m + 1) u172 (by omega)
        rw [e] at q
        first | (rw [fi_s]; exact q) | (rw [← fi_s] at q; exact q) | (simp only [fi_s] at q ⊢; exact q)
  exact key (4) 0 u6 (Nat.zero_add _)
theorem cc_102 (M : fl_M) (J : fl_J) (h : Int64) : fl_C 102 [.ref 0, .long h] M J (some (.long (lr_102_5 h M)), M, J) :=
 fl_Co (B := fB102) rfl rfl <|
 fl_td (s' := (5, [.ref 0, .long h, .null, .long h, .null, .int 0, .null], [], M, J)) (fl_n 4 rfl) <|
 lp_102_5 h h .null M J (fun u174 u175 =>
  fx_gen (p := fun (LL176 : Int64) => fl_dn fB102 (71, [.ref 0, .long h, .null, .long LL176, .null, u174, u175], [], M, J) (some (.long (lr_102_5 h M)), M, J)) (lr_102_5 h M) (fun LL176 eLL176 =>
   fl_td (s' := (72, [.ref 0, .long h, .null, .long LL176, .null, u174, u175], [.long LL176], M, J)) (fl_n 1 rfl) <|
   fl_rt rfl (fun _ => rfl) (by subst eLL176; rfl)))
def fB100 : sm_P := (fun pc => sm_ch sm_t100 pc, sm_Kn 2 5 none, fun x => sm_lk sm_ca2 x, some .long)
-- MiceRegisters.digest 6
def ls_100_6 (M : fl_M) (m : Nat) (q : Int64) : Int64 := ((31 * q) + ((v_94 (Int32.ofNat m) M).toInt64))
def lq_100_6 (l1 : Int64) (M : fl_M) (m : Nat) : Int64 := fx_it (ls_100_6 M) m l1
theorem lqs_100_6 (l1 : Int64) (M : fl_M) (m : Nat) : lq_100_6 l1 M (m + 1) = (ls_100_6 M) m (lq_100_6 l1 M m) := by
  unfold lq_100_6
  exact fx_it_s _ _ _
def lr_100_6 (l1 : Int64) (M : fl_M) : Int64 := (lq_100_6 l1 M (14))
theorem ts_100_6 {r : fl_Q} (i3 : Int32) (l1 : Int64) (u4 : Value) (M : fl_M) (J : fl_J) (q1 : (i3 < 14) → fl_dn fB100 (6, [.ref 0, .long ((31 * l1) + ((v_94 i3 M).toInt64)), .null, .int (i3 + 1), u4], [], M, J) r) (q2 : (¬ (i3 < 14)) → fl_dn fB100 (31, [.ref 0, .long l1, .null, .int i3, u4], [], M, J) r) : fl_dn fB100 (6, [.ref 0, .long l1, .null, .int i3, u4], [], M, J) r :=
 fl_td (s' := (9, [.ref 0, .long l1, .null, .int i3, u4], [.int 14, .int i3], M, J)) (fl_n 2 rfl) <|
 fl_dnot (fl_ic (t := 31) rfl rfl) fl_nlt (fun h1 =>
  fl_td (s' := (19, [.ref 0, .long l1, .null, .int i3, u4], [.int i3, .ref 0, .long (31 * l1)], M, J)) (fl_n 5 rfl) <|
  fl_td (s' := (22, [.ref 0, .long l1, .null, .int i3, u4], [.int (v_94 i3 M), .long (31 * l1)], M, J)) (fl_cv (o := some (.int (v_94 i3 M))) rfl rfl rfl rfl (cc_94 M J i3) rfl) <|
  fl_td (s' := (6, [.ref 0, .long ((31 * l1) + ((v_94 i3 M).toInt64)), .null, .int (i3 + 1), u4], [], M, J)) (fl_n 5 rfl) <|
  (q1 h1)) (fun h1 =>
  (q2 h1))
theorem lp_100_6 {r : fl_Q} (l1 : Int64) (u4 : Value) (M : fl_M) (J : fl_J) (hx : ∀ w3 : Value, fl_dn fB100 (31, [.ref 0, .long (lr_100_6 l1 M), .null, w3, u4], [], M, J) r) : fl_dn fB100 (6, [.ref 0, .long l1, .null, .int 0, u4], [], M, J) r := by
  have hb : (14 : Int32).toNatClampNeg = 14 := rfl
  have key : ∀ (n m : Nat), m + n = 14 → fl_dn fB100 (6, [.ref 0, .long (lq_100_6 l1 M m), .null, .int (Int32.ofNat m), u4], [], M, J) r := by
    intro n
    induction n with
    | zero =>
      intro m hm
      have hm : m = 14 := by omega
      have hn : ¬ ((Int32.ofNat m) < 14) := fun z => by have z := (fi_lt (by omega)).mp z; omega
      exact ts_100_6 (Int32.ofNat m) (lq_100_6 l1 M m) u4 M J (fun h1 => absurd h1 hn) (fun h1 => (by have e : lr_100_6 l1 M = lq_100_6 l1 M m := (by show lq_100_6 l1 M (14) = _; rw [← hm]); rw [e] at hx; exact hx _))
    | succ n ih =>
      intro m hm
      have hp : (Int32.ofNat m) < 14 := by exact (fi_lt (by omega)).mpr (by omega)
      refine ts_100_6 (Int32.ofNat m) (lq_100_6 l1 M m) u4 M J (fun h1 => ?_) (fun h1 => absurd hp h1)
      · have e : lq_100_6 l1 M (m + 1) = ((31 * (lq_100_6 l1 M m)) + ((v_94 (Int32.ofNat m) M).toInt64)) := by
          rw [lqs_100_6]
          unfold ls_100_6
          rfl
        have q := ih (m + 1) (by omega)
        rw [e] at q
        first | (rw [fi_s]; exact q) | (rw [← fi_s] at q; exact q) | (simp only [fi_s] at q ⊢; exact q)
  exact key (14) 0 (Nat.zero_add _)
-- MiceRegisters.digest 47
def ls_100_47 (i3 : Int32) (M : fl_M) (m : Nat) (q : Int64) : Int64 := ((31 * q) + ((v_26 i3 (Int32.ofNat m) M).toInt64))
def lq_100_47 (i3 : Int32) (l1 : Int64) (M : fl_M) (m : Nat) : Int64 := fx_it (ls_100_47 i3 M) m l1
theorem lqs_100_47 (i3 : Int32) (l1 : Int64) (M : fl_M) (m : Nat) : lq_100_47 i3 l1 M (m + 1) = (ls_100_47 i3 M) m (lq_100_47 i3 l1 M m) := by
  unfold lq_100_47
  exact fx_it_s _ _ _
def lr_100_47 (i3 : Int32) (l1 : Int64) (M : fl_M) : Int64 := (lq_100_47 i3 l1 M (6))
theorem ts_100_47 {r : fl_Q} (i3 i4 : Int32) (l1 : Int64) (M : fl_M) (J : fl_J) (q1 : (i4 < 6) → fl_dn fB100 (47, [.ref 0, .long ((31 * l1) + ((v_26 i3 i4 M).toInt64)), .null, .int i3, .int (i4 + 1)], [], M, J) r) (q2 : (¬ (i4 < 6)) → fl_dn fB100 (75, [.ref 0, .long l1, .null, .int i3, .int i4], [], M, J) r) : fl_dn fB100 (47, [.ref 0, .long l1, .null, .int i3, .int i4], [], M, J) r :=
 fl_td (s' := (51, [.ref 0, .long l1, .null, .int i3, .int i4], [.int 6, .int i4], M, J)) (fl_n 2 rfl) <|
 fl_dnot (fl_ic (t := 75) rfl rfl) fl_nlt (fun h1 =>
  fl_td (s' := (63, [.ref 0, .long l1, .null, .int i3, .int i4], [.int i4, .int i3, .ref 0, .long (31 * l1)], M, J)) (fl_n 6 rfl) <|
  fl_td (s' := (66, [.ref 0, .long l1, .null, .int i3, .int i4], [.int (v_26 i3 i4 M), .long (31 * l1)], M, J)) (fl_cv (o := some (.int (v_26 i3 i4 M))) rfl rfl rfl rfl (cc_26 M J i3 i4) rfl) <|
  fl_td (s' := (47, [.ref 0, .long ((31 * l1) + ((v_26 i3 i4 M).toInt64)), .null, .int i3, .int (i4 + 1)], [], M, J)) (fl_n 5 rfl) <|
  (q1 h1)) (fun h1 =>
  (q2 h1))
theorem lp_100_47 {r : fl_Q} (i3 : Int32) (l1 : Int64) (M : fl_M) (J : fl_J) (hx : ∀ w4 : Value, fl_dn fB100 (75, [.ref 0, .long (lr_100_47 i3 l1 M), .null, .int i3, w4], [], M, J) r) : fl_dn fB100 (47, [.ref 0, .long l1, .null, .int i3, .int 0], [], M, J) r := by
  have hb : (6 : Int32).toNatClampNeg = 6 := rfl
  have key : ∀ (n m : Nat), m + n = 6 → fl_dn fB100 (47, [.ref 0, .long (lq_100_47 i3 l1 M m), .null, .int i3, .int (Int32.ofNat m)], [], M, J) r := by
    intro n
    induction n with
    | zero =>
      intro m hm
      have hm : m = 6 := by omega
      have hn : ¬ ((Int32.ofNat m) < 6) := fun z => by have z := (fi_lt (by omega)).mp z; omega
      exact ts_100_47 i3 (Int32.ofNat m) (lq_100_47 i3 l1 M m) M J (fun h1 => absurd h1 hn) (fun h1 => (by have e : lr_100_47 i3 l1 M = lq_100_47 i3 l1 M m := (by show lq_100_47 i3 l1 M (6) = _; rw [← hm]); rw [e] at hx; exact hx _))
    | succ n ih =>
      intro m hm
      have hp : (Int32.ofNat m) < 6 := by exact (fi_lt (by omega)).mpr (by omega)
      refine ts_100_47 i3 (Int32.ofNat m) (lq_100_47 i3 l1 M m) M J (fun h1 => ?_) (fun h1 => absurd hp h1)
      · have e : lq_100_47 i3 l1 M (m + 1) = ((31 * (lq_100_47 i3 l1 M m)) + ((v_26 i3 (Int32.ofNat m) M).toInt64)) := by
          rw [lqs_100_47]
          unfold ls_100_47
          rfl
        have q := ih (m + 1) (by omega)
        rw [e] at q
        first | (rw [fi_s]; exact q) | (rw [← fi_s] at q; exact q) | (simp only [fi_s] at q ⊢; exact q)
  exact key (6) 0 (Nat.zero_add _)
-- MiceRegisters.digest 33
def ls_100_33 (M : fl_M) (m : Nat) (q : Int64) : Int64 := (lr_100_47 (Int32.ofNat m) q M)
def lq_100_33 (l1 : Int64) (M : fl_M) (m : Nat) : Int64 := fx_it (ls_100_33 M) m l1
theorem lqs_100_33 (l1 : Int64) (M : fl_M) (m : Nat) : lq_100_33 l1 M (m + 1) = (ls_100_33 M) m (lq_100_33 l1 M m) := by
  unfold lq_100_33
  exact fx_it_s _ _ _
def lr_100_33 (l1 : Int64) (M : fl_M) : Int64 := (lq_100_33 l1 M (((M 15 0)).toNatClampNeg))
theorem ts_100_33 {r : fl_Q} (i3 : Int32) (l1 : Int64) (u4 : Value) (M : fl_M) (J : fl_J) (q1 : (i3 < (M 15 0)) → ∀ u179 : Value, fl_dn fB100 (33, [.ref 0, .long (lr_100_47 i3 l1 M), .null, .int (i3 + 1), u179], [], M, J) r) (q2 : (¬ (i3 < (M 15 0))) → fl_dn fB100 (81, [.ref 0, .long l1, .null, .int i3, u4], [], M, J) r) : fl_dn fB100 (33, [.ref 0, .long l1, .null, .int i3, u4], [], M, J) r :=
 fl_td (s' := (41, [.ref 0, .long l1, .null, .int i3, u4], [.int (M 15 0), .int i3], M, J)) (fl_n 4 rfl) <|
 fl_dnot (fl_ic (t := 81) rfl rfl) fl_nlt (fun h1 =>
  fl_td (s' := (47, [.ref 0, .long l1, .null, .int i3, .int 0], [], M, J)) (fl_n 2 rfl) <|
  lp_100_47 i3 l1 M J (fun u179 =>
   fx_gen (p := fun (LL180 : Int64) => fl_dn fB100 (75, [.ref 0, .long LL180, .null, .int i3, u179], [], M, J) r) (lr_100_47 i3 l1 M) (fun LL180 eLL180 =>
    fl_td (s' := (33, [.ref 0, .long LL180, .null, .int (i3 + 1), u179], [], M, J)) (fl_n 2 rfl) <|
    (by subst eLL180; exact (q1 h1 u179))))) (fun h1 =>
  (q2 h1))
theorem lp_100_33 {r : fl_Q} (l1 : Int64) (u4 : Value) (M : fl_M) (J : fl_J) (hx : ∀ w3 w4 : Value, fl_dn fB100 (81, [.ref 0, .long (lr_100_33 l1 M), .null, w3, w4], [], M, J) r) : fl_dn fB100 (33, [.ref 0, .long l1, .null, .int 0, u4], [], M, J) r := by
  have hb := fi_bd (M 15 0)
  have key : ∀ (n m : Nat) (w4 : Value), m + n = ((M 15 0)).toNatClampNeg → fl_dn fB100 (33, [.ref 0, .long (lq_100_33 l1 M m), .null, .int (Int32.ofNat m), w4], [], M, J) r := by
    intro n
    induction n with
    | zero =>
      intro m w4 hm
      have hm : m = ((M 15 0)).toNatClampNeg := by omega
      have hn : ¬ ((Int32.ofNat m) < (M 15 0)) := fun z => by have z := (fi_lt (by omega)).mp z; omega
      exact ts_100_33 (Int32.ofNat m) (lq_100_33 l1 M m) w4 M J (fun h1 u179 => absurd h1 hn) (fun h1 => (by have e : lr_100_33 l1 M = lq_100_33 l1 M m := (by show lq_100_33 l1 M (((M 15 0)).toNatClampNeg) = _; rw [← hm]); rw [e] at hx; exact hx _ _))
    | succ n ih =>
      intro m w4 hm
      have hp : (Int32.ofNat m) < (M 15 0) := by exact (fi_lt (by omega)).mpr (by omega)
      refine ts_100_33 (Int32.ofNat m) (lq_100_33 l1 M m) w4 M J (fun h1 u179 => ?_) (fun h1 => absurd hp h1)
      · have e : lq_100_33 l1 M (m + 1) = (lr_100_47 (Int32.ofNat m) (lq_100_33 l1 M m) M) := by
          rw [lqs_100_33]
          unfold ls_100_33
          rfl
        have q := ih (m + 1) u179 (by omega)
        rw [e] at q
        first | (rw [fi_s]; exact q) | (rw [← fi_s] at q; exact q) | (simp only [fi_s] at q ⊢; exact q)
  exact key (((M 15 0)).toNatClampNeg) 0 u4 (Nat.zero_add _)
-- MiceRegisters.digest 97
def ls_100_97 (i3 : Int32) (M : fl_M) (m : Nat) (q : Int64) : Int64 := ((31 * q) + ((v_34 i3 (Int32.ofNat m) M).toInt64))
def lq_100_97 (i3 : Int32) (l1 : Int64) (M : fl_M) (m : Nat) : Int64 := fx_it (ls_100_97 i3 M) m l1
theorem lqs_100_97 (i3 : Int32) (l1 : Int64) (M : fl_M) (m : Nat) : lq_100_97 i3 l1 M (m + 1) = (ls_100_97 i3 M) m (lq_100_97 i3 l1 M m) := by
  unfold lq_100_97
  exact fx_it_s _ _ _
def lr_100_97 (i3 : Int32) (l1 : Int64) (M : fl_M) : Int64 := (lq_100_97 i3 l1 M (5))
theorem ts_100_97 {r : fl_Q} (i3 i4 : Int32) (l1 : Int64) (M : fl_M) (J : fl_J) (q1 : (i4 < 5) → fl_dn fB100 (97, [.ref 0, .long ((31 * l1) + ((v_34 i3 i4 M).toInt64)), .null, .int i3, .int (i4 + 1)], [], M, J) r) (q2 : (¬ (i4 < 5)) → fl_dn fB100 (124, [.ref 0, .long l1, .null, .int i3, .int i4], [], M, J) r) : fl_dn fB100 (97, [.ref 0, .long l1, .null, .int i3, .int i4], [], M, J) r :=
 fl_td (s' := (100, [.ref 0, .long l1, .null, .int i3, .int i4], [.int 5, .int i4], M, J)) (fl_n 2 rfl) <|
 fl_dnot (fl_ic (t := 124) rfl rfl) fl_nlt (fun h1 =>
  fl_td (s' := (112, [.ref 0, .long l1, .null, .int i3, .int i4], [.int i4, .int i3, .ref 0, .long (31 * l1)], M, J)) (fl_n 6 rfl) <|
  fl_td (s' := (115, [.ref 0, .long l1, .null, .int i3, .int i4], [.int (v_34 i3 i4 M), .long (31 * l1)], M, J)) (fl_cv (o := some (.int (v_34 i3 i4 M))) rfl rfl rfl rfl (cc_34 M J i3 i4) rfl) <|
  fl_td (s' := (97, [.ref 0, .long ((31 * l1) + ((v_34 i3 i4 M).toInt64)), .null, .int i3, .int (i4 + 1)], [], M, J)) (fl_n 5 rfl) <|
  (q1 h1)) (fun h1 =>
  (q2 h1))
theorem lp_100_97 {r : fl_Q} (i3 : Int32) (l1 : Int64) (M : fl_M) (J : fl_J) (hx : ∀ w4 : Value, fl_dn fB100 (124, [.ref 0, .long (lr_100_97 i3 l1 M), .null, .int i3, w4], [], M, J) r) : fl_dn fB100 (97, [.ref 0, .long l1, .null, .int i3, .int 0], [], M, J) r := by
  have hb : (5 : Int32).toNatClampNeg = 5 := rfl
  have key : ∀ (n m : Nat), m + n = 5 → fl_dn fB100 (97, [.ref 0, .long (lq_100_97 i3 l1 M m), .null, .int i3, .int (Int32.ofNat m)], [], M, J) r := by
    intro n
    induction n with
    | zero =>
      intro m hm
      have hm : m = 5 := by omega
      have hn : ¬ ((Int32.ofNat m) < 5) := fun z => by have z := (fi_lt (by omega)).mp z; omega
      exact ts_100_97 i3 (Int32.ofNat m) (lq_100_97 i3 l1 M m) M J (fun h1 => absurd h1 hn) (fun h1 => (by have e : lr_100_97 i3 l1 M = lq_100_97 i3 l1 M m := (by show lq_100_97 i3 l1 M (5) = _; rw [← hm]); rw [e] at hx; exact hx _))
    | succ n ih =>
      intro m hm
      have hp : (Int32.ofNat m) < 5 := by exact (fi_lt (by omega)).mpr (by omega)
      refine ts_100_97 i3 (Int32.ofNat m) (lq_100_97 i3 l1 M m) M J (fun h1 => ?_) (fun h1 => absurd hp h1)
      · have e : lq_100_97 i3 l1 M (m + 1) = ((31 * (lq_100_97 i3 l1 M m)) + ((v_34 i3 (Int32.ofNat m) M).toInt64)) := by
          rw [lqs_100_97]
          unfold ls_100_97
          rfl
        have q := ih (m + 1) (by omega)
        rw [e] at q
        first | (rw [fi_s]; exact q) | (rw [← fi_s] at q; exact q) | (simp only [fi_s] at q ⊢; exact q)
  exact key (5) 0 (Nat.zero_add _)
-- MiceRegisters.digest 83
def ls_100_83 (M : fl_M) (m : Nat) (q : Int64) : Int64 := (lr_100_97 (Int32.ofNat m) q M)
def lq_100_83 (l1 : Int64) (M : fl_M) (m : Nat) : Int64 := fx_it (ls_100_83 M) m l1
theorem lqs_100_83 (l1 : Int64) (M : fl_M) (m : Nat) : lq_100_83 l1 M (m + 1) = (ls_100_83 M) m (lq_100_83 l1 M m) := by
  unfold lq_100_83
  exact fx_it_s _ _ _
def lr_100_83 (l1 : Int64) (M : fl_M) : Int64 := (lq_100_83 l1 M (((M 15 1)).toNatClampNeg))
theorem ts_100_83 {r : fl_Q} (i3 : Int32) (l1 : Int64) (u4 : Value) (M : fl_M) (J : fl_J) (q1 : (i3 < (M 15 1)) → ∀ u184 : Value, fl_dn fB100 (83, [.ref 0, .long (lr_100_97 i3 l1 M), .null, .int (i3 + 1), u184], [], M, J) r) (q2 : (¬ (i3 < (M 15 1))) → fl_dn fB100 (130, [.ref 0, .long l1, .null, .int i3, u4], [], M, J) r) : fl_dn fB100 (83, [.ref 0, .long l1, .null, .int i3, u4], [], M, J) r :=
 fl_td (s' := (91, [.ref 0, .long l1, .null, .int i3, u4], [.int (M 15 1), .int i3], M, J)) (fl_n 4 rfl) <|
 fl_dnot (fl_ic (t := 130) rfl rfl) fl_nlt (fun h1 =>
  fl_td (s' := (97, [.ref 0, .long l1, .null, .int i3, .int 0], [], M, J)) (fl_n 2 rfl) <|
  lp_100_97 i3 l1 M J (fun u184 =>
   fx_gen (p := fun (LL185 : Int64) => fl_dn fB100 (124, [.ref 0, .long LL185, .null, .int i3, u184], [], M, J) r) (lr_100_97 i3 l1 M) (fun LL185 eLL185 =>
    fl_td (s' := (83, [.ref 0, .long LL185, .null, .int (i3 + 1), u184], [], M, J)) (fl_n 2 rfl) <|
    (by subst eLL185; exact (q1 h1 u184))))) (fun h1 =>
  (q2 h1))
theorem lp_100_83 {r : fl_Q} (l1 : Int64) (u4 : Value) (M : fl_M) (J : fl_J) (hx : ∀ w3 w4 : Value, fl_dn fB100 (130, [.ref 0, .long (lr_100_83 l1 M), .null, w3, w4], [], M, J) r) : fl_dn fB100 (83, [.ref 0, .long l1, .null, .int 0, u4], [], M, J) r := by
  have hb := fi_bd (M 15 1)
  have key : ∀ (n m : Nat) (w4 : Value), m + n = ((M 15 1)).toNatClampNeg → fl_dn fB100 (83, [.ref 0, .long (lq_100_83 l1 M m), .null, .int (Int32.ofNat m), w4], [], M, J) r := by
    intro n
    induction n with
    | zero =>
      intro m w4 hm
      have hm : m = ((M 15 1)).toNatClampNeg := by omega
      have hn : ¬ ((Int32.ofNat m) < (M 15 1)) := fun z => by have z := (fi_lt (by omega)).mp z; omega
      exact ts_100_83 (Int32.ofNat m) (lq_100_83 l1 M m) w4 M J (fun h1 u184 => absurd h1 hn) (fun h1 => (by have e : lr_100_83 l1 M = lq_100_83 l1 M m := (by show lq_100_83 l1 M (((M 15 1)).toNatClampNeg) = _; rw [← hm]); rw [e] at hx; exact hx _ _))
    | succ n ih =>
      intro m w4 hm
      have hp : (Int32.ofNat m) < (M 15 1) := by exact (fi_lt (by omega)).mpr (by omega)
      refine ts_100_83 (Int32.ofNat m) (lq_100_83 l1 M m) w4 M J (fun h1 u184 => ?_) (fun h1 => absurd hp h1)
      · have e : lq_100_83 l1 M (m + 1) = (lr_100_97 (Int32.ofNat m) (lq_100_83 l1 M m) M) := by
          rw [lqs_100_83]
          unfold ls_100_83
          rfl
        have q := ih (m + 1) u184 (by omega)
        rw [e] at q
        first | (rw [fi_s]; exact q) | (rw [← fi_s] at q; exact q) | (simp only [fi_s] at q ⊢; exact q)
  exact key (((M 15 1)).toNatClampNeg) 0 u4 (Nat.zero_add _)
-- MiceRegisters.digest 132
def ls_100_132 (M : fl_M) (m : Nat) (q : Int64) : Int64 := ((31 * q) + ((M (fl_ar 46 (Int32.ofNat m).toNatClampNeg) 0).toInt64))
def lq_100_132 (l1 : Int64) (M : fl_M) (m : Nat) : Int64 := fx_it (ls_100_132 M) m l1
theorem lqs_100_132 (l1 : Int64) (M : fl_M) (m : Nat) : lq_100_132 l1 M (m + 1) = (ls_100_132 M) m (lq_100_132 l1 M m) := by
  unfold lq_100_132
  exact fx_it_s _ _ _
def lr_100_132 (l1 : Int64) (M : fl_M) : Int64 := (lq_100_132 l1 M (3))
theorem ts_100_132 {r : fl_Q} (i3 : Int32) (l1 : Int64) (u4 : Value) (M : fl_M) (J : fl_J) (q1 : (i3 < 3) → fl_dn fB100 (132, [.ref 0, .long ((31 * l1) + ((M (fl_ar 46 i3.toNatClampNeg) 0).toInt64)), .null, .int (i3 + 1), u4], [], M, J) r) (q2 : (¬ (i3 < 3)) → fl_dn fB100 (160, [.ref 0, .long l1, .null, .int i3, u4], [], M, J) r) : fl_dn fB100 (132, [.ref 0, .long l1, .null, .int i3, u4], [], M, J) r :=
 fl_td (s' := (134, [.ref 0, .long l1, .null, .int i3, u4], [.int 3, .int i3], M, J)) (fl_n 2 rfl) <|
 fl_dnot (fl_ic (t := 160) rfl rfl) fl_nlt (fun h1 =>
  fl_td (s' := (132, [.ref 0, .long ((31 * l1) + ((M (fl_ar 46 i3.toNatClampNeg) 0).toInt64)), .null, .int (i3 + 1), u4], [], M, J)) (fl_n 13 rfl) <|
  (q1 h1)) (fun h1 =>
  (q2 h1))
theorem lp_100_132 {r : fl_Q} (l1 : Int64) (u4 : Value) (M : fl_M) (J : fl_J) (hx : ∀ w3 : Value, fl_dn fB100 (160, [.ref 0, .long (lr_100_132 l1 M), .null, w3, u4], [], M, J) r) : fl_dn fB100 (132, [.ref 0, .long l1, .null, .int 0, u4], [], M, J) r := by
  have hb : (3 : Int32).toNatClampNeg = 3 := rfl
  have key : ∀ (n m : Nat), m + n = 3 → fl_dn fB100 (132, [.ref 0, .long (lq_100_132 l1 M m), .null, .int (Int32.ofNat m), u4], [], M, J) r := by
    intro n
    induction n with
    | zero =>
      intro m hm
      have hm : m = 3 := by omega
      have hn : ¬ ((Int32.ofNat m) < 3) := fun z => by have z := (fi_lt (by omega)).mp z; omega
      exact ts_100_132 (Int32.ofNat m) (lq_100_132 l1 M m) u4 M J (fun h1 => absurd h1 hn) (fun h1 => (by have e : lr_100_132 l1 M = lq_100_132 l1 M m := (by show lq_100_132 l1 M (3) = _; rw [← hm]); rw [e] at hx; exact hx _))
    | succ n ih =>
      intro m hm
      have hp : (Int32.ofNat m) < 3 := by exact (fi_lt (by omega)).mpr (by omega)
      refine ts_100_132 (Int32.ofNat m) (lq_100_132 l1 M m) u4 M J (fun h1 => ?_) (fun h1 => absurd hp h1)
      · have e : lq_100_132 l1 M (m + 1) = ((31 * (lq_100_132 l1 M m)) + ((M (fl_ar 46 (Int32.ofNat m).toNatClampNeg) 0).toInt64)) := by
          rw [lqs_100_132]
          unfold ls_100_132
          rfl
        have q := ih (m + 1) (by omega)
        rw [e] at q
        first | (rw [fi_s]; exact q) | (rw [← fi_s] at q; exact q) | (simp only [fi_s] at q ⊢; exact q)
  exact key (3) 0 (Nat.zero_add _)
def v_100 (M : fl_M) : Int64 := (lr_102_5 (lr_101_5 (lr_100_132 (lr_100_83 (lr_100_33 (lr_100_6 17 M) M) M) M) M) M)
theorem cc_100 (M : fl_M) (J : fl_J) : fl_C 100 [.ref 0] M J (some (.long (v_100 M)), M, J) :=
 fl_Co (B := fB100) rfl rfl <|
 fl_td (s' := (6, [.ref 0, .long 17, .null, .int 0, .null], [], M, J)) (fl_n 4 rfl) <|
 lp_100_6 17 .null M J (fun u177 =>
  fx_gen (p := fun (LL178 : Int64) => fl_dn fB100 (31, [.ref 0, .long LL178, .null, u177, .null], [], M, J) (some (.long (v_100 M)), M, J)) (lr_100_6 17 M) (fun LL178 eLL178 =>
   fl_td (s' := (33, [.ref 0, .long LL178, .null, .int 0, .null], [], M, J)) (fl_n 2 rfl) <|
   lp_100_33 LL178 .null M J (fun u181 u182 =>
    fx_gen (p := fun (LL183 : Int64) => fl_dn fB100 (81, [.ref 0, .long LL183, .null, u181, u182], [], M, J) (some (.long (v_100 M)), M, J)) (lr_100_33 LL178 M) (fun LL183 eLL183 =>
     fl_td (s' := (83, [.ref 0, .long LL183, .null, .int 0, u182], [], M, J)) (fl_n 2 rfl) <|
     lp_100_83 LL183 u182 M J (fun u186 u187 =>
      fx_gen (p := fun (LL188 : Int64) => fl_dn fB100 (130, [.ref 0, .long LL188, .null, u186, u187], [], M, J) (some (.long (v_100 M)), M, J)) (lr_100_83 LL183 M) (fun LL188 eLL188 =>
       fl_td (s' := (132, [.ref 0, .long LL188, .null, .int 0, u187], [], M, J)) (fl_n 2 rfl) <|
       lp_100_132 LL188 u187 M J (fun u189 =>
        fx_gen (p := fun (LL190 : Int64) => fl_dn fB100 (160, [.ref 0, .long LL190, .null, u189, u187], [], M, J) (some (.long (v_100 M)), M, J)) (lr_100_132 LL188 M) (fun LL190 eLL190 =>
         fl_td (s' := (163, [.ref 0, .long LL190, .null, u189, u187], [.long LL190, .ref 0, .ref 0], M, J)) (fl_n 3 rfl) <|
         fl_td (s' := (166, [.ref 0, .long LL190, .null, u189, u187], [.long (lr_101_5 LL190 M), .ref 0], M, J)) (fl_cv (o := some (.long (lr_101_5 LL190 M))) rfl rfl rfl rfl (cc_101 M J LL190) rfl) <|
         fx_gen (p := fun (LL191 : Int64) => fl_dn fB100 (166, [.ref 0, .long LL190, .null, u189, u187], [.long LL191, .ref 0], M, J) (some (.long (v_100 M)), M, J)) (lr_101_5 LL190 M) (fun LL191 eLL191 =>
          fl_td (s' := (169, [.ref 0, .long LL190, .null, u189, u187], [.long (lr_102_5 LL191 M)], M, J)) (fl_cv (o := some (.long (lr_102_5 LL191 M))) rfl rfl rfl rfl (cc_102 M J LL191) rfl) <|
          fx_gen (p := fun (LL192 : Int64) => fl_dn fB100 (169, [.ref 0, .long LL190, .null, u189, u187], [.long LL192], M, J) (some (.long (v_100 M)), M, J)) (lr_102_5 LL191 M) (fun LL192 eLL192 =>
           fl_rt rfl (fun _ => rfl) (by subst eLL178; subst eLL183; subst eLL188; subst eLL190; subst eLL191; subst eLL192; rfl)))))))))))
