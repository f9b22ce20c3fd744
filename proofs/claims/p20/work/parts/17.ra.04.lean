theorem lp_150_5 {r : fl_Q} (i1 i2 i3 : Int32) (u5 u6 : Value) (M : fl_M) (J : fl_J) (hx : ∀ w4 w5 w6 : Value, fl_dn fB150 (127, [.ref 81, .int i1, .int i2, .int ((lr_150_5 i1 i2 i3 M).1), w4, w5, w6], [], ((lr_150_5 i1 i2 i3 M).2), J) r) : fl_dn fB150 (5, [.ref 81, .int i1, .int i2, .int i3, .int 0, u5, u6], [], M, J) r := by
  have hb := fi_bd (M 81 4)
  have hB := fun m => lk_150_5 i1 i2 i3 M m
  have key : ∀ (n m : Nat) (w5 w6 : Value), m + n = ((M 81 4)).toNatClampNeg → fl_dn fB150 (5, [.ref 81, .int i1, .int i2, .int ((lq_150_5 i1 i2 i3 M m).1), .int (Int32.ofNat m), w5, w6], [], ((lq_150_5 i1 i2 i3 M m).2), J) r := by
    intro n
    induction n with
    | zero =>
      intro m w5 w6 hm
      have hm : m = ((M 81 4)).toNatClampNeg := by omega
      have hn : ¬ ((Int32.ofNat m) < (((lq_150_5 i1 i2 i3 M m).2) 81 4)) := fun z => by rw [hB m] at z; have z := (fi_lt (by omega)).mp z; omega
      exact ts_150_5 i1 i2 ((lq_150_5 i1 i2 i3 M m).1) (Int32.ofNat m) w5 w6 ((lq_150_5 i1 i2 i3 M m).2) J (fun h1 h2 => absurd h1 hn) (fun h1 h2 h3 => absurd h1 hn) (fun h1 h2 h3 h4 => absurd h1 hn) (fun h1 h2 h3 h4 => absurd h1 hn) (fun h1 => (by have e : lr_150_5 i1 i2 i3 M = lq_150_5 i1 i2 i3 M m := (by show lq_150_5 i1 i2 i3 M (((M 81 4)).toNatClampNeg) = _; rw [← hm]); rw [e] at hx; exact hx _ _ _))
    | succ n ih =>
      intro m w5 w6 hm
      have hp : (Int32.ofNat m) < (((lq_150_5 i1 i2 i3 M m).2) 81 4) := by rw [hB m]; exact (fi_lt (by omega)).mpr (by omega)
      refine ts_150_5 i1 i2 ((lq_150_5 i1 i2 i3 M m).1) (Int32.ofNat m) w5 w6 ((lq_150_5 i1 i2 i3 M m).2) J (fun h1 h2 => ?_) (fun h1 h2 h3 => ?_) (fun h1 h2 h3 h4 => ?_) (fun h1 h2 h3 h4 => ?_) (fun h1 => absurd hp h1)
      · have e : lq_150_5 i1 i2 i3 M (m + 1) = (((lq_150_5 i1 i2 i3 M m).1), ((lq_150_5 i1 i2 i3 M m).2)) := by
          rw [lqs_150_5]
          unfold ls_150_5
          simp only [if_pos h2]
        have q := ih (m + 1) (.int (-9)) w6 (by omega)
        rw [e] at q
        first | (rw [fi_s]; exact q) | (rw [← fi_s] at q; exact q) | (simp only [fi_s] at q ⊢; exact q)
      · have e : lq_150_5 i1 i2 i3 M (m + 1) = (((lq_150_5 i1 i2 i3 M m).1), ((lq_150_5 i1 i2 i3 M m).2)) := by
          rw [lqs_150_5]
          unfold ls_150_5
          simp only [if_neg h2, if_pos h3]
        have q := ih (m + 1) (.int ((lr_134_9 i1 (Int32.ofNat m) (-9) 0 ((lq_150_5 i1 i2 i3 M m).2)).1)) w6 (by omega)
        rw [e] at q
        first | (rw [fi_s]; exact q) | (rw [← fi_s] at q; exact q) | (simp only [fi_s] at q ⊢; exact q)
      · have e : lq_150_5 i1 i2 i3 M (m + 1) = ((((lq_150_5 i1 i2 i3 M m).1) + (v_142 (Int32.ofNat m) ((lq_150_5 i1 i2 i3 M m).2))), (fl_u (fl_u ((lq_150_5 i1 i2 i3 M m).2) 82 (((i1 + 4) + ((lr_134_9 i1 (Int32.ofNat m) (-9) 0 ((lq_150_5 i1 i2 i3 M m).2)).1)).toNatClampNeg) ((((lq_150_5 i1 i2 i3 M m).2) 82 (((i1 + 4) + ((lr_134_9 i1 (Int32.ofNat m) (-9) 0 ((lq_150_5 i1 i2 i3 M m).2)).1)).toNatClampNeg)) - (v_142 (Int32.ofNat m) ((lq_150_5 i1 i2 i3 M m).2)))) 82 (((i1 + 20) + (Int32.ofNat m)).toNatClampNeg) ((lr_134_9 i1 (Int32.ofNat m) (-9) 0 ((lq_150_5 i1 i2 i3 M m).2)).1))) := by
          rw [lqs_150_5]
          unfold ls_150_5
          simp only [if_neg h2, if_neg h3, if_pos h4]
        have q := ih (m + 1) (.int ((lr_134_9 i1 (Int32.ofNat m) (-9) 0 ((lq_150_5 i1 i2 i3 M m).2)).1)) (.int (v_142 (Int32.ofNat m) ((lq_150_5 i1 i2 i3 M m).2))) (by omega)
        rw [e] at q
        first | (rw [fi_s]; exact q) | (rw [← fi_s] at q; exact q) | (simp only [fi_s] at q ⊢; exact q)
      · have e : lq_150_5 i1 i2 i3 M (m + 1) = ((((lq_150_5 i1 i2 i3 M m).1) + (((lq_150_5 i1 i2 i3 M m).2) 82 (((i1 + 4) + ((lr_134_9 i1 (Int32.ofNat m) (-9) 0 ((lq_150_5 i1 i2 i3 M m).2)).1)).toNatClampNeg))), (fl_u (fl_u ((lq_150_5 i1 i2 i3 M m).2) 82 (((i1 + 4) + ((lr_134_9 i1 (Int32.ofNat m) (-9) 0 ((lq_150_5 i1 i2 i3 M m).2)).1)).toNatClampNeg) ((((lq_150_5 i1 i2 i3 M m).2) 82 (((i1 + 4) + ((lr_134_9 i1 (Int32.ofNat m) (-9) 0 ((lq_150_5 i1 i2 i3 M m).2)).1)).toNatClampNeg)) - (((lq_150_5 i1 i2 i3 M m).2) 82 (((i1 + 4) + ((lr_134_9 i1 (Int32.ofNat m) (-9) 0 ((lq_150_5 i1 i2 i3 M m).2)).1)).toNatClampNeg)))) 82 (((i1 + 20) + (Int32.ofNat m)).toNatClampNeg) ((lr_134_9 i1 (Int32.ofNat m) (-9) 0 ((lq_150_5 i1 i2 i3 M m).2)).1))) := by
          rw [lqs_150_5]
          unfold ls_150_5
          simp only [if_neg h2, if_neg h3, if_neg h4]
        have q := ih (m + 1) (.int ((lr_134_9 i1 (Int32.ofNat m) (-9) 0 ((lq_150_5 i1 i2 i3 M m).2)).1)) (.int (((lq_150_5 i1 i2 i3 M m).2) 82 (((i1 + 4) + ((lr_134_9 i1 (Int32.ofNat m) (-9) 0 ((lq_150_5 i1 i2 i3 M m).2)).1)).toNatClampNeg))) (by omega)
        rw [e] at q
        first | (rw [fi_s]; exact q) | (rw [← fi_s] at q; exact q) | (simp only [fi_s] at q ⊢; exact q)
  exact key (((M 81 4)).toNatClampNeg) 0 u5 u6 (Nat.zero_add _)
-- MiceRegistersModel.passes 130
def ls_150_130 (i1 : Int32) (m : Nat) (q : fl_M) : fl_M := (if 0 < (q 82 (((i1 + 12) + (Int32.ofNat m)).toNatClampNeg)) then (fl_u q 82 (((i1 + 12) + (Int32.ofNat m)).toNatClampNeg) ((q 82 (((i1 + 12) + (Int32.ofNat m)).toNatClampNeg)) - 1)) else (fl_u q 82 (((i1 + 12) + (Int32.ofNat m)).toNatClampNeg) ((q 82 (((i1 + 12) + (Int32.ofNat m)).toNatClampNeg)) - 0)))
def lq_150_130 (i1 : Int32) (M : fl_M) (m : Nat) : fl_M := fx_it (ls_150_130 i1) m M
theorem lqs_150_130 (i1 : Int32) (M : fl_M) (m : Nat) : lq_150_130 i1 M (m + 1) = (ls_150_130 i1) m (lq_150_130 i1 M m) := by
  unfold lq_150_130
  exact fx_it_s _ _ _
def lr_150_130 (i1 : Int32) (M : fl_M) : fl_M := (lq_150_130 i1 M (((M 81 1)).toNatClampNeg))
set_option maxRecDepth 8000 in
theorem ts_150_130 {r : fl_Q} (i1 i2 i3 i4 : Int32) (u5 u6 : Value) (M : fl_M) (J : fl_J) (q1 : (i4 < (M 81 1)) → (0 < (M 82 (((i1 + 12) + i4).toNatClampNeg))) → fl_dn fB150 (130, [.ref 81, .int i1, .int i2, .int i3, .int (i4 + 1), u5, u6], [], (fl_u M 82 (((i1 + 12) + i4).toNatClampNeg) ((M 82 (((i1 + 12) + i4).toNatClampNeg)) - 1)), J) r) (q2 : (i4 < (M 81 1)) → (¬ (0 < (M 82 (((i1 + 12) + i4).toNatClampNeg)))) → fl_dn fB150 (130, [.ref 81, .int i1, .int i2, .int i3, .int (i4 + 1), u5, u6], [], (fl_u M 82 (((i1 + 12) + i4).toNatClampNeg) ((M 82 (((i1 + 12) + i4).toNatClampNeg)) - 0)), J) r) (q3 : (¬ (i4 < (M 81 1))) → fl_dn fB150 (180, [.ref 81, .int i1, .int i2, .int i3, .int i4, u5, u6], [], M, J) r) : fl_dn fB150 (130, [.ref 81, .int i1, .int i2, .int i3, .int i4, u5, u6], [], M, J) r :=
 fl_td (s' := (136, [.ref 81, .int i1, .int i2, .int i3, .int i4, u5, u6], [.int (M 81 1), .int i4], M, J)) (fl_n 3 rfl) <|
 fl_dnot (fl_ic (t := 180) rfl rfl) fl_nlt (fun h1 =>
  fl_td (s' := (164, [.ref 81, .int i1, .int i2, .int i3, .int i4, u5, u6], [.int (M 82 (((i1 + 12) + i4).toNatClampNeg)), .int (M 82 (((i1 + 12) + i4).toNatClampNeg)), .int ((i1 + 12) + i4), .ref 82], M, J)) (fl_n 17 rfl) <|
  fl_dnot (fl_if (t := 171) rfl rfl) fl_nle (fun h2 =>
   fl_td (s' := (130, [.ref 81, .int i1, .int i2, .int i3, .int (i4 + 1), u5, u6], [], (fl_u M 82 (((i1 + 12) + i4).toNatClampNeg) ((M 82 (((i1 + 12) + i4).toNatClampNeg)) - 1)), J)) (fl_n 6 rfl) <|
   (q1 h1 h2)) (fun h2 =>
   fl_td (s' := (130, [.ref 81, .int i1, .int i2, .int i3, .int (i4 + 1), u5, u6], [], (fl_u M 82 (((i1 + 12) + i4).toNatClampNeg) ((M 82 (((i1 + 12) + i4).toNatClampNeg)) - 0)), J)) (fl_n 5 rfl) <|
   (q2 h1 h2))) (fun h1 =>
  (q3 h1))
theorem lk_150_130 (i1 : Int32) (M : fl_M) (m : Nat) : ((lq_150_130 i1 M m) 81 1) = (M 81 1) := by
  induction m with
  | zero => rfl
  | succ m ih =>
    rw [← ih]
    rw [lqs_150_130]
    generalize lq_150_130 i1 M m = q
    unfold ls_150_130
    (repeat' split) <;> first | with_reducible rfl | (simp [fl_u]; done) | rfl
theorem lp_150_130 {r : fl_Q} (i1 i2 i3 : Int32) (u5 u6 : Value) (M : fl_M) (J : fl_J) (hx : ∀ w4 : Value, fl_dn fB150 (180, [.ref 81, .int i1, .int i2, .int i3, w4, u5, u6], [], (lr_150_130 i1 M), J) r) : fl_dn fB150 (130, [.ref 81, .int i1, .int i2, .int i3, .int 0, u5, u6], [], M, J) r := by
  have hb := fi_bd (M 81 1)
  have hB := fun m => lk_150_130 i1 M m
  have key : ∀ (n m : Nat), m + n = ((M 81 1)).toNatClampNeg → fl_dn fB150 (130, [.ref 81, .int i1, .int i2, .int i3, .int (Int32.ofNat m), u5, u6], [], (lq_150_130 i1 M m), J) r := by
    intro n
    induction n with
    | zero =>
      intro m hm
      have hm : m = ((M 81 1)).toNatClampNeg := by omega
      have hn : ¬ ((Int32.ofNat m) < ((lq_150_130 i1 M m) 81 1)) := fun z => by rw [hB m] at z; have z := (fi_lt (by omega)).mp z; omega
      exact ts_150_130 i1 i2 i3 (Int32.ofNat m) u5 u6 (lq_150_130 i1 M m) J (fun h1 h2 => absurd h1 hn) (fun h1 h2 => absurd h1 hn) (fun h1 => (by have e : lr_150_130 i1 M = lq_150_130 i1 M m := (by show lq_150_130 i1 M (((M 81 1)).toNatClampNeg) = _; rw [← hm]); rw [e] at hx; exact hx _))
    | succ n ih =>
      intro m hm
      have hp : (Int32.ofNat m) < ((lq_150_130 i1 M m) 81 1) := by rw [hB m]; exact (fi_lt (by omega)).mpr (by omega)
      refine ts_150_130 i1 i2 i3 (Int32.ofNat m) u5 u6 (lq_150_130 i1 M m) J (fun h1 h2 => ?_) (fun h1 h2 => ?_) (fun h1 => absurd hp h1)
      · have e : lq_150_130 i1 M (m + 1) = (fl_u (lq_150_130 i1 M m) 82 (((i1 + 12) + (Int32.ofNat m)).toNatClampNeg) (((lq_150_130 i1 M m) 82 (((i1 + 12) + (Int32.ofNat m)).toNatClampNeg)) - 1)) := by
          rw [lqs_150_130]
          unfold ls_150_130
          simp only [if_pos h2]
        have q := ih (m + 1) (by omega)
        rw [e] at q
        first | (rw [fi_s]; exact q) | (rw [← fi_s] at q; exact q) | (simp only [fi_s] at q ⊢; exact q)
      · have e : lq_150_130 i1 M (m + 1) = (fl_u (lq_150_130 i1 M m) 82 (((i1 + 12) + (Int32.ofNat m)).toNatClampNeg) (((lq_150_130 i1 M m) 82 (((i1 + 12) + (Int32.ofNat m)).toNatClampNeg)) - 0)) := by
          rw [lqs_150_130]
          unfold ls_150_130
          simp only [if_neg h2]
        have q := ih (m + 1) (by omega)
        rw [e] at q
        first | (rw [fi_s]; exact q) | (rw [← fi_s] at q; exact q) | (simp only [fi_s] at q ⊢; exact q)
  exact key (((M 81 1)).toNatClampNeg) 0 (Nat.zero_add _)
def m_150 (b s : Int32) (M : fl_M) : fl_M := (fl_u (lr_150_130 b ((lr_150_5 b s 0 M).2)) 82 ((b + 1).toNatClampNeg) (((lr_150_130 b ((lr_150_5 b s 0 M).2)) 82 ((b + 1).toNatClampNeg)) + 1))
set_option maxRecDepth 8000 in
theorem cc_150 (M : fl_M) (J : fl_J) (b s : Int32) : fl_C 150 [.ref 81, .int b, .int s] M J (some (.int ((lr_150_5 b s 0 M).1)), (m_150 b s M), J) :=
 fl_Co (B := fB150) rfl rfl <|
 fl_td (s' := (5, [.ref 81, .int b, .int s, .int 0, .int 0, .null, .null], [], M, J)) (fl_n 4 rfl) <|
 lp_150_5 b s 0 .null .null M J (fun u8 u9 u10 =>
  fx_gen (p := fun (MM11 : fl_M) => fl_dn fB150 (127, [.ref 81, .int b, .int s, .int ((lr_150_5 b s 0 M).1), u8, u9, u10], [], MM11, J) (some (.int ((lr_150_5 b s 0 M).1)), (m_150 b s M), J)) ((lr_150_5 b s 0 M).2) (fun MM11 eMM11 =>
   fx_gen (p := fun (II12 : Int32) => fl_dn fB150 (127, [.ref 81, .int b, .int s, .int II12, u8, u9, u10], [], MM11, J) (some (.int ((lr_150_5 b s 0 M).1)), (m_150 b s M), J)) ((lr_150_5 b s 0 M).1) (fun II12 eII12 =>
    fl_td (s' := (130, [.ref 81, .int b, .int s, .int II12, .int 0, u9, u10], [], MM11, J)) (fl_n 2 rfl) <|
    lp_150_130 b s II12 u9 u10 MM11 J (fun u13 =>
     fx_gen (p := fun (MM14 : fl_M) => fl_dn fB150 (180, [.ref 81, .int b, .int s, .int II12, u13, u9, u10], [], MM14, J) (some (.int ((lr_150_5 b s 0 M).1)), (m_150 b s M), J)) (lr_150_130 b MM11) (fun MM14 eMM14 =>
      fl_td (s' := (193, [.ref 81, .int b, .int s, .int II12, u13, u9, u10], [.int II12], (fl_u MM14 82 ((b + 1).toNatClampNeg) ((MM14 82 ((b + 1).toNatClampNeg)) + 1)), J)) (fl_n 11 rfl) <|
      fl_rt rfl (fun _ => rfl) (by subst eMM11; subst eII12; subst eMM14; rfl))))))
theorem fw_150_5 {b s e : Int32} {M : fl_M} {c j : Nat} (g0 : ¬ c = 82) : (lr_150_5 b s e M).2 c j = M c j := by
  unfold lr_150_5 lq_150_5
  refine it_k (fun q : (Int32 × fl_M) => q.2 c j = M c j) rfl (fun m q hq => ?_)
  unfold ls_150_5
  (try repeat' split) <;> first | with_reducible exact hq | (simp [fl_u, g0, hq]; done)
theorem fw_150_130 {b : Int32} {M : fl_M} {c j : Nat} (g0 : ¬ c = 82) : (lr_150_130 b M) c j = M c j := by
  unfold lr_150_130 lq_150_130
  refine it_k (fun q : fl_M => q c j = M c j) rfl (fun m q hq => ?_)
  unfold ls_150_130
  (try repeat' split) <;> first | with_reducible exact hq | (simp [fl_u, g0, hq]; done)
theorem fw_150 {b s : Int32} {M : fl_M} {c j : Nat} (g0 : ¬ c = 82) : (m_150 b s M) c j = M c j := by
  unfold m_150
  (try repeat' split) <;> first | with_reducible rfl | (simp [fl_u, g0, fw_150_5 g0, fw_150_130 g0]; done)
def fB133 : sm_P := (fun pc => sm_ch sm_t133 pc, sm_Kn 3 4 none, fun x => sm_lk sm_ca3 x, some .int)
-- MiceRegistersModel.wantedBy 4
def ls_133_4 (i1 : Int32) (M : fl_M) (m : Nat) (q : Int32) : Int32 := (if ((lr_134_9 0 (Int32.ofNat m) (-9) 0 M).1) = i1 then (q ||| ((1 : Int32) <<< ((Int32.ofNat m) &&& 31))) else (q ||| 0))
def lq_133_4 (i1 i2 : Int32) (M : fl_M) (m : Nat) : Int32 := fx_it (ls_133_4 i1 M) m i2
theorem lqs_133_4 (i1 i2 : Int32) (M : fl_M) (m : Nat) : lq_133_4 i1 i2 M (m + 1) = (ls_133_4 i1 M) m (lq_133_4 i1 i2 M m) := by
  unfold lq_133_4
  exact fx_it_s _ _ _
def lr_133_4 (i1 i2 : Int32) (M : fl_M) : Int32 := (lq_133_4 i1 i2 M (((M 81 4)).toNatClampNeg))
