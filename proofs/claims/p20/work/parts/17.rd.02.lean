def ls_199_6 (M : fl_M) (m : Nat) (q : Int64) : Int64 := ((31 * q) + ((v_194 (Int32.ofNat m) M).toInt64))
def lq_199_6 (l1 : Int64) (M : fl_M) (m : Nat) : Int64 := fx_it (ls_199_6 M) m l1
theorem lqs_199_6 (l1 : Int64) (M : fl_M) (m : Nat) : lq_199_6 l1 M (m + 1) = (ls_199_6 M) m (lq_199_6 l1 M m) := by
  unfold lq_199_6
  exact fx_it_s _ _ _
def lr_199_6 (l1 : Int64) (M : fl_M) : Int64 := (lq_199_6 l1 M (14))
set_option maxRecDepth 8000 in
theorem ts_199_6 {r : fl_Q} (i3 : Int32) (l1 : Int64) (u4 : Value) (M : fl_M) (J : fl_J) (q1 : (i3 < 14) → fl_dn fB199 (6, [.ref 81, .long ((31 * l1) + ((v_194 i3 M).toInt64)), .null, .int (i3 + 1), u4], [], M, J) r) (q2 : (¬ (i3 < 14)) → fl_dn fB199 (31, [.ref 81, .long l1, .null, .int i3, u4], [], M, J) r) : fl_dn fB199 (6, [.ref 81, .long l1, .null, .int i3, u4], [], M, J) r :=
 fl_td (s' := (9, [.ref 81, .long l1, .null, .int i3, u4], [.int 14, .int i3], M, J)) (fl_n 2 rfl) <|
 fl_dnot (fl_ic (t := 31) rfl rfl) fl_nlt (fun h1 =>
  fl_td (s' := (19, [.ref 81, .long l1, .null, .int i3, u4], [.int i3, .ref 81, .long (31 * l1)], M, J)) (fl_n 5 rfl) <|
  fl_td (s' := (22, [.ref 81, .long l1, .null, .int i3, u4], [.int (v_194 i3 M), .long (31 * l1)], M, J)) (fl_cv (o := some (.int (v_194 i3 M))) rfl rfl rfl rfl (cc_194 M J i3) rfl) <|
  fl_td (s' := (6, [.ref 81, .long ((31 * l1) + ((v_194 i3 M).toInt64)), .null, .int (i3 + 1), u4], [], M, J)) (fl_n 5 rfl) <|
  (q1 h1)) (fun h1 =>
  (q2 h1))
theorem lp_199_6 {r : fl_Q} (l1 : Int64) (u4 : Value) (M : fl_M) (J : fl_J) (hx : ∀ w3 : Value, fl_dn fB199 (31, [.ref 81, .long (lr_199_6 l1 M), .null, w3, u4], [], M, J) r) : fl_dn fB199 (6, [.ref 81, .long l1, .null, .int 0, u4], [], M, J) r := by
  have hb : (14 : Int32).toNatClampNeg = 14 := rfl
  have key : ∀ (n m : Nat), m + n = 14 → fl_dn fB199 (6, [.ref 81, .long (lq_199_6 l1 M m), .null, .int (Int32.ofNat m), u4], [], M, J) r := by
    intro n
    induction n with
    | zero =>
      intro m hm
      have hm : m = 14 := by omega
      have hn : ¬ ((Int32.ofNat m) < 14) := fun z => by have z := (fi_lt (by omega)).mp z; omega
      exact ts_199_6 (Int32.ofNat m) (lq_199_6 l1 M m) u4 M J (fun h1 => absurd h1 hn) (fun h1 => (by have e : lr_199_6 l1 M = lq_199_6 l1 M m := (by show lq_199_6 l1 M (14) = _; rw [← hm]); rw [e] at hx; exact hx _))
    | succ n ih =>
      intro m hm
      have hp : (Int32.ofNat m) < 14 := by exact (fi_lt (by omega)).mpr (by omega)
      refine ts_199_6 (Int32.ofNat m) (lq_199_6 l1 M m) u4 M J (fun h1 => ?_) (fun h1 => absurd hp h1)
      · have e : lq_199_6 l1 M (m + 1) = ((31 * (lq_199_6 l1 M m)) + ((v_194 (Int32.ofNat m) M).toInt64)) := by
          rw [lqs_199_6]
          unfold ls_199_6
          rfl
        have q := ih (m + 1) (by omega)
        rw [e] at q
        first | (rw [fi_s]; exact q) | (rw [← fi_s] at q; exact q) | (simp only [fi_s] at q ⊢; exact q)
  exact key (14) 0 (Nat.zero_add _)
-- MiceRegistersModel.digest 33
def ls_199_33 (M : fl_M) (m : Nat) (q : Int64) : Int64 := ((31 * q) + ((v_132 ((Int32.ofNat m) / 6) ((Int32.ofNat m) - (Int32.ofNat m) / 6 * 6) M).toInt64))
def lq_199_33 (l1 : Int64) (M : fl_M) (m : Nat) : Int64 := fx_it (ls_199_33 M) m l1
theorem lqs_199_33 (l1 : Int64) (M : fl_M) (m : Nat) : lq_199_33 l1 M (m + 1) = (ls_199_33 M) m (lq_199_33 l1 M m) := by
  unfold lq_199_33
  exact fx_it_s _ _ _
def lr_199_33 (l1 : Int64) (M : fl_M) : Int64 := (lq_199_33 l1 M (((6 * (M 81 1))).toNatClampNeg))
set_option maxRecDepth 8000 in
theorem ts_199_33 {r : fl_Q} (i3 : Int32) (l1 : Int64) (u4 : Value) (M : fl_M) (J : fl_J) (q1 : (i3 < (6 * (M 81 1))) → fl_dn fB199 (33, [.ref 81, .long ((31 * l1) + ((v_132 (i3 / 6) (i3 - i3 / 6 * 6) M).toInt64)), .null, .int (i3 + 1), u4], [], M, J) r) (q2 : (¬ (i3 < (6 * (M 81 1)))) → fl_dn fB199 (70, [.ref 81, .long l1, .null, .int i3, u4], [], M, J) r) : fl_dn fB199 (33, [.ref 81, .long l1, .null, .int i3, u4], [], M, J) r :=
 fl_td (s' := (41, [.ref 81, .long l1, .null, .int i3, u4], [.int (6 * (M 81 1)), .int i3], M, J)) (fl_n 5 rfl) <|
 fl_dnot (fl_ic (t := 70) rfl rfl) fl_nlt (fun h1 =>
  fl_td (s' := (58, [.ref 81, .long l1, .null, .int i3, u4], [.int (i3 - i3 / 6 * 6), .int (i3 / 6), .ref 81, .long (31 * l1)], M, J)) (fl_n 10 rfl) <|
  fl_td (s' := (61, [.ref 81, .long l1, .null, .int i3, u4], [.int (v_132 (i3 / 6) (i3 - i3 / 6 * 6) M), .long (31 * l1)], M, J)) (fl_cv (o := some (.int (v_132 (i3 / 6) (i3 - i3 / 6 * 6) M))) rfl rfl rfl rfl (cc_132 M J (i3 / 6) (i3 - i3 / 6 * 6)) rfl) <|
  fl_td (s' := (33, [.ref 81, .long ((31 * l1) + ((v_132 (i3 / 6) (i3 - i3 / 6 * 6) M).toInt64)), .null, .int (i3 + 1), u4], [], M, J)) (fl_n 5 rfl) <|
  (q1 h1)) (fun h1 =>
  (q2 h1))
theorem lp_199_33 {r : fl_Q} (l1 : Int64) (u4 : Value) (M : fl_M) (J : fl_J) (hx : ∀ w3 : Value, fl_dn fB199 (70, [.ref 81, .long (lr_199_33 l1 M), .null, w3, u4], [], M, J) r) : fl_dn fB199 (33, [.ref 81, .long l1, .null, .int 0, u4], [], M, J) r := by
  have hb := fi_bd (6 * (M 81 1))
  have key : ∀ (n m : Nat), m + n = ((6 * (M 81 1))).toNatClampNeg → fl_dn fB199 (33, [.ref 81, .long (lq_199_33 l1 M m), .null, .int (Int32.ofNat m), u4], [], M, J) r := by
    intro n
    induction n with
    | zero =>
      intro m hm
      have hm : m = ((6 * (M 81 1))).toNatClampNeg := by omega
      have hn : ¬ ((Int32.ofNat m) < (6 * (M 81 1))) := fun z => by have z := (fi_lt (by omega)).mp z; omega
      exact ts_199_33 (Int32.ofNat m) (lq_199_33 l1 M m) u4 M J (fun h1 => absurd h1 hn) (fun h1 => (by have e : lr_199_33 l1 M = lq_199_33 l1 M m := (by show lq_199_33 l1 M (((6 * (M 81 1))).toNatClampNeg) = _; rw [← hm]); rw [e] at hx; exact hx _))
    | succ n ih =>
      intro m hm
      have hp : (Int32.ofNat m) < (6 * (M 81 1)) := by exact (fi_lt (by omega)).mpr (by omega)
      refine ts_199_33 (Int32.ofNat m) (lq_199_33 l1 M m) u4 M J (fun h1 => ?_) (fun h1 => absurd hp h1)
      · have e : lq_199_33 l1 M (m + 1) = ((31 * (lq_199_33 l1 M m)) + ((v_132 ((Int32.ofNat m) / 6) ((Int32.ofNat m) - (Int32.ofNat m) / 6 * 6) M).toInt64)) := by
          rw [lqs_199_33]
          unfold ls_199_33
          rfl
        have q := ih (m + 1) (by omega)
        rw [e] at q
        first | (rw [fi_s]; exact q) | (rw [← fi_s] at q; exact q) | (simp only [fi_s] at q ⊢; exact q)
  exact key (((6 * (M 81 1))).toNatClampNeg) 0 (Nat.zero_add _)
-- MiceRegistersModel.digest 72
def ls_199_72 (M : fl_M) (m : Nat) (q : Int64) : Int64 := ((31 * q) + ((v_141 ((Int32.ofNat m) / 5) ((Int32.ofNat m) - (Int32.ofNat m) / 5 * 5) M).toInt64))
def lq_199_72 (l1 : Int64) (M : fl_M) (m : Nat) : Int64 := fx_it (ls_199_72 M) m l1
theorem lqs_199_72 (l1 : Int64) (M : fl_M) (m : Nat) : lq_199_72 l1 M (m + 1) = (ls_199_72 M) m (lq_199_72 l1 M m) := by
  unfold lq_199_72
  exact fx_it_s _ _ _
def lr_199_72 (l1 : Int64) (M : fl_M) : Int64 := (lq_199_72 l1 M (((5 * (M 81 4))).toNatClampNeg))
set_option maxRecDepth 8000 in
theorem ts_199_72 {r : fl_Q} (i3 : Int32) (l1 : Int64) (u4 : Value) (M : fl_M) (J : fl_J) (q1 : (i3 < (5 * (M 81 4))) → fl_dn fB199 (72, [.ref 81, .long ((31 * l1) + ((v_141 (i3 / 5) (i3 - i3 / 5 * 5) M).toInt64)), .null, .int (i3 + 1), u4], [], M, J) r) (q2 : (¬ (i3 < (5 * (M 81 4)))) → fl_dn fB199 (106, [.ref 81, .long l1, .null, .int i3, u4], [], M, J) r) : fl_dn fB199 (72, [.ref 81, .long l1, .null, .int i3, u4], [], M, J) r :=
 fl_td (s' := (79, [.ref 81, .long l1, .null, .int i3, u4], [.int (5 * (M 81 4)), .int i3], M, J)) (fl_n 5 rfl) <|
 fl_dnot (fl_ic (t := 106) rfl rfl) fl_nlt (fun h1 =>
  fl_td (s' := (94, [.ref 81, .long l1, .null, .int i3, u4], [.int (i3 - i3 / 5 * 5), .int (i3 / 5), .ref 81, .long (31 * l1)], M, J)) (fl_n 10 rfl) <|
  fl_td (s' := (97, [.ref 81, .long l1, .null, .int i3, u4], [.int (v_141 (i3 / 5) (i3 - i3 / 5 * 5) M), .long (31 * l1)], M, J)) (fl_cv (o := some (.int (v_141 (i3 / 5) (i3 - i3 / 5 * 5) M))) rfl rfl rfl rfl (cc_141 M J (i3 / 5) (i3 - i3 / 5 * 5)) rfl) <|
  fl_td (s' := (72, [.ref 81, .long ((31 * l1) + ((v_141 (i3 / 5) (i3 - i3 / 5 * 5) M).toInt64)), .null, .int (i3 + 1), u4], [], M, J)) (fl_n 5 rfl) <|
  (q1 h1)) (fun h1 =>
  (q2 h1))
theorem lp_199_72 {r : fl_Q} (l1 : Int64) (u4 : Value) (M : fl_M) (J : fl_J) (hx : ∀ w3 : Value, fl_dn fB199 (106, [.ref 81, .long (lr_199_72 l1 M), .null, w3, u4], [], M, J) r) : fl_dn fB199 (72, [.ref 81, .long l1, .null, .int 0, u4], [], M, J) r := by
  have hb := fi_bd (5 * (M 81 4))
  have key : ∀ (n m : Nat), m + n = ((5 * (M 81 4))).toNatClampNeg → fl_dn fB199 (72, [.ref 81, .long (lq_199_72 l1 M m), .null, .int (Int32.ofNat m), u4], [], M, J) r := by
    intro n
    induction n with
    | zero =>
      intro m hm
      have hm : m = ((5 * (M 81 4))).toNatClampNeg := by omega
      have hn : ¬ ((Int32.ofNat m) < (5 * (M 81 4))) := fun z => by have z := (fi_lt (by omega)).mp z; omega
      exact ts_199_72 (Int32.ofNat m) (lq_199_72 l1 M m) u4 M J (fun h1 => absurd h1 hn) (fun h1 => (by have e : lr_199_72 l1 M = lq_199_72 l1 M m := (by show lq_199_72 l1 M (((5 * (M 81 4))).toNatClampNeg) = _; rw [← hm]); rw [e] at hx; exact hx _))
    | succ n ih =>
      intro m hm
      have hp : (Int32.ofNat m) < (5 * (M 81 4)) := by exact (fi_lt (by omega)).mpr (by omega)
      refine ts_199_72 (Int32.ofNat m) (lq_199_72 l1 M m) u4 M J (fun h1 => ?_) (fun h1 => absurd hp h1)
      · have e : lq_199_72 l1 M (m + 1) = ((31 * (lq_199_72 l1 M m)) + ((v_141 ((Int32.ofNat m) / 5) ((Int32.ofNat m) - (Int32.ofNat m) / 5 * 5) M).toInt64)) := by
          rw [lqs_199_72]
          unfold ls_199_72
          rfl
        have q := ih (m + 1) (by omega)
        rw [e] at q
        first | (rw [fi_s]; exact q) | (rw [← fi_s] at q; exact q) | (simp only [fi_s] at q ⊢; exact q)
  exact key (((5 * (M 81 4))).toNatClampNeg) 0 (Nat.zero_add _)
-- MiceRegistersModel.digest 108
def ls_199_108 (M : fl_M) (m : Nat) (q : Int64) : Int64 := ((31 * q) + ((M 82 (((944 * (Int32.ofNat (1 + m))) + 0).toNatClampNeg)).toInt64))
def lq_199_108 (l1 : Int64) (M : fl_M) (m : Nat) : Int64 := fx_it (ls_199_108 M) m l1
theorem lqs_199_108 (l1 : Int64) (M : fl_M) (m : Nat) : lq_199_108 l1 M (m + 1) = (ls_199_108 M) m (lq_199_108 l1 M m) := by
  unfold lq_199_108
  exact fx_it_s _ _ _
def lr_199_108 (l1 : Int64) (M : fl_M) : Int64 := (lq_199_108 l1 M (3))
set_option maxRecDepth 8000 in
theorem ts_199_108 {r : fl_Q} (i3 : Int32) (l1 : Int64) (u4 : Value) (M : fl_M) (J : fl_J) (q1 : (i3 < 4) → fl_dn fB199 (108, [.ref 81, .long ((31 * l1) + ((M 82 (((944 * i3) + 0).toNatClampNeg)).toInt64)), .null, .int (i3 + 1), u4], [], M, J) r) (q2 : (¬ (i3 < 4)) → fl_dn fB199 (139, [.ref 81, .long l1, .null, .int i3, u4], [], M, J) r) : fl_dn fB199 (108, [.ref 81, .long l1, .null, .int i3, u4], [], M, J) r :=
 fl_td (s' := (110, [.ref 81, .long l1, .null, .int i3, u4], [.int 4, .int i3], M, J)) (fl_n 2 rfl) <|
 fl_dnot (fl_ic (t := 139) rfl rfl) fl_nlt (fun h1 =>
  fl_td (s' := (108, [.ref 81, .long ((31 * l1) + ((M 82 (((944 * i3) + 0).toNatClampNeg)).toInt64)), .null, .int (i3 + 1), u4], [], M, J)) (fl_n 16 rfl) <|
  (q1 h1)) (fun h1 =>
  (q2 h1))
theorem lp_199_108 {r : fl_Q} (l1 : Int64) (u4 : Value) (M : fl_M) (J : fl_J) (hx : ∀ w3 : Value, fl_dn fB199 (139, [.ref 81, .long (lr_199_108 l1 M), .null, w3, u4], [], M, J) r) : fl_dn fB199 (108, [.ref 81, .long l1, .null, .int 1, u4], [], M, J) r := by
  have hb : (4 : Int32).toNatClampNeg = 4 := rfl
  have key : ∀ (n m : Nat), m + n = 3 → fl_dn fB199 (108, [.ref 81, .long (lq_199_108 l1 M m), .null, .int (Int32.ofNat (1 + m)), u4], [], M, J) r := by
    intro n
    induction n with
    | zero =>
      intro m hm
      have hm : m = 3 := by omega
      have hn : ¬ ((Int32.ofNat (1 + m)) < 4) := fun z => by have z := (fi_lt (by omega)).mp z; omega
      exact ts_199_108 (Int32.ofNat (1 + m)) (lq_199_108 l1 M m) u4 M J (fun h1 => absurd h1 hn) (fun h1 => (by have e : lr_199_108 l1 M = lq_199_108 l1 M m := (by show lq_199_108 l1 M (3) = _; rw [← hm]); rw [e] at hx; exact hx _))
    | succ n ih =>
      intro m hm
      have hp : (Int32.ofNat (1 + m)) < 4 := by exact (fi_lt (by omega)).mpr (by omega)
      refine ts_199_108 (Int32.ofNat (1 + m)) (lq_199_108 l1 M m) u4 M J (fun h1 => ?_) (fun h1 => absurd hp h1)
      · have e : lq_199_108 l1 M (m + 1) = ((31 * (lq_199_108 l1 M m)) + ((M 82 (((944 * (Int32.ofNat (1 + m))) + 0).toNatClampNeg)).toInt64)) := by
          rw [lqs_199_108]
          unfold ls_199_108
          rfl
        have q := ih (m + 1) (by omega)
        rw [e] at q
        first | (rw [fi_s]; exact q) | (rw [← fi_s] at q; exact q) | (simp only [fi_s] at q ⊢; exact q)
  exact key (3) 0 (Nat.zero_add _)
-- MiceRegistersModel.digest 164
