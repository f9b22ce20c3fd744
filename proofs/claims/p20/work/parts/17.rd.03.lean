def ls_199_164 (i3 : Int32) (M : fl_M) (m : Nat) (q : Int64) : Int64 := ((31 * q) + ((M 88 (((40 * i3) + (Int32.ofNat m)).toNatClampNeg)).toInt64))
def lq_199_164 (i3 : Int32) (l1 : Int64) (M : fl_M) (m : Nat) : Int64 := fx_it (ls_199_164 i3 M) m l1
theorem lqs_199_164 (i3 : Int32) (l1 : Int64) (M : fl_M) (m : Nat) : lq_199_164 i3 l1 M (m + 1) = (ls_199_164 i3 M) m (lq_199_164 i3 l1 M m) := by
  unfold lq_199_164
  exact fx_it_s _ _ _
def lr_199_164 (i3 : Int32) (l1 : Int64) (M : fl_M) : Int64 := (lq_199_164 i3 l1 M (((M 87 i3.toNatClampNeg)).toNatClampNeg))
set_option maxRecDepth 8000 in
theorem ts_199_164 {r : fl_Q} (i3 i4 : Int32) (l1 : Int64) (M : fl_M) (J : fl_J) (q1 : (i4 < (M 87 i3.toNatClampNeg)) → fl_dn fB199 (164, [.ref 81, .long ((31 * l1) + ((M 88 (((40 * i3) + i4).toNatClampNeg)).toInt64)), .null, .int i3, .int (i4 + 1)], [], M, J) r) (q2 : (¬ (i4 < (M 87 i3.toNatClampNeg))) → fl_dn fB199 (201, [.ref 81, .long l1, .null, .int i3, .int i4], [], M, J) r) : fl_dn fB199 (164, [.ref 81, .long l1, .null, .int i3, .int i4], [], M, J) r :=
 fl_td (s' := (172, [.ref 81, .long l1, .null, .int i3, .int i4], [.int (M 87 i3.toNatClampNeg), .int i4], M, J)) (fl_n 5 rfl) <|
 fl_dnot (fl_ic (t := 201) rfl rfl) fl_nlt (fun h1 =>
  fl_td (s' := (164, [.ref 81, .long ((31 * l1) + ((M 88 (((40 * i3) + i4).toNatClampNeg)).toInt64)), .null, .int i3, .int (i4 + 1)], [], M, J)) (fl_n 16 rfl) <|
  (q1 h1)) (fun h1 =>
  (q2 h1))
theorem lp_199_164 {r : fl_Q} (i3 : Int32) (l1 : Int64) (M : fl_M) (J : fl_J) (hx : ∀ w4 : Value, fl_dn fB199 (201, [.ref 81, .long (lr_199_164 i3 l1 M), .null, .int i3, w4], [], M, J) r) : fl_dn fB199 (164, [.ref 81, .long l1, .null, .int i3, .int 0], [], M, J) r := by
  have hb := fi_bd (M 87 i3.toNatClampNeg)
  have key : ∀ (n m : Nat), m + n = ((M 87 i3.toNatClampNeg)).toNatClampNeg → fl_dn fB199 (164, [.ref 81, .long (lq_199_164 i3 l1 M m), .null, .int i3, .int (Int32.ofNat m)], [], M, J) r := by
    intro n
    induction n with
    | zero =>
      intro m hm
      have hm : m = ((M 87 i3.toNatClampNeg)).toNatClampNeg := by omega
      have hn : ¬ ((Int32.ofNat m) < (M 87 i3.toNatClampNeg)) := fun z => by have z := (fi_lt (by omega)).mp z; omega
      exact ts_199_164 i3 (Int32.ofNat m) (lq_199_164 i3 l1 M m) M J (fun h1 => absurd h1 hn) (fun h1 => (by have e : lr_199_164 i3 l1 M = lq_199_164 i3 l1 M m := (by show lq_199_164 i3 l1 M (((M 87 i3.toNatClampNeg)).toNatClampNeg) = _; rw [← hm]); rw [e] at hx; exact hx _))
    | succ n ih =>
      intro m hm
      have hp : (Int32.ofNat m) < (M 87 i3.toNatClampNeg) := by exact (fi_lt (by omega)).mpr (by omega)
      refine ts_199_164 i3 (Int32.ofNat m) (lq_199_164 i3 l1 M m) M J (fun h1 => ?_) (fun h1 => absurd hp h1)
      · have e : lq_199_164 i3 l1 M (m + 1) = ((31 * (lq_199_164 i3 l1 M m)) + ((M 88 (((40 * i3) + (Int32.ofNat m)).toNatClampNeg)).toInt64)) := by
          rw [lqs_199_164]
          unfold ls_199_164
          rfl
        have q := ih (m + 1) (by omega)
        rw [e] at q
        first | (rw [fi_s]; exact q) | (rw [← fi_s] at q; exact q) | (simp only [fi_s] at q ⊢; exact q)
  exact key (((M 87 i3.toNatClampNeg)).toNatClampNeg) 0 (Nat.zero_add _)
-- MiceRegistersModel.digest 141
def ls_199_141 (M : fl_M) (m : Nat) (q : Int64) : Int64 := (lr_199_164 (Int32.ofNat m) ((31 * q) + ((M 87 (Int32.ofNat m).toNatClampNeg).toInt64)) M)
def lq_199_141 (l1 : Int64) (M : fl_M) (m : Nat) : Int64 := fx_it (ls_199_141 M) m l1
theorem lqs_199_141 (l1 : Int64) (M : fl_M) (m : Nat) : lq_199_141 l1 M (m + 1) = (ls_199_141 M) m (lq_199_141 l1 M m) := by
  unfold lq_199_141
  exact fx_it_s _ _ _
def lr_199_141 (l1 : Int64) (M : fl_M) : Int64 := (lq_199_141 l1 M (6))
set_option maxRecDepth 8000 in
theorem ts_199_141 {r : fl_Q} (i3 : Int32) (l1 : Int64) (u4 : Value) (M : fl_M) (J : fl_J) (q1 : (i3 < 6) → ∀ u153 : Value, fl_dn fB199 (141, [.ref 81, .long (lr_199_164 i3 ((31 * l1) + ((M 87 i3.toNatClampNeg).toInt64)) M), .null, .int (i3 + 1), u153], [], M, J) r) (q2 : (¬ (i3 < 6)) → fl_dn fB199 (207, [.ref 81, .long l1, .null, .int i3, u4], [], M, J) r) : fl_dn fB199 (141, [.ref 81, .long l1, .null, .int i3, u4], [], M, J) r :=
 fl_td (s' := (144, [.ref 81, .long l1, .null, .int i3, u4], [.int 6, .int i3], M, J)) (fl_n 2 rfl) <|
 fl_dnot (fl_ic (t := 207) rfl rfl) fl_nlt (fun h1 =>
  fl_td (s' := (164, [.ref 81, .long ((31 * l1) + ((M 87 i3.toNatClampNeg).toInt64)), .null, .int i3, .int 0], [], M, J)) (fl_n 12 rfl) <|
  lp_199_164 i3 ((31 * l1) + ((M 87 i3.toNatClampNeg).toInt64)) M J (fun u153 =>
   fx_gen (p := fun (LL154 : Int64) => fl_dn fB199 (201, [.ref 81, .long LL154, .null, .int i3, u153], [], M, J) r) (lr_199_164 i3 ((31 * l1) + ((M 87 i3.toNatClampNeg).toInt64)) M) (fun LL154 eLL154 =>
    fl_td (s' := (141, [.ref 81, .long LL154, .null, .int (i3 + 1), u153], [], M, J)) (fl_n 2 rfl) <|
    (by subst eLL154; exact (q1 h1 u153))))) (fun h1 =>
  (q2 h1))
theorem lp_199_141 {r : fl_Q} (l1 : Int64) (u4 : Value) (M : fl_M) (J : fl_J) (hx : ∀ w3 w4 : Value, fl_dn fB199 (207, [.ref 81, .long (lr_199_141 l1 M), .null, w3, w4], [], M, J) r) : fl_dn fB199 (141, [.ref 81, .long l1, .null, .int 0, u4], [], M, J) r := by
  have hb : (6 : Int32).toNatClampNeg = 6 := rfl
  have key : ∀ (n m : Nat) (w4 : Value), m + n = 6 → fl_dn fB199 (141, [.ref 81, .long (lq_199_141 l1 M m), .null, .int (Int32.ofNat m), w4], [], M, J) r := by
    intro n
    induction n with
    | zero =>
      intro m w4 hm
      have hm : m = 6 := by omega
      have hn : ¬ ((Int32.ofNat m) < 6) := fun z => by have z := (fi_lt (by omega)).mp z; omega
      exact ts_199_141 (Int32.ofNat m) (lq_199_141 l1 M m) w4 M J (fun h1 u153 => absurd h1 hn) (fun h1 => (by have e : lr_199_141 l1 M = lq_199_141 l1 M m := (by show lq_199_141 l1 M (6) = _; rw [← hm]); rw [e] at hx; exact hx _ _))
    | succ n ih =>
      intro m w4 hm
      have hp : (Int32.ofNat m) < 6 := by exact (fi_lt (by omega)).mpr (by omega)
      refine ts_199_141 (Int32.ofNat m) (lq_199_141 l1 M m) w4 M J (fun h1 u153 => ?_) (fun h1 => absurd hp h1)
      · have e : lq_199_141 l1 M (m + 1) = (lr_199_164 (Int32.ofNat m) ((31 * (lq_199_141 l1 M m)) + ((M 87 (Int32.ofNat m).toNatClampNeg).toInt64)) M) := by
          rw [lqs_199_141]
          unfold ls_199_141
          rfl
        have q := ih (m + 1) u153 (by omega)
        rw [e] at q
        first | (rw [fi_s]; exact q) | (rw [← fi_s] at q; exact q) | (simp only [fi_s] at q ⊢; exact q)
  exact key (6) 0 u4 (Nat.zero_add _)
-- MiceRegistersModel.digest 231
def ls_199_231 (i3 : Int32) (M : fl_M) (m : Nat) (q : Int64) : Int64 := ((31 * q) + ((M 90 (((60 * i3) + (Int32.ofNat m)).toNatClampNeg)).toInt64))
def lq_199_231 (i3 : Int32) (l1 : Int64) (M : fl_M) (m : Nat) : Int64 := fx_it (ls_199_231 i3 M) m l1
theorem lqs_199_231 (i3 : Int32) (l1 : Int64) (M : fl_M) (m : Nat) : lq_199_231 i3 l1 M (m + 1) = (ls_199_231 i3 M) m (lq_199_231 i3 l1 M m) := by
  unfold lq_199_231
  exact fx_it_s _ _ _
def lr_199_231 (i3 : Int32) (l1 : Int64) (M : fl_M) : Int64 := (lq_199_231 i3 l1 M (((M 89 i3.toNatClampNeg)).toNatClampNeg))
set_option maxRecDepth 8000 in
theorem ts_199_231 {r : fl_Q} (i3 i4 : Int32) (l1 : Int64) (M : fl_M) (J : fl_J) (q1 : (i4 < (M 89 i3.toNatClampNeg)) → fl_dn fB199 (231, [.ref 81, .long ((31 * l1) + ((M 90 (((60 * i3) + i4).toNatClampNeg)).toInt64)), .null, .int i3, .int (i4 + 1)], [], M, J) r) (q2 : (¬ (i4 < (M 89 i3.toNatClampNeg))) → fl_dn fB199 (268, [.ref 81, .long l1, .null, .int i3, .int i4], [], M, J) r) : fl_dn fB199 (231, [.ref 81, .long l1, .null, .int i3, .int i4], [], M, J) r :=
 fl_td (s' := (239, [.ref 81, .long l1, .null, .int i3, .int i4], [.int (M 89 i3.toNatClampNeg), .int i4], M, J)) (fl_n 5 rfl) <|
 fl_dnot (fl_ic (t := 268) rfl rfl) fl_nlt (fun h1 =>
  fl_td (s' := (231, [.ref 81, .long ((31 * l1) + ((M 90 (((60 * i3) + i4).toNatClampNeg)).toInt64)), .null, .int i3, .int (i4 + 1)], [], M, J)) (fl_n 16 rfl) <|
  (q1 h1)) (fun h1 =>
  (q2 h1))
theorem lp_199_231 {r : fl_Q} (i3 : Int32) (l1 : Int64) (M : fl_M) (J : fl_J) (hx : ∀ w4 : Value, fl_dn fB199 (268, [.ref 81, .long (lr_199_231 i3 l1 M), .null, .int i3, w4], [], M, J) r) : fl_dn fB199 (231, [.ref 81, .long l1, .null, .int i3, .int 0], [], M, J) r := by
  have hb := fi_bd (M 89 i3.toNatClampNeg)
  have key : ∀ (n m : Nat), m + n = ((M 89 i3.toNatClampNeg)).toNatClampNeg → fl_dn fB199 (231, [.ref 81, .long (lq_199_231 i3 l1 M m), .null, .int i3, .int (Int32.ofNat m)], [], M, J) r := by
    intro n
    induction n with
    | zero =>
      intro m hm
      have hm : m = ((M 89 i3.toNatClampNeg)).toNatClampNeg := by omega
      have hn : ¬ ((Int32.ofNat m) < (M 89 i3.toNatClampNeg)) := fun z => by have z := (fi_lt (by omega)).mp z; omega
      exact ts_199_231 i3 (Int32.ofNat m) (lq_199_231 i3 l1 M m) M J (fun h1 => absurd h1 hn) (fun h1 => (by have e : lr_199_231 i3 l1 M = lq_199_231 i3 l1 M m := (by show lq_199_231 i3 l1 M (((M 89 i3.toNatClampNeg)).toNatClampNeg) = _; rw [← hm]); rw [e] at hx; exact hx _))
    | succ n ih =>
      intro m hm
      have hp : (Int32.ofNat m) < (M 89 i3.toNatClampNeg) := by exact (fi_lt (by omega)).mpr (by omega)
      refine ts_199_231 i3 (Int32.ofNat m) (lq_199_231 i3 l1 M m) M J (fun h1 => ?_) (fun h1 => absurd hp h1)
      · have e : lq_199_231 i3 l1 M (m + 1) = ((31 * (lq_199_231 i3 l1 M m)) + ((M 90 (((60 * i3) + (Int32.ofNat m)).toNatClampNeg)).toInt64)) := by
          rw [lqs_199_231]
          unfold ls_199_231
          rfl
        have q := ih (m + 1) (by omega)
        rw [e] at q
        first | (rw [fi_s]; exact q) | (rw [← fi_s] at q; exact q) | (simp only [fi_s] at q ⊢; exact q)
  exact key (((M 89 i3.toNatClampNeg)).toNatClampNeg) 0 (Nat.zero_add _)
-- MiceRegistersModel.digest 209
def ls_199_209 (M : fl_M) (m : Nat) (q : Int64) : Int64 := (lr_199_231 (Int32.ofNat m) ((31 * q) + ((M 89 (Int32.ofNat m).toNatClampNeg).toInt64)) M)
def lq_199_209 (l1 : Int64) (M : fl_M) (m : Nat) : Int64 := fx_it (ls_199_209 M) m l1
theorem lqs_199_209 (l1 : Int64) (M : fl_M) (m : Nat) : lq_199_209 l1 M (m + 1) = (ls_199_209 M) m (lq_199_209 l1 M m) := by
  unfold lq_199_209
  exact fx_it_s _ _ _
def lr_199_209 (l1 : Int64) (M : fl_M) : Int64 := (lq_199_209 l1 M (4))
set_option maxRecDepth 8000 in
theorem ts_199_209 {r : fl_Q} (i3 : Int32) (l1 : Int64) (u4 : Value) (M : fl_M) (J : fl_J) (q1 : (i3 < 4) → ∀ u158 : Value, fl_dn fB199 (209, [.ref 81, .long (lr_199_231 i3 ((31 * l1) + ((M 89 i3.toNatClampNeg).toInt64)) M), .null, .int (i3 + 1), u158], [], M, J) r) (q2 : (¬ (i3 < 4)) → fl_dn fB199 (274, [.ref 81, .long l1, .null, .int i3, u4], [], M, J) r) : fl_dn fB199 (209, [.ref 81, .long l1, .null, .int i3, u4], [], M, J) r :=
 fl_td (s' := (211, [.ref 81, .long l1, .null, .int i3, u4], [.int 4, .int i3], M, J)) (fl_n 2 rfl) <|
 fl_dnot (fl_ic (t := 274) rfl rfl) fl_nlt (fun h1 =>
  fl_td (s' := (231, [.ref 81, .long ((31 * l1) + ((M 89 i3.toNatClampNeg).toInt64)), .null, .int i3, .int 0], [], M, J)) (fl_n 12 rfl) <|
  lp_199_231 i3 ((31 * l1) + ((M 89 i3.toNatClampNeg).toInt64)) M J (fun u158 =>
   fx_gen (p := fun (LL159 : Int64) => fl_dn fB199 (268, [.ref 81, .long LL159, .null, .int i3, u158], [], M, J) r) (lr_199_231 i3 ((31 * l1) + ((M 89 i3.toNatClampNeg).toInt64)) M) (fun LL159 eLL159 =>
    fl_td (s' := (209, [.ref 81, .long LL159, .null, .int (i3 + 1), u158], [], M, J)) (fl_n 2 rfl) <|
    (by subst eLL159; exact (q1 h1 u158))))) (fun h1 =>
  (q2 h1))
