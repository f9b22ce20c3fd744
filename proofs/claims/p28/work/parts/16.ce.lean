def fB79 : sm_P := (fun pc => sm_ch sm_t79 pc, sm_Kn 2 11 none, fun x => sm_lk sm_ca2 x, some .long)
-- MiceRegisters.commonDivisor 9
def ls_79_9 (m : Nat) (q : (Int64 × Int64)) : (Int64 × Int64) ⊕ (Int64 × Int64) := (if 0 < q.2 then (.inr (q.2, (q.1 - q.1 / q.2 * q.2))) else (.inl (q.1, q.2)))
def lq_79_9 (l4 l6 : Int64) (m : Nat) : (Int64 × Int64) ⊕ (Int64 × Int64) := fx_ix ls_79_9 m (l4, l6)
theorem lqs_79_9 (l4 l6 : Int64) {m : Nat} {a : (Int64 × Int64)} {v : (Int64 × Int64) ⊕ (Int64 × Int64)} (h : lq_79_9 l4 l6 m = .inr a) (e : ls_79_9 m a = v) : lq_79_9 l4 l6 (m + 1) = v := by
  unfold lq_79_9 at h ⊢
  exact ix_s1 h e
def lr_79_9 (l4 l6 : Int64) : (Int64 × Int64) := fx_ib (lq_79_9 l4 l6 (100))
theorem ts_79_9 {r : fl_Q} (i8 : Int32) (l0 l2 l4 l6 : Int64) (u9 u10 : Value) (M : fl_M) (J : fl_J) (q1 : (0 < l6) → (i8 < 100) → fl_dn fB79 (9, [.long l0, .null, .long l2, .null, .long l6, .null, .long (l4 - l4 / l6 * l6), .null, .int (i8 + 1), .long (l4 - l4 / l6 * l6), u10], [], M, J) r) (q2 : (0 < l6) → (¬ (i8 < 100)) → fl_dn fB79 (44, [.long l0, .null, .long l2, .null, .long l4, .null, .long l6, .null, .int i8, u9, u10], [], M, J) r) (q3 : (¬ (0 < l6)) → fl_dn fB79 (44, [.long l0, .null, .long l2, .null, .long l4, .null, .long l6, .null, .int i8, u9, u10], [], M, J) r) : fl_dn fB79 (9, [.long l0, .null, .long l2, .null, .long l4, .null, .long l6, .null, .int i8, u9, u10], [], M, J) r :=
 fl_td (s' := (13, [.long l0, .null, .long l2, .null, .long l4, .null, .long l6, .null, .int i8, u9, u10], [.int (lg_cmp l6 0)], M, J)) (fl_n 3 rfl) <|
 fl_dnot (fl_if (t := 44) rfl rfl) fl_lle (fun h1 =>
  fl_td (s' := (20, [.long l0, .null, .long l2, .null, .long l4, .null, .long l6, .null, .int i8, u9, u10], [.int 100, .int i8], M, J)) (fl_n 2 rfl) <|
  fl_dnot (fl_ic (t := 44) rfl rfl) fl_nlt (fun h2 =>
   fl_td (s' := (9, [.long l0, .null, .long l2, .null, .long l6, .null, .long (l4 - l4 / l6 * l6), .null, .int (i8 + 1), .long (l4 - l4 / l6 * l6), u10], [], M, J)) (fl_n 10 rfl) <|
   (q1 h1 h2)) (fun h2 =>
   (q2 h1 h2))) (fun h1 =>
  (q3 h1))
theorem lp_79_9 {r : fl_Q} (l0 l2 l4 l6 : Int64) (u9 u10 : Value) (M : fl_M) (J : fl_J) (hx : ∀ w8 w9 : Value, fl_dn fB79 (44, [.long l0, .null, .long l2, .null, .long ((lr_79_9 l4 l6).1), .null, .long ((lr_79_9 l4 l6).2), .null, w8, w9, u10], [], M, J) r) : fl_dn fB79 (9, [.long l0, .null, .long l2, .null, .long l4, .null, .long l6, .null, .int 0, u9, u10], [], M, J) r := by
  have hb : (100 : Int32).toNatClampNeg = 100 := rfl
  have key : ∀ (n m : Nat) (w9 : Value) (a : (Int64 × Int64)) (ha : lq_79_9 l4 l6 m = .inr a), m + n = 100 → fl_dn fB79 (9, [.long l0, .null, .long l2, .null, .long a.1, .null, .long a.2, .null, .int (Int32.ofNat m), w9, u10], [], M, J) r := by
    intro n
    induction n with
    | zero =>
      intro m w9 a ha hm
      have hm : m = 100 := by omega
      have hn : ¬ ((Int32.ofNat m) < 100) := fun z => by have z := (fi_lt (by omega)).mp z; omega
      exact ts_79_9 (Int32.ofNat m) l0 l2 a.1 a.2 w9 u10 M J (fun h1 h2 => absurd h2 hn) (fun h1 h2 => (by have e : lr_79_9 l4 l6 = a := (by show fx_ib (lq_79_9 l4 l6 (100)) = _; rw [← hm, ha]; rfl); rw [e] at hx; exact hx _ _)) (fun h1 => (by have e : lr_79_9 l4 l6 = a := (by show fx_ib (lq_79_9 l4 l6 (100)) = _; rw [← hm, ha]; rfl); rw [e] at hx; exact hx _ _))
    | succ n ih =>
      intro m w9 a ha hm
      have hp : (Int32.ofNat m) < 100 := by exact (fi_lt (by omega)).mpr (by omega)
      refine ts_79_9 (Int32.ofNat m) l0 l2 a.1 a.2 w9 u10 M J (fun h1 h2 => ?_) (fun h1 h2 => absurd hp h2) (fun h1 => ?_)
      · have e : lq_79_9 l4 l6 (m + 1) = .inr (a.2, (a.1 - a.1 / a.2 * a.2)) := lqs_79_9 l4 l6 ha (by
          show ls_79_9 m a = _
          unfold ls_79_9
          simp only [if_pos h1])
        have q := ih (m + 1) (.long (a.1 - a.1 / a.2 * a.2)) _ e (by omega)
        first | (rw [fi_s]; exact q) | (rw [← fi_s] at q; exact q) | (simp only [fi_s] at q ⊢; exact q)
      · have e : lq_79_9 l4 l6 (m + 1) = .inl (a.1, a.2) := lqs_79_9 l4 l6 ha (by
          show ls_79_9 m a = _
          unfold ls_79_9
          simp only [if_neg h1])
        have e : lq_79_9 l4 l6 (100) = .inl (a.1, a.2) := ix_l e (by omega)
        have e2 : lr_79_9 l4 l6 = (a.1, a.2) := (by show fx_ib (lq_79_9 l4 l6 (100)) = _; rw [e]; rfl)
        rw [e2] at hx
        exact hx _ _
  exact key (100) 0 u9 _ rfl (Nat.zero_add _)
theorem cc_79 (M : fl_M) (J : fl_J) (a b : Int64) : fl_C 79 [.long a, .long b] M J (some (.long ((lr_79_9 a b).1)), M, J) :=
 fl_Co (B := fB79) rfl rfl <|
 fl_td (s' := (9, [.long a, .null, .long b, .null, .long a, .null, .long b, .null, .int 0, .null, .null], [], M, J)) (fl_n 6 rfl) <|
 lp_79_9 a b a b .null .null M J (fun u230 u231 =>
  fx_gen (p := fun (LL232 : Int64) => fl_dn fB79 (44, [.long a, .null, .long b, .null, .long LL232, .null, .long ((lr_79_9 a b).2), .null, u230, u231, .null], [], M, J) (some (.long ((lr_79_9 a b).1)), M, J)) ((lr_79_9 a b).1) (fun LL232 eLL232 =>
   fx_gen (p := fun (LL233 : Int64) => fl_dn fB79 (44, [.long a, .null, .long b, .null, .long LL232, .null, .long LL233, .null, u230, u231, .null], [], M, J) (some (.long ((lr_79_9 a b).1)), M, J)) ((lr_79_9 a b).2) (fun LL233 eLL233 =>
    fl_td (s' := (46, [.long a, .null, .long b, .null, .long LL232, .null, .long LL233, .null, u230, u231, .null], [.long LL232], M, J)) (fl_n 1 rfl) <|
    fl_rt rfl (fun _ => rfl) (by subst eLL232; subst eLL233; rfl))))
def fB78 : sm_P := (fun pc => sm_ch sm_t78 pc, sm_Kn 2 7 none, fun x => sm_lk sm_ca2 x, none)
def j_78 (a b : Int64) (J : fl_J) : fl_J := (if 0 < ((lr_79_9 a b).1) then (fl_w (fl_w J 0 13 (a / ((lr_79_9 a b).1))) 0 14 (b / ((lr_79_9 a b).1))) else J)
theorem cc_78 (M : fl_M) (J : fl_J) (a b : Int64) : fl_C 78 [.ref 0, .long a, .long b] M J (none, M, (j_78 a b J)) :=
 fl_Co (B := fB78) rfl rfl <|
 fl_td (s' := (2, [.ref 0, .long a, .null, .long b, .null, .null, .null], [.long b, .long a], M, J)) (fl_n 2 rfl) <|
 fl_td (s' := (5, [.ref 0, .long a, .null, .long b, .null, .null, .null], [.long ((lr_79_9 a b).1)], M, J)) (fl_cs (o := some (.long ((lr_79_9 a b).1))) rfl rfl rfl (cc_79 M J a b) rfl) <|
 fx_gen (p := fun (LL234 : Int64) => fl_dn fB78 (5, [.ref 0, .long a, .null, .long b, .null, .null, .null], [.long LL234], M, J) (none, M, (j_78 a b J))) ((lr_79_9 a b).1) (fun LL234 eLL234 =>
  fl_td (s' := (11, [.ref 0, .long a, .null, .long b, .null, .long LL234, .null], [.int (lg_cmp LL234 0)], M, J)) (fl_n 4 rfl) <|
  fl_dnot (fl_if (t := 30) rfl rfl) fl_lle (fun h1 =>
   fl_td (s' := (30, [.ref 0, .long a, .null, .long b, .null, .long LL234, .null], [], M, (fl_w (fl_w J 0 13 (a / LL234)) 0 14 (b / LL234)))) (fl_n 10 rfl) <|
   fl_rt rfl (fun _ => rfl) (by subst eLL234; unfold j_78; first | (simp only [if_pos h1]; done) | rfl)) (fun h1 =>
   fl_rt rfl (fun _ => rfl) (by subst eLL234; unfold j_78; first | (simp only [if_neg h1]; done) | rfl)))
def fB76 : sm_P := (fun pc => sm_ch sm_t76 pc, sm_Kn 2 5 none, fun x => sm_lk sm_ca2 x, some .int)
-- MiceRegisters.sets 34
def ls_76_34 (i1 : Int32) (M : fl_M) (m : Nat) (q : (Int32 × Int32)) : (Int32 × Int32) := (if (lr_77_4 (Int32.ofNat m) 0 15 M) = i1 then (if q.2 = (-9) then ((q.1 + 1), (Int32.ofNat m)) else ((q.1 + 1), q.2)) else (q.1, q.2))
def lq_76_34 (i1 i2 i3 : Int32) (M : fl_M) (m : Nat) : (Int32 × Int32) := fx_it (ls_76_34 i1 M) m (i2, i3)
theorem lqs_76_34 (i1 i2 i3 : Int32) (M : fl_M) (m : Nat) : lq_76_34 i1 i2 i3 M (m + 1) = (ls_76_34 i1 M) m (lq_76_34 i1 i2 i3 M m) := by
  unfold lq_76_34
  exact fx_it_s _ _ _
def lr_76_34 (i1 i2 i3 : Int32) (M : fl_M) : (Int32 × Int32) := (lq_76_34 i1 i2 i3 M ((((1 : Int32) <<< ((M 15 0) &&& 31))).toNatClampNeg))
theorem ts_76_34 {r : fl_Q} (i1 i2 i3 i4 : Int32) (M : fl_M) (J : fl_J) (q1 : (i4 < ((1 : Int32) <<< ((M 15 0) &&& 31))) → ((lr_77_4 i4 0 15 M) = i1) → (i3 = (-9)) → fl_dn fB76 (34, [.ref 0, .int i1, .int (i2 + 1), .int i4, .int (i4 + 1)], [], M, J) r) (q2 : (i4 < ((1 : Int32) <<< ((M 15 0) &&& 31))) → ((lr_77_4 i4 0 15 M) = i1) → (¬ (i3 = (-9))) → fl_dn fB76 (34, [.ref 0, .int i1, .int (i2 + 1), .int i3, .int (i4 + 1)], [], M, J) r) (q3 : (i4 < ((1 : Int32) <<< ((M 15 0) &&& 31))) → (¬ ((lr_77_4 i4 0 15 M) = i1)) → fl_dn fB76 (34, [.ref 0, .int i1, .int i2, .int i3, .int (i4 + 1)], [], M, J) r) (q4 : (¬ (i4 < ((1 : Int32) <<< ((M 15 0) &&& 31)))) → fl_dn fB76 (83, [.ref 0, .int i1, .int i2, .int i3, .int i4], [], M, J) r) : fl_dn fB76 (34, [.ref 0, .int i1, .int i2, .int i3, .int i4], [], M, J) r :=
 fl_td (s' := (45, [.ref 0, .int i1, .int i2, .int i3, .int i4], [.int ((1 : Int32) <<< ((M 15 0) &&& 31)), .int i4], M, J)) (fl_n 6 rfl) <|
 fl_dnot (fl_ic (t := 83) rfl rfl) fl_nlt (fun h1 =>
  fl_td (s' := (54, [.ref 0, .int i1, .int i2, .int i3, .int i4], [.int i4, .ref 15], M, J)) (fl_n 3 rfl) <|
  fl_td (s' := (57, [.ref 0, .int i1, .int i2, .int i3, .int i4], [.int (lr_77_4 i4 0 15 M)], M, J)) (fl_cv (o := some (.int (lr_77_4 i4 0 15 M))) rfl rfl rfl rfl (cc_77 M J i4 15) rfl) <|
  fx_gen (p := fun (II235 : Int32) => fl_dn fB76 (57, [.ref 0, .int i1, .int i2, .int i3, .int i4], [.int II235], M, J) r) (lr_77_4 i4 0 15 M) (fun II235 eII235 =>
   fl_td (s' := (58, [.ref 0, .int i1, .int i2, .int i3, .int i4], [.int i1, .int II235], M, J)) (fl_n 1 rfl) <|
   fl_dnot (fl_ic (t := 77) rfl rfl) fl_cF (fun h2 =>
    fl_td (s' := (67, [.ref 0, .int i1, .int (i2 + 1), .int i3, .int i4], [.int (-9), .int i3], M, J)) (fl_n 3 rfl) <|
    fl_dnot (fl_ic (t := 75) rfl rfl) fl_cF (fun h3 =>
     fl_td (s' := (34, [.ref 0, .int i1, .int (i2 + 1), .int i4, .int (i4 + 1)], [], M, J)) (fl_n 5 rfl) <|
     (by subst eII235; exact (q1 h1 h2 h3))) (fun h3 =>
     fl_td (s' := (34, [.ref 0, .int i1, .int (i2 + 1), .int i3, .int (i4 + 1)], [], M, J)) (fl_n 4 rfl) <|
     (by subst eII235; exact (q2 h1 h2 h3)))) (fun h2 =>
    fl_td (s' := (34, [.ref 0, .int i1, .int i2, .int i3, .int (i4 + 1)], [], M, J)) (fl_n 2 rfl) <|
    (by subst eII235; exact (q3 h1 h2))))) (fun h1 =>
  (q4 h1))
theorem lp_76_34 {r : fl_Q} (i1 i2 i3 : Int32) (M : fl_M) (J : fl_J) (hx : ∀ w4 : Value, fl_dn fB76 (83, [.ref 0, .int i1, .int ((lr_76_34 i1 i2 i3 M).1), .int ((lr_76_34 i1 i2 i3 M).2), w4], [], M, J) r) : fl_dn fB76 (34, [.ref 0, .int i1, .int i2, .int i3, .int 0], [], M, J) r := by
  have hb := fi_bd ((1 : Int32) <<< ((M 15 0) &&& 31))
  have key : ∀ (n m : Nat), m + n = (((1 : Int32) <<< ((M 15 0) &&& 31))).toNatClampNeg → fl_dn fB76 (34, [.ref 0, .int i1, .int ((lq_76_34 i1 i2 i3 M m).1), .int ((lq_76_34 i1 i2 i3 M m).2), .int (Int32.ofNat m)], [], M, J) r := by
    intro n
    induction n with
    | zero =>
      intro m hm
      have hm : m = (((1 : Int32) <<< ((M 15 0) &&& 31))).toNatClampNeg := by omega
      have hn : ¬ ((Int32.ofNat m) < ((1 : Int32) <<< ((M 15 0) &&& 31))) := fun z => by have z := (fi_lt (by omega)).mp z; omega
      exact ts_76_34 i1 ((lq_76_34 i1 i2 i3 M m).1) ((lq_76_34 i1 i2 i3 M m).2) (Int32.ofNat m) M J (fun h1 h2 h3 => absurd h1 hn) (fun h1 h2 h3 => absurd h1 hn) (fun h1 h2 => absurd h1 hn) (fun h1 => (by have e : lr_76_34 i1 i2 i3 M = lq_76_34 i1 i2 i3 M m := (by show lq_76_34 i1 i2 i3 M ((((1 : Int32) <<< ((M 15 0) &&& 31))).toNatClampNeg) = _; rw [← hm]); rw [e] at hx; exact hx _))
    | succ n ih =>
      intro m hm
      have hp : (Int32.ofNat m) < ((1 : Int32) <<< ((M 15 0) &&& 31)) := by exact (fi_lt (by omega)).mpr (by omega)
      refine ts_76_34 i1 ((lq_76_34 i1 i2 i3 M m).1) ((lq_76_34 i1 i2 i3 M m).2) (Int32.ofNat m) M J (fun h1 h2 h3 => ?_) (fun h1 h2 h3 => ?_) (fun h1 h2 => ?_) (fun h1 => absurd hp h1)
      · have e : lq_76_34 i1 i2 i3 M (m + 1) = ((((lq_76_34 i1 i2 i3 M m).1) + 1), (Int32.ofNat m)) := by
          rw [lqs_76_34]
          unfold ls_76_34
          simp only [if_pos h2, if_pos h3]
        have q := ih (m + 1) (by omega)
        rw [e] at q
        first | (rw [fi_s]; exact q) | (rw [← fi_s] at q; exact q) | (simp only [fi_s] at q ⊢; exact q)
      · have e : lq_76_34 i1 i2 i3 M (m + 1) = ((((lq_76_34 i1 i2 i3 M m).1) + 1), ((lq_76_34 i1 i2 i3 M m).2)) := by
          rw [lqs_76_34]
          unfold ls_76_34
          simp only [if_pos h2, if_neg h3]
        have q := ih (m + 1) (by omega)
        rw [e] at q
        first | (rw [fi_s]; exact q) | (rw [← fi_s] at q; exact q) | (simp only [fi_s] at q ⊢; exact q)
      · have e : lq_76_34 i1 i2 i3 M (m + 1) = (((lq_76_34 i1 i2 i3 M m).1), ((lq_76_34 i1 i2 i3 M m).2)) := by
          rw [lqs_76_34]
          unfold ls_76_34
          simp only [if_neg h2]
        have q := ih (m + 1) (by omega)
        rw [e] at q
        first | (rw [fi_s]; exact q) | (rw [← fi_s] at q; exact q) | (simp only [fi_s] at q ⊢; exact q)
  exact key ((((1 : Int32) <<< ((M 15 0) &&& 31))).toNatClampNeg) 0 (Nat.zero_add _)
def v_76 (v : Int32) (M : fl_M) : Int32 := (if v < 0 then (-1) else (if 320 < v then (-1) else (if (M 15 1) = 0 then (-4) else 1)))
def m_76 (v : Int32) (M : fl_M) : fl_M := (if v < 0 then M else (if 320 < v then M else (if (M 15 1) = 0 then M else (fl_u M 0 12 ((lr_76_34 v 0 (-9) M).2)))))
def j_76 (v : Int32) (M : fl_M) (J : fl_J) : fl_J := (if v < 0 then J else (if 320 < v then J else (if (M 15 1) = 0 then J else (j_78 ((lr_76_34 v 0 (-9) M).1).toInt64 1 J))))
theorem cc_76 (M : fl_M) (J : fl_J) (v : Int32) : fl_C 76 [.ref 0, .int v] M J (some (.int (v_76 v M)), (m_76 v M), (j_76 v M J)) :=
 fl_Co (B := fB76) rfl rfl <|
 fl_td (s' := (1, [.ref 0, .int v, .null, .null, .null], [.int v], M, J)) (fl_n 1 rfl) <|
 fl_dtwo (fl_if (t := 11) rfl rfl) fl_cT (fun h1 =>
  fl_td (s' := (12, [.ref 0, .int v, .null, .null, .null], [.int (-1)], M, J)) (fl_n 1 rfl) <|
  fl_rt rfl (fun _ => rfl) (by unfold v_76 m_76 j_76; first | (simp only [if_pos h1]; done) | rfl)) (fun h1 =>
  fl_td (s' := (8, [.ref 0, .int v, .null, .null, .null], [.int 320, .int v], M, J)) (fl_n 2 rfl) <|
  fl_dnot (fl_ic (t := 13) rfl rfl) fl_nle (fun h2 =>
   fl_td (s' := (12, [.ref 0, .int v, .null, .null, .null], [.int (-1)], M, J)) (fl_n 1 rfl) <|
   fl_rt rfl (fun _ => rfl) (by unfold v_76 m_76 j_76; first | (simp only [if_neg h1, if_pos h2]; done) | rfl)) (fun h2 =>
   fl_td (s' := (20, [.ref 0, .int v, .null, .null, .null], [.int (M 15 1)], M, J)) (fl_n 3 rfl) <|
   fl_dnot (fl_if (t := 26) rfl rfl) fl_cF (fun h3 =>
    fl_td (s' := (25, [.ref 0, .int v, .null, .null, .null], [.int (-4)], M, J)) (fl_n 1 rfl) <|
    fl_rt rfl (fun _ => rfl) (by unfold v_76 m_76 j_76; first | (simp only [if_neg h1, if_neg h2, if_pos h3]; done) | rfl)) (fun h3 =>
    fl_td (s' := (34, [.ref 0, .int v, .int 0, .int (-9), .int 0], [], M, J)) (fl_n 6 rfl) <|
    lp_76_34 v 0 (-9) M J (fun u236 =>
     fx_gen (p := fun (II237 : Int32) => fl_dn fB76 (83, [.ref 0, .int v, .int II237, .int ((lr_76_34 v 0 (-9) M).2), u236], [], M, J) (some (.int (v_76 v M)), (m_76 v M), (j_76 v M J))) ((lr_76_34 v 0 (-9) M).1) (fun II237 eII237 =>
      fx_gen (p := fun (II238 : Int32) => fl_dn fB76 (83, [.ref 0, .int v, .int II237, .int II238, u236], [], M, J) (some (.int (v_76 v M)), (m_76 v M), (j_76 v M J))) ((lr_76_34 v 0 (-9) M).2) (fun II238 eII238 =>
       fl_td (s' := (87, [.ref 0, .int v, .int II237, .int II238, u236], [.long 1, .long II237.toInt64, .ref 0], M, J)) (fl_n 4 rfl) <|
       fl_td (s' := (90, [.ref 0, .int v, .int II237, .int II238, u236], [], M, (j_78 II237.toInt64 1 J))) (fl_cv (o := none) rfl rfl rfl rfl (cc_78 M J II237.toInt64 1) rfl) <|
       fl_td (s' := (92, [.ref 0, .int v, .int II237, .int II238, u236], [.int II238, .ref 0], M, (j_78 II237.toInt64 1 J))) (fl_n 2 rfl) <|
       fl_td (s' := (95, [.ref 0, .int v, .int II237, .int II238, u236], [.int 1], (fl_u M 0 12 II238), (j_78 II237.toInt64 1 J))) (fl_cv (o := some (.int 1)) rfl rfl rfl rfl (cc_5 M (j_78 II237.toInt64 1 J) II238) rfl) <|
       fl_rt rfl (fun _ => rfl) (by subst eII237; subst eII238; unfold v_76 m_76 j_76; first | (simp only [if_neg h1, if_neg h2, if_neg h3]; done) | rfl)))))))
def fB80 : sm_P := (fun pc => sm_ch sm_t80 pc, sm_Kn 2 7 none, fun x => sm_lk sm_ca2 x, some .int)
-- MiceRegisters.sure 49
def ls_80_49 (i1 : Int32) (M : fl_M) (m : Nat) (q : (Int32 × Int32 × Int32)) : (Int32 × Int32 × Int32) := (if (lr_77_4 (Int32.ofNat m) 0 15 M) = i1 then ((q.1 &&& (Int32.ofNat m)), (q.2.1 ||| (Int32.ofNat m)), 0) else (q.1, q.2.1, q.2.2))
def lq_80_49 (i1 i3 i4 i5 : Int32) (M : fl_M) (m : Nat) : (Int32 × Int32 × Int32) := fx_it (ls_80_49 i1 M) m (i3, i4, i5)
theorem lqs_80_49 (i1 i3 i4 i5 : Int32) (M : fl_M) (m : Nat) : lq_80_49 i1 i3 i4 i5 M (m + 1) = (ls_80_49 i1 M) m (lq_80_49 i1 i3 i4 i5 M m) := by
  unfold lq_80_49
  exact fx_it_s _ _ _
def lr_80_49 (i1 i2 i3 i4 i5 : Int32) (M : fl_M) : (Int32 × Int32 × Int32) := (lq_80_49 i1 i3 i4 i5 M ((i2).toNatClampNeg + 1))
theorem ts_80_49 {r : fl_Q} (i1 i2 i3 i4 i5 i6 : Int32) (M : fl_M) (J : fl_J) (q1 : (i2 < i6) → fl_dn fB80 (89, [.ref 0, .int i1, .int i2, .int i3, .int i4, .int i5, .int i6], [], M, J) r) (q2 : (¬ (i2 < i6)) → ((lr_77_4 i6 0 15 M) = i1) → fl_dn fB80 (49, [.ref 0, .int i1, .int i2, .int (i3 &&& i6), .int (i4 ||| i6), .int 0, .int (i6 + 1)], [], M, J) r) (q3 : (¬ (i2 < i6)) → (¬ ((lr_77_4 i6 0 15 M) = i1)) → fl_dn fB80 (49, [.ref 0, .int i1, .int i2, .int i3, .int i4, .int i5, .int (i6 + 1)], [], M, J) r) : fl_dn fB80 (49, [.ref 0, .int i1, .int i2, .int i3, .int i4, .int i5, .int i6], [], M, J) r :=
 fl_td (s' := (52, [.ref 0, .int i1, .int i2, .int i3, .int i4, .int i5, .int i6], [.int i2, .int i6], M, J)) (fl_n 2 rfl) <|
 fl_dtwo (fl_ic (t := 89) rfl rfl) fl_cT (fun h1 =>
  (q1 h1)) (fun h1 =>
  fl_td (s' := (61, [.ref 0, .int i1, .int i2, .int i3, .int i4, .int i5, .int i6], [.int i6, .ref 15], M, J)) (fl_n 3 rfl) <|
  fl_td (s' := (64, [.ref 0, .int i1, .int i2, .int i3, .int i4, .int i5, .int i6], [.int (lr_77_4 i6 0 15 M)], M, J)) (fl_cv (o := some (.int (lr_77_4 i6 0 15 M))) rfl rfl rfl rfl (cc_77 M J i6 15) rfl) <|
  fx_gen (p := fun (II239 : Int32) => fl_dn fB80 (64, [.ref 0, .int i1, .int i2, .int i3, .int i4, .int i5, .int i6], [.int II239], M, J) r) (lr_77_4 i6 0 15 M) (fun II239 eII239 =>
   fl_td (s' := (65, [.ref 0, .int i1, .int i2, .int i3, .int i4, .int i5, .int i6], [.int i1, .int II239], M, J)) (fl_n 1 rfl) <|
   fl_dnot (fl_ic (t := 83) rfl rfl) fl_cF (fun h2 =>
    fl_td (s' := (49, [.ref 0, .int i1, .int i2, .int (i3 &&& i6), .int (i4 ||| i6), .int 0, .int (i6 + 1)], [], M, J)) (fl_n 12 rfl) <|
    (by subst eII239; exact (q2 h1 h2))) (fun h2 =>
    fl_td (s' := (49, [.ref 0, .int i1, .int i2, .int i3, .int i4, .int i5, .int (i6 + 1)], [], M, J)) (fl_n 2 rfl) <|
    (by subst eII239; exact (q3 h1 h2)))))
theorem lp_80_49 {r : fl_Q} (i1 i2 i3 i4 i5 : Int32) (M : fl_M) (J : fl_J) (hi0 : 0 ≤ i2.toInt) (hbig : i2.toNatClampNeg < 2147483647) (hx : ∀ w6 : Value, fl_dn fB80 (89, [.ref 0, .int i1, .int i2, .int ((lr_80_49 i1 i2 i3 i4 i5 M).1), .int ((lr_80_49 i1 i2 i3 i4 i5 M).2.1), .int ((lr_80_49 i1 i2 i3 i4 i5 M).2.2), w6], [], M, J) r) : fl_dn fB80 (49, [.ref 0, .int i1, .int i2, .int i3, .int i4, .int i5, .int 0], [], M, J) r := by
  have hb := fi_bd i2
  have key : ∀ (n m : Nat), m + n = (i2).toNatClampNeg + 1 → fl_dn fB80 (49, [.ref 0, .int i1, .int i2, .int ((lq_80_49 i1 i3 i4 i5 M m).1), .int ((lq_80_49 i1 i3 i4 i5 M m).2.1), .int ((lq_80_49 i1 i3 i4 i5 M m).2.2), .int (Int32.ofNat m)], [], M, J) r := by
    intro n
    induction n with
    | zero =>
      intro m hm
      have hm : m = (i2).toNatClampNeg + 1 := by omega
      have hn : i2 < (Int32.ofNat m) := by exact (fi_gt hi0 (by omega)).mpr (by omega)
      exact ts_80_49 i1 i2 ((lq_80_49 i1 i3 i4 i5 M m).1) ((lq_80_49 i1 i3 i4 i5 M m).2.1) ((lq_80_49 i1 i3 i4 i5 M m).2.2) (Int32.ofNat m) M J (fun h1 => (by have e : lr_80_49 i1 i2 i3 i4 i5 M = lq_80_49 i1 i3 i4 i5 M m := (by show lq_80_49 i1 i3 i4 i5 M ((i2).toNatClampNeg + 1) = _; rw [← hm]); rw [e] at hx; exact hx _)) (fun h1 h2 => absurd hn h1) (fun h1 h2 => absurd hn h1)
    | succ n ih =>
      intro m hm
      have hp : ¬ (i2 < (Int32.ofNat m)) := fun z => by have z := (fi_gt hi0 (by omega)).mp z; omega
      refine ts_80_49 i1 i2 ((lq_80_49 i1 i3 i4 i5 M m).1) ((lq_80_49 i1 i3 i4 i5 M m).2.1) ((lq_80_49 i1 i3 i4 i5 M m).2.2) (Int32.ofNat m) M J (fun h1 => absurd h1 hp) (fun h1 h2 => ?_) (fun h1 h2 => ?_)
      · have e : lq_80_49 i1 i3 i4 i5 M (m + 1) = ((((lq_80_49 i1 i3 i4 i5 M m).1) &&& (Int32.ofNat m)), (((lq_80_49 i1 i3 i4 i5 M m).2.1) ||| (Int32.ofNat m)), 0) := by
          rw [lqs_80_49]
          unfold ls_80_49
          simp only [if_pos h2]
        have q := ih (m + 1) (by omega)
        rw [e] at q
        first | (rw [fi_s]; exact q) | (rw [← fi_s] at q; exact q) | (simp only [fi_s] at q ⊢; exact q)
      · have e : lq_80_49 i1 i3 i4 i5 M (m + 1) = (((lq_80_49 i1 i3 i4 i5 M m).1), ((lq_80_49 i1 i3 i4 i5 M m).2.1), ((lq_80_49 i1 i3 i4 i5 M m).2.2)) := by
          rw [lqs_80_49]
          unfold ls_80_49
          simp only [if_neg h2]
        have q := ih (m + 1) (by omega)
        rw [e] at q
        first | (rw [fi_s]; exact q) | (rw [← fi_s] at q; exact q) | (simp only [fi_s] at q ⊢; exact q)
  exact key ((i2).toNatClampNeg + 1) 0 (Nat.zero_add _)
def v_80 (v : Int32) (M : fl_M) : Int32 := (if v < 0 then (-1) else (if 320 < v then (-1) else (if (M 15 1) = 0 then (-4) else (if ((lr_80_49 v (((1 : Int32) <<< ((M 15 0) &&& 31)) - 1) (((1 : Int32) <<< ((M 15 0) &&& 31)) - 1) 0 1 M).2.2) = 0 then ((lr_80_49 v (((1 : Int32) <<< ((M 15 0) &&& 31)) - 1) (((1 : Int32) <<< ((M 15 0) &&& 31)) - 1) 0 1 M).1) else (-3)))))
def m_80 (v : Int32) (M : fl_M) : fl_M := (if v < 0 then M else (if 320 < v then M else (if (M 15 1) = 0 then M else (if ((lr_80_49 v (((1 : Int32) <<< ((M 15 0) &&& 31)) - 1) (((1 : Int32) <<< ((M 15 0) &&& 31)) - 1) 0 1 M).2.2) = 0 then (fl_u M 0 12 ((((1 : Int32) <<< ((M 15 0) &&& 31)) - 1) &&& (((lr_80_49 v (((1 : Int32) <<< ((M 15 0) &&& 31)) - 1) (((1 : Int32) <<< ((M 15 0) &&& 31)) - 1) 0 1 M).2.1) ^^^ (-1)))) else (fl_u (fl_u M 0 11 4) 80 4 ((M 80 4) + 1))))))
theorem cc_80 (M : fl_M) (J : fl_J) (v : Int32) (h0 : 0 ≤ (((1 : Int32) <<< ((M 15 0) &&& 31)) - 1).toInt) (hbig : (((1 : Int32) <<< ((M 15 0) &&& 31)) - 1).toNatClampNeg < 2147483647) : fl_C 80 [.ref 0, .int v] M J (some (.int (v_80 v M)), (m_80 v M), J) :=
 fl_Co (B := fB80) rfl rfl <|
 fl_td (s' := (1, [.ref 0, .int v, .null, .null, .null, .null, .null], [.int v], M, J)) (fl_n 1 rfl) <|
 fl_dtwo (fl_if (t := 11) rfl rfl) fl_cT (fun h1 =>
  fl_td (s' := (12, [.ref 0, .int v, .null, .null, .null, .null, .null], [.int (-1)], M, J)) (fl_n 1 rfl) <|
  fl_rt rfl (fun _ => rfl) (by unfold v_80 m_80; first | (simp only [if_pos h1]; done) | rfl)) (fun h1 =>
  fl_td (s' := (8, [.ref 0, .int v, .null, .null, .null, .null, .null], [.int 320, .int v], M, J)) (fl_n 2 rfl) <|
  fl_dnot (fl_ic (t := 13) rfl rfl) fl_nle (fun h2 =>
   fl_td (s' := (12, [.ref 0, .int v, .null, .null, .null, .null, .null], [.int (-1)], M, J)) (fl_n 1 rfl) <|
   fl_rt rfl (fun _ => rfl) (by unfold v_80 m_80; first | (simp only [if_neg h1, if_pos h2]; done) | rfl)) (fun h2 =>
   fl_td (s' := (20, [.ref 0, .int v, .null, .null, .null, .null, .null], [.int (M 15 1)], M, J)) (fl_n 3 rfl) <|
   fl_dnot (fl_if (t := 26) rfl rfl) fl_cF (fun h3 =>
    fl_td (s' := (25, [.ref 0, .int v, .null, .null, .null, .null, .null], [.int (-4)], M, J)) (fl_n 1 rfl) <|
    fl_rt rfl (fun _ => rfl) (by unfold v_80 m_80; first | (simp only [if_neg h1, if_neg h2, if_pos h3]; done) | rfl)) (fun h3 =>
    fl_td (s' := (49, [.ref 0, .int v, .int (((1 : Int32) <<< ((M 15 0) &&& 31)) - 1), .int (((1 : Int32) <<< ((M 15 0) &&& 31)) - 1), .int 0, .int 1, .int 0], [], M, J)) (fl_n 16 rfl) <|
    lp_80_49 v (((1 : Int32) <<< ((M 15 0) &&& 31)) - 1) (((1 : Int32) <<< ((M 15 0) &&& 31)) - 1) 0 1 M J h0 hbig (fun u240 =>
     fx_gen (p := fun (II241 : Int32) => fl_dn fB80 (89, [.ref 0, .int v, .int (((1 : Int32) <<< ((M 15 0) &&& 31)) - 1), .int II241, .int ((lr_80_49 v (((1 : Int32) <<< ((M 15 0) &&& 31)) - 1) (((1 : Int32) <<< ((M 15 0) &&& 31)) - 1) 0 1 M).2.1), .int ((lr_80_49 v (((1 : Int32) <<< ((M 15 0) &&& 31)) - 1) (((1 : Int32) <<< ((M 15 0) &&& 31)) - 1) 0 1 M).2.2), u240], [], M, J) (some (.int (v_80 v M)), (m_80 v M), J)) ((lr_80_49 v (((1 : Int32) <<< ((M 15 0) &&& 31)) - 1) (((1 : Int32) <<< ((M 15 0) &&& 31)) - 1) 0 1 M).1) (fun II241 eII241 =>
      fx_gen (p := fun (II242 : Int32) => fl_dn fB80 (89, [.ref 0, .int v, .int (((1 : Int32) <<< ((M 15 0) &&& 31)) - 1), .int II241, .int II242, .int ((lr_80_49 v (((1 : Int32) <<< ((M 15 0) &&& 31)) - 1) (((1 : Int32) <<< ((M 15 0) &&& 31)) - 1) 0 1 M).2.2), u240], [], M, J) (some (.int (v_80 v M)), (m_80 v M), J)) ((lr_80_49 v (((1 : Int32) <<< ((M 15 0) &&& 31)) - 1) (((1 : Int32) <<< ((M 15 0) &&& 31)) - 1) 0 1 M).2.1) (fun II242 eII242 =>
       fx_gen (p := fun (II243 : Int32) => fl_dn fB80 (89, [.ref 0, .int v, .int (((1 : Int32) <<< ((M 15 0) &&& 31)) - 1), .int II241, .int II242, .int II243, u240], [], M, J) (some (.int (v_80 v M)), (m_80 v M), J)) ((lr_80_49 v (((1 : Int32) <<< ((M 15 0) &&& 31)) - 1) (((1 : Int32) <<< ((M 15 0) &&& 31)) - 1) 0 1 M).2.2) (fun II243 eII243 =>
        fl_td (s' := (91, [.ref 0, .int v, .int (((1 : Int32) <<< ((M 15 0) &&& 31)) - 1), .int II241, .int II242, .int II243, u240], [.int II243], M, J)) (fl_n 1 rfl) <|
        fl_dtwo (fl_if (t := 100) rfl rfl) fl_cT (fun h4 =>
         fl_td (s' := (107, [.ref 0, .int v, .int (((1 : Int32) <<< ((M 15 0) &&& 31)) - 1), .int II241, .int II242, .int II243, u240], [.int ((((1 : Int32) <<< ((M 15 0) &&& 31)) - 1) &&& (II242 ^^^ (-1))), .ref 0], M, J)) (fl_n 6 rfl) <|
         fl_td (s' := (110, [.ref 0, .int v, .int (((1 : Int32) <<< ((M 15 0) &&& 31)) - 1), .int II241, .int II242, .int II243, u240], [.int 1], (fl_u M 0 12 ((((1 : Int32) <<< ((M 15 0) &&& 31)) - 1) &&& (II242 ^^^ (-1)))), J)) (fl_cv (o := some (.int 1)) rfl rfl rfl rfl (cc_5 M J ((((1 : Int32) <<< ((M 15 0) &&& 31)) - 1) &&& (II242 ^^^ (-1)))) rfl) <|
         fl_td (s' := (112, [.ref 0, .int v, .int (((1 : Int32) <<< ((M 15 0) &&& 31)) - 1), .int II241, .int II242, .int II243, u240], [.int II241], (fl_u M 0 12 ((((1 : Int32) <<< ((M 15 0) &&& 31)) - 1) &&& (II242 ^^^ (-1)))), J)) (fl_n 2 rfl) <|
         fl_rt rfl (fun _ => rfl) (by subst eII241; subst eII242; subst eII243; unfold v_80 m_80; first | (simp only [if_neg h1, if_neg h2, if_neg h3, if_pos h4]; done) | rfl)) (fun h4 =>
         fl_td (s' := (96, [.ref 0, .int v, .int (((1 : Int32) <<< ((M 15 0) &&& 31)) - 1), .int II241, .int II242, .int II243, u240], [.int 4, .ref 0], M, J)) (fl_n 2 rfl) <|
         fl_td (s' := (99, [.ref 0, .int v, .int (((1 : Int32) <<< ((M 15 0) &&& 31)) - 1), .int II241, .int II242, .int II243, u240], [.int (-3)], (fl_u (fl_u M 0 11 4) 80 4 ((M 80 4) + 1)), J)) (fl_cv (o := some (.int (-3))) rfl rfl rfl rfl (cc_2 M J 4) rfl) <|
         fl_rt rfl (fun _ => rfl) (by subst eII241; subst eII242; subst eII243; unfold v_80 m_80; first | (simp only [if_neg h1, if_neg h2, if_neg h3, if_neg h4]; done) | rfl)))))))))
def fB83 : sm_P := (fun pc => sm_ch sm_t83 pc, sm_Kn 2 6 none, fun x => sm_lk sm_ca2 x, some .int)
-- MiceRegisters.odds 25
def ls_83_25 (i1 i2 : Int32) (m : Nat) (q : (Int64 × fl_M)) : (Int64 × fl_M) := (if ((m_46 (Int32.ofNat m) 24 (m_23 24 15 q.2)) 27 i1.toNatClampNeg) = ((m_46 (Int32.ofNat m) 24 (m_23 24 15 q.2)) 18 i1.toNatClampNeg) then ((q.1 + (lr_85_5 (Int32.ofNat m) i2 1 (m_46 (Int32.ofNat m) 24 (m_23 24 15 q.2)))), (m_46 (Int32.ofNat m) 24 (m_23 24 15 q.2))) else (q.1, (m_46 (Int32.ofNat m) 24 (m_23 24 15 q.2))))
def lq_83_25 (i1 i2 : Int32) (l3 : Int64) (M : fl_M) (m : Nat) : (Int64 × fl_M) := fx_it (ls_83_25 i1 i2) m (l3, M)
theorem lqs_83_25 (i1 i2 : Int32) (l3 : Int64) (M : fl_M) (m : Nat) : lq_83_25 i1 i2 l3 M (m + 1) = (ls_83_25 i1 i2) m (lq_83_25 i1 i2 l3 M m) := by
  unfold lq_83_25
  exact fx_it_s _ _ _
def lr_83_25 (i1 i2 : Int32) (l3 : Int64) (M : fl_M) : (Int64 × fl_M) := (lq_83_25 i1 i2 l3 M ((((1 : Int32) <<< ((M 15 1) &&& 31))).toNatClampNeg))
theorem ts_83_25 {r : fl_Q} (i1 i2 i5 : Int32) (l3 : Int64) (M : fl_M) (J : fl_J) (q1 : (i5 < ((1 : Int32) <<< ((M 15 1) &&& 31))) → (((m_46 i5 24 (m_23 24 15 M)) 27 i1.toNatClampNeg) = ((m_46 i5 24 (m_23 24 15 M)) 18 i1.toNatClampNeg)) → fl_dn fB83 (25, [.ref 0, .int i1, .int i2, .long (l3 + (lr_85_5 i5 i2 1 (m_46 i5 24 (m_23 24 15 M)))), .null, .int (i5 + 1)], [], (m_46 i5 24 (m_23 24 15 M)), J) r) (q2 : (i5 < ((1 : Int32) <<< ((M 15 1) &&& 31))) → (¬ (((m_46 i5 24 (m_23 24 15 M)) 27 i1.toNatClampNeg) = ((m_46 i5 24 (m_23 24 15 M)) 18 i1.toNatClampNeg))) → fl_dn fB83 (25, [.ref 0, .int i1, .int i2, .long l3, .null, .int (i5 + 1)], [], (m_46 i5 24 (m_23 24 15 M)), J) r) (q3 : (¬ (i5 < ((1 : Int32) <<< ((M 15 1) &&& 31)))) → fl_dn fB83 (82, [.ref 0, .int i1, .int i2, .long l3, .null, .int i5], [], M, J) r) : fl_dn fB83 (25, [.ref 0, .int i1, .int i2, .long l3, .null, .int i5], [], M, J) r :=
 fl_td (s' := (36, [.ref 0, .int i1, .int i2, .long l3, .null, .int i5], [.int ((1 : Int32) <<< ((M 15 1) &&& 31)), .int i5], M, J)) (fl_n 6 rfl) <|
 fl_dnot (fl_ic (t := 82) rfl rfl) fl_nlt (fun h1 =>
  fl_td (s' := (42, [.ref 0, .int i1, .int i2, .long l3, .null, .int i5], [.int i5, .ref 0], M, J)) (fl_n 2 rfl) <|
  fl_td (s' := (45, [.ref 0, .int i1, .int i2, .long l3, .null, .int i5], [], (m_46 i5 24 (m_23 24 15 M)), J)) (fl_cv (o := none) rfl rfl rfl rfl (cc_84 M J i5) rfl) <|
  fx_gen (p := fun (MM244 : fl_M) => fl_dn fB83 (45, [.ref 0, .int i1, .int i2, .long l3, .null, .int i5], [], MM244, J) r) (m_46 i5 24 (m_23 24 15 M)) (fun MM244 eMM244 =>
   fl_td (s' := (63, [.ref 0, .int i1, .int i2, .long l3, .null, .int i5], [.int (MM244 18 i1.toNatClampNeg), .int (MM244 27 i1.toNatClampNeg)], MM244, J)) (fl_n 10 rfl) <|
   fl_dnot (fl_ic (t := 76) rfl rfl) fl_cF (fun h3 =>
    fl_td (s' := (71, [.ref 0, .int i1, .int i2, .long l3, .null, .int i5], [.int i2, .int i5, .ref 0, .long l3], MM244, J)) (fl_n 4 rfl) <|
    fl_td (s' := (74, [.ref 0, .int i1, .int i2, .long l3, .null, .int i5], [.long (lr_85_5 i5 i2 1 MM244), .long l3], MM244, J)) (fl_cv (o := some (.long (lr_85_5 i5 i2 1 MM244))) rfl rfl rfl rfl (cc_85 MM244 J i5 i2) rfl) <|
    fx_gen (p := fun (LL245 : Int64) => fl_dn fB83 (74, [.ref 0, .int i1, .int i2, .long l3, .null, .int i5], [.long LL245, .long l3], MM244, J) r) (lr_85_5 i5 i2 1 MM244) (fun LL245 eLL245 =>
     fl_td (s' := (25, [.ref 0, .int i1, .int i2, .long (l3 + LL245), .null, .int (i5 + 1)], [], MM244, J)) (fl_n 4 rfl) <|
     (by subst eMM244; subst eLL245; exact (q1 h1 h3)))) (fun h3 =>
    fl_td (s' := (25, [.ref 0, .int i1, .int i2, .long l3, .null, .int (i5 + 1)], [], MM244, J)) (fl_n 2 rfl) <|
    (by subst eMM244; exact (q2 h1 h3))))) (fun h1 =>
  (q3 h1))
theorem lk_83_25 (i1 i2 : Int32) (l3 : Int64) (M : fl_M) (m : Nat) : ((1 : Int32) <<< ((((lq_83_25 i1 i2 l3 M m).2) 15 1) &&& 31)) = ((1 : Int32) <<< ((M 15 1) &&& 31)) := by
  induction m with
  | zero => rfl
  | succ m ih =>
    rw [← ih]
    rw [lqs_83_25]
    generalize lq_83_25 i1 i2 l3 M m = q
    unfold ls_83_25
    (repeat' split) <;> first | with_reducible rfl | (simp [fl_u, fr_22_18, fr_22_53, fr_23_42, fr_23_106, fr_23, fr_46_4, fr_46_100, fr_46, fr_45, fr_59_2, fr_44, fr_54_10, fr_51_9, fr_64_28, fr_64, fr_69]; done) | rfl
theorem lp_83_25 {r : fl_Q} (i1 i2 : Int32) (l3 : Int64) (M : fl_M) (J : fl_J) (hx : ∀ w5 : Value, fl_dn fB83 (82, [.ref 0, .int i1, .int i2, .long ((lr_83_25 i1 i2 l3 M).1), .null, w5], [], ((lr_83_25 i1 i2 l3 M).2), J) r) : fl_dn fB83 (25, [.ref 0, .int i1, .int i2, .long l3, .null, .int 0], [], M, J) r := by
  have hb := fi_bd ((1 : Int32) <<< ((M 15 1) &&& 31))
  have hB := fun m => lk_83_25 i1 i2 l3 M m
  have key : ∀ (n m : Nat), m + n = (((1 : Int32) <<< ((M 15 1) &&& 31))).toNatClampNeg → fl_dn fB83 (25, [.ref 0, .int i1, .int i2, .long ((lq_83_25 i1 i2 l3 M m).1), .null, .int (Int32.ofNat m)], [], ((lq_83_25 i1 i2 l3 M m).2), J) r := by
    intro n
    induction n with
    | zero =>
      intro m hm
      have hm : m = (((1 : Int32) <<< ((M 15 1) &&& 31))).toNatClampNeg := by omega
      have hn : ¬ ((Int32.ofNat m) < ((1 : Int32) <<< ((((lq_83_25 i1 i2 l3 M m).2) 15 1) &&& 31))) := fun z => by rw [hB m] at z; have z := (fi_lt (by omega)).mp z; omega
      exact ts_83_25 i1 i2 (Int32.ofNat m) ((lq_83_25 i1 i2 l3 M m).1) ((lq_83_25 i1 i2 l3 M m).2) J (fun h1 h3 => absurd h1 hn) (fun h1 h3 => absurd h1 hn) (fun h1 => (by have e : lr_83_25 i1 i2 l3 M = lq_83_25 i1 i2 l3 M m := (by show lq_83_25 i1 i2 l3 M ((((1 : Int32) <<< ((M 15 1) &&& 31))).toNatClampNeg) = _; rw [← hm]); rw [e] at hx; exact hx _))
    | succ n ih =>
      intro m hm
      have hp : (Int32.ofNat m) < ((1 : Int32) <<< ((((lq_83_25 i1 i2 l3 M m).2) 15 1) &&& 31)) := by rw [hB m]; exact (fi_lt (by omega)).mpr (by omega)
      refine ts_83_25 i1 i2 (Int32.ofNat m) ((lq_83_25 i1 i2 l3 M m).1) ((lq_83_25 i1 i2 l3 M m).2) J (fun h1 h3 => ?_) (fun h1 h3 => ?_) (fun h1 => absurd hp h1)
      · have e : lq_83_25 i1 i2 l3 M (m + 1) = ((((lq_83_25 i1 i2 l3 M m).1) + (lr_85_5 (Int32.ofNat m) i2 1 (m_46 (Int32.ofNat m) 24 (m_23 24 15 ((lq_83_25 i1 i2 l3 M m).2))))), (m_46 (Int32.ofNat m) 24 (m_23 24 15 ((lq_83_25 i1 i2 l3 M m).2)))) := by
          rw [lqs_83_25]
          unfold ls_83_25
          simp only [if_pos h3]
        have q := ih (m + 1) (by omega)
        rw [e] at q
        first | (rw [fi_s]; exact q) | (rw [← fi_s] at q; exact q) | (simp only [fi_s] at q ⊢; exact q)
      · have e : lq_83_25 i1 i2 l3 M (m + 1) = (((lq_83_25 i1 i2 l3 M m).1), (m_46 (Int32.ofNat m) 24 (m_23 24 15 ((lq_83_25 i1 i2 l3 M m).2)))) := by
          rw [lqs_83_25]
          unfold ls_83_25
          simp only [if_neg h3]
        have q := ih (m + 1) (by omega)
        rw [e] at q
        first | (rw [fi_s]; exact q) | (rw [← fi_s] at q; exact q) | (simp only [fi_s] at q ⊢; exact q)
  exact key ((((1 : Int32) <<< ((M 15 1) &&& 31))).toNatClampNeg) 0 (Nat.zero_add _)
def v_83 (l p : Int32) (M : fl_M) : Int32 := (if (l < 0) ∨ (¬ (l < (M 15 0))) then (-1) else (if p < 0 then (-1) else (if 12 < p then (-1) else 1)))
def m_83 (l p : Int32) (M : fl_M) : fl_M := (if (l < 0) ∨ (¬ (l < (M 15 0))) then M else (if p < 0 then M else (if 12 < p then M else ((lr_83_25 l p 0 M).2))))
def j_83 (l p : Int32) (M : fl_M) (J : fl_J) : fl_J := (if (l < 0) ∨ (¬ (l < (M 15 0))) then J else (if p < 0 then J else (if 12 < p then J else (j_78 ((lr_83_25 l p 0 M).1) (lr_86_4 1 ((lr_83_25 l p 0 M).2)) J))))
theorem cc_83 (M : fl_M) (J : fl_J) (l p : Int32) : fl_C 83 [.ref 0, .int l, .int p] M J (some (.int (v_83 l p M)), (m_83 l p M), (j_83 l p M J)) :=
 fl_Co (B := fB83) rfl rfl <|
 fl_td (s' := (2, [.ref 0, .int l, .int p, .null, .null, .null], [.int l, .ref 0], M, J)) (fl_n 2 rfl) <|
 fl_td (s' := (5, [.ref 0, .int l, .int p, .null, .null, .null], [.int (if (l < 0) ∨ (¬ (l < (M 15 0))) then 1 else 0)], M, J)) (fl_cv (o := some (.int (if (l < 0) ∨ (¬ (l < (M 15 0))) then 1 else 0))) rfl rfl rfl rfl (cc_25 M J l) rfl) <|
 fl_dtwo (fl_if (t := 18) rfl rfl) fl_b1 (fun h1 =>
  fl_td (s' := (19, [.ref 0, .int l, .int p, .null, .null, .null], [.int (-1)], M, J)) (fl_n 1 rfl) <|
  fl_rt rfl (fun _ => rfl) (by unfold v_83 m_83 j_83; first | (simp only [if_pos h1]; done) | rfl)) (fun h1 =>
  fl_td (s' := (9, [.ref 0, .int l, .int p, .null, .null, .null], [.int p], M, J)) (fl_n 1 rfl) <|
  fl_dtwo (fl_if (t := 18) rfl rfl) fl_cT (fun h2 =>
   fl_td (s' := (19, [.ref 0, .int l, .int p, .null, .null, .null], [.int (-1)], M, J)) (fl_n 1 rfl) <|
   fl_rt rfl (fun _ => rfl) (by unfold v_83 m_83 j_83; first | (simp only [if_neg h1, if_pos h2]; done) | rfl)) (fun h2 =>
   fl_td (s' := (15, [.ref 0, .int l, .int p, .null, .null, .null], [.int 12, .int p], M, J)) (fl_n 2 rfl) <|
   fl_dnot (fl_ic (t := 20) rfl rfl) fl_nle (fun h3 =>
    fl_td (s' := (19, [.ref 0, .int l, .int p, .null, .null, .null], [.int (-1)], M, J)) (fl_n 1 rfl) <|
    fl_rt rfl (fun _ => rfl) (by unfold v_83 m_83 j_83; first | (simp only [if_neg h1, if_neg h2, if_pos h3]; done) | rfl)) (fun h3 =>
    fl_td (s' := (25, [.ref 0, .int l, .int p, .long 0, .null, .int 0], [], M, J)) (fl_n 4 rfl) <|
    lp_83_25 l p 0 M J (fun u246 =>
     fx_gen (p := fun (MM247 : fl_M) => fl_dn fB83 (82, [.ref 0, .int l, .int p, .long ((lr_83_25 l p 0 M).1), .null, u246], [], MM247, J) (some (.int (v_83 l p M)), (m_83 l p M), (j_83 l p M J))) ((lr_83_25 l p 0 M).2) (fun MM247 eMM247 =>
      fx_gen (p := fun (LL248 : Int64) => fl_dn fB83 (82, [.ref 0, .int l, .int p, .long LL248, .null, u246], [], MM247, J) (some (.int (v_83 l p M)), (m_83 l p M), (j_83 l p M J))) ((lr_83_25 l p 0 M).1) (fun LL248 eLL248 =>
       fl_td (s' := (85, [.ref 0, .int l, .int p, .long LL248, .null, u246], [.ref 0, .long LL248, .ref 0], MM247, J)) (fl_n 3 rfl) <|
       fl_td (s' := (88, [.ref 0, .int l, .int p, .long LL248, .null, u246], [.long (lr_86_4 1 MM247), .long LL248, .ref 0], MM247, J)) (fl_cv (o := some (.long (lr_86_4 1 MM247))) rfl rfl rfl rfl (cc_86 MM247 J) rfl) <|
       fx_gen (p := fun (LL249 : Int64) => fl_dn fB83 (88, [.ref 0, .int l, .int p, .long LL248, .null, u246], [.long LL249, .long LL248, .ref 0], MM247, J) (some (.int (v_83 l p M)), (m_83 l p M), (j_83 l p M J))) (lr_86_4 1 MM247) (fun LL249 eLL249 =>
        fl_td (s' := (91, [.ref 0, .int l, .int p, .long LL248, .null, u246], [], MM247, (j_78 LL248 LL249 J))) (fl_cv (o := none) rfl rfl rfl rfl (cc_78 MM247 J LL248 LL249) rfl) <|
        fl_td (s' := (92, [.ref 0, .int l, .int p, .long LL248, .null, u246], [.int 1], MM247, (j_78 LL248 LL249 J))) (fl_n 1 rfl) <|
        fl_rt rfl (fun _ => rfl) (by subst eMM247; subst eLL248; subst eLL249; unfold v_83 m_83 j_83; first | (simp only [if_neg h1, if_neg h2, if_neg h3]; done) | rfl))))))))
def fB87 : sm_P := (fun pc => sm_ch sm_t87 pc, sm_Kn 2 5 none, fun x => sm_lk sm_ca2 x, some .int)
-- MiceRegisters.mid 30
def ls_87_30 (i1 : Int32) (m : Nat) (q : (Int64 × fl_M)) : (Int64 × fl_M) := ((q.1 + ((lr_85_5 (Int32.ofNat m) i1 1 (m_46 (Int32.ofNat m) 24 (m_23 24 15 q.2))) * (lr_66_4 0 24 (m_46 (Int32.ofNat m) 24 (m_23 24 15 q.2))).toInt64)), (m_46 (Int32.ofNat m) 24 (m_23 24 15 q.2)))
def lq_87_30 (i1 : Int32) (l2 : Int64) (M : fl_M) (m : Nat) : (Int64 × fl_M) := fx_it (ls_87_30 i1) m (l2, M)
theorem lqs_87_30 (i1 : Int32) (l2 : Int64) (M : fl_M) (m : Nat) : lq_87_30 i1 l2 M (m + 1) = (ls_87_30 i1) m (lq_87_30 i1 l2 M m) := by
  unfold lq_87_30
  exact fx_it_s _ _ _
def lr_87_30 (i1 : Int32) (l2 : Int64) (M : fl_M) : (Int64 × fl_M) := (lq_87_30 i1 l2 M ((((1 : Int32) <<< ((M 15 1) &&& 31))).toNatClampNeg))
theorem ts_87_30 {r : fl_Q} (i1 i4 : Int32) (l2 : Int64) (M : fl_M) (J : fl_J) (q1 : (i4 < ((1 : Int32) <<< ((M 15 1) &&& 31))) → fl_dn fB87 (30, [.ref 0, .int i1, .long (l2 + ((lr_85_5 i4 i1 1 (m_46 i4 24 (m_23 24 15 M))) * (lr_66_4 0 24 (m_46 i4 24 (m_23 24 15 M))).toInt64)), .null, .int (i4 + 1)], [], (m_46 i4 24 (m_23 24 15 M)), J) r) (q2 : (¬ (i4 < ((1 : Int32) <<< ((M 15 1) &&& 31)))) → fl_dn fB87 (75, [.ref 0, .int i1, .long l2, .null, .int i4], [], M, J) r) : fl_dn fB87 (30, [.ref 0, .int i1, .long l2, .null, .int i4], [], M, J) r :=
 fl_td (s' := (41, [.ref 0, .int i1, .long l2, .null, .int i4], [.int ((1 : Int32) <<< ((M 15 1) &&& 31)), .int i4], M, J)) (fl_n 6 rfl) <|
 fl_dnot (fl_ic (t := 75) rfl rfl) fl_nlt (fun h1 =>
  fl_td (s' := (47, [.ref 0, .int i1, .long l2, .null, .int i4], [.int i4, .ref 0], M, J)) (fl_n 2 rfl) <|
  fl_td (s' := (50, [.ref 0, .int i1, .long l2, .null, .int i4], [], (m_46 i4 24 (m_23 24 15 M)), J)) (fl_cv (o := none) rfl rfl rfl rfl (cc_84 M J i4) rfl) <|
  fx_gen (p := fun (MM250 : fl_M) => fl_dn fB87 (50, [.ref 0, .int i1, .long l2, .null, .int i4], [], MM250, J) r) (m_46 i4 24 (m_23 24 15 M)) (fun MM250 eMM250 =>
   fl_td (s' := (55, [.ref 0, .int i1, .long l2, .null, .int i4], [.int i1, .int i4, .ref 0, .long l2], MM250, J)) (fl_n 4 rfl) <|
   fl_td (s' := (58, [.ref 0, .int i1, .long l2, .null, .int i4], [.long (lr_85_5 i4 i1 1 MM250), .long l2], MM250, J)) (fl_cv (o := some (.long (lr_85_5 i4 i1 1 MM250))) rfl rfl rfl rfl (cc_85 MM250 J i4 i1) rfl) <|
   fx_gen (p := fun (LL251 : Int64) => fl_dn fB87 (58, [.ref 0, .int i1, .long l2, .null, .int i4], [.long LL251, .long l2], MM250, J) r) (lr_85_5 i4 i1 1 MM250) (fun LL251 eLL251 =>
    fl_td (s' := (62, [.ref 0, .int i1, .long l2, .null, .int i4], [.ref 24, .long LL251, .long l2], MM250, J)) (fl_n 2 rfl) <|
    fl_td (s' := (65, [.ref 0, .int i1, .long l2, .null, .int i4], [.int (lr_66_4 0 24 MM250), .long LL251, .long l2], MM250, J)) (fl_cv (o := some (.int (lr_66_4 0 24 MM250))) rfl rfl rfl rfl (cc_66 MM250 J 24) rfl) <|
    fx_gen (p := fun (II252 : Int32) => fl_dn fB87 (65, [.ref 0, .int i1, .long l2, .null, .int i4], [.int II252, .long LL251, .long l2], MM250, J) r) (lr_66_4 0 24 MM250) (fun II252 eII252 =>
     fl_td (s' := (30, [.ref 0, .int i1, .long (l2 + (LL251 * II252.toInt64)), .null, .int (i4 + 1)], [], MM250, J)) (fl_n 6 rfl) <|
     (by subst eMM250; subst eLL251; subst eII252; exact (q1 h1)))))) (fun h1 =>
  (q2 h1))
theorem lk_87_30 (i1 : Int32) (l2 : Int64) (M : fl_M) (m : Nat) : ((1 : Int32) <<< ((((lq_87_30 i1 l2 M m).2) 15 1) &&& 31)) = ((1 : Int32) <<< ((M 15 1) &&& 31)) := by
  induction m with
  | zero => rfl
  | succ m ih =>
    rw [← ih]
    rw [lqs_87_30]
    generalize lq_87_30 i1 l2 M m = q
    unfold ls_87_30
    (repeat' split) <;> first | with_reducible rfl | (simp [fl_u, fr_22_18, fr_22_53, fr_23_42, fr_23_106, fr_23, fr_46_4, fr_46_100, fr_46, fr_45, fr_59_2, fr_44, fr_54_10, fr_51_9, fr_64_28, fr_64, fr_69]; done) | rfl
theorem lp_87_30 {r : fl_Q} (i1 : Int32) (l2 : Int64) (M : fl_M) (J : fl_J) (hx : ∀ w4 : Value, fl_dn fB87 (75, [.ref 0, .int i1, .long ((lr_87_30 i1 l2 M).1), .null, w4], [], ((lr_87_30 i1 l2 M).2), J) r) : fl_dn fB87 (30, [.ref 0, .int i1, .long l2, .null, .int 0], [], M, J) r := by
  have hb := fi_bd ((1 : Int32) <<< ((M 15 1) &&& 31))
  have hB := fun m => lk_87_30 i1 l2 M m
  have key : ∀ (n m : Nat), m + n = (((1 : Int32) <<< ((M 15 1) &&& 31))).toNatClampNeg → fl_dn fB87 (30, [.ref 0, .int i1, .long ((lq_87_30 i1 l2 M m).1), .null, .int (Int32.ofNat m)], [], ((lq_87_30 i1 l2 M m).2), J) r := by
    intro n
    induction n with
    | zero =>
      intro m hm
      have hm : m = (((1 : Int32) <<< ((M 15 1) &&& 31))).toNatClampNeg := by omega
      have hn : ¬ ((Int32.ofNat m) < ((1 : Int32) <<< ((((lq_87_30 i1 l2 M m).2) 15 1) &&& 31))) := fun z => by rw [hB m] at z; have z := (fi_lt (by omega)).mp z; omega
      exact ts_87_30 i1 (Int32.ofNat m) ((lq_87_30 i1 l2 M m).1) ((lq_87_30 i1 l2 M m).2) J (fun h1 => absurd h1 hn) (fun h1 => (by have e : lr_87_30 i1 l2 M = lq_87_30 i1 l2 M m := (by show lq_87_30 i1 l2 M ((((1 : Int32) <<< ((M 15 1) &&& 31))).toNatClampNeg) = _; rw [← hm]); rw [e] at hx; exact hx _))
    | succ n ih =>
      intro m hm
      have hp : (Int32.ofNat m) < ((1 : Int32) <<< ((((lq_87_30 i1 l2 M m).2) 15 1) &&& 31)) := by rw [hB m]; exact (fi_lt (by omega)).mpr (by omega)
      refine ts_87_30 i1 (Int32.ofNat m) ((lq_87_30 i1 l2 M m).1) ((lq_87_30 i1 l2 M m).2) J (fun h1 => ?_) (fun h1 => absurd hp h1)
      · have e : lq_87_30 i1 l2 M (m + 1) = ((((lq_87_30 i1 l2 M m).1) + ((lr_85_5 (Int32.ofNat m) i1 1 (m_46 (Int32.ofNat m) 24 (m_23 24 15 ((lq_87_30 i1 l2 M m).2)))) * (lr_66_4 0 24 (m_46 (Int32.ofNat m) 24 (m_23 24 15 ((lq_87_30 i1 l2 M m).2)))).toInt64)), (m_46 (Int32.ofNat m) 24 (m_23 24 15 ((lq_87_30 i1 l2 M m).2)))) := by
          rw [lqs_87_30]
          unfold ls_87_30
          rfl
        have q := ih (m + 1) (by omega)
        rw [e] at q
        first | (rw [fi_s]; exact q) | (rw [← fi_s] at q; exact q) | (simp only [fi_s] at q ⊢; exact q)
  exact key ((((1 : Int32) <<< ((M 15 1) &&& 31))).toNatClampNeg) 0 (Nat.zero_add _)
def v_87 (p : Int32) (M : fl_M) : Int32 := (if p < 0 then (-1) else (if 12 < p then (-1) else (if (M 15 1) = 0 then (-4) else 1)))
def m_87 (p : Int32) (M : fl_M) : fl_M := (if p < 0 then M else (if 12 < p then M else (if (M 15 1) = 0 then M else ((lr_87_30 p 0 M).2))))
def j_87 (p : Int32) (M : fl_M) (J : fl_J) : fl_J := (if p < 0 then J else (if 12 < p then J else (if (M 15 1) = 0 then J else (j_78 ((lr_87_30 p 0 M).1) (lr_86_4 1 ((lr_87_30 p 0 M).2)) J))))
theorem cc_87 (M : fl_M) (J : fl_J) (p : Int32) : fl_C 87 [.ref 0, .int p] M J (some (.int (v_87 p M)), (m_87 p M), (j_87 p M J)) :=
 fl_Co (B := fB87) rfl rfl <|
 fl_td (s' := (1, [.ref 0, .int p, .null, .null, .null], [.int p], M, J)) (fl_n 1 rfl) <|
 fl_dtwo (fl_if (t := 10) rfl rfl) fl_cT (fun h1 =>
  fl_td (s' := (11, [.ref 0, .int p, .null, .null, .null], [.int (-1)], M, J)) (fl_n 1 rfl) <|
  fl_rt rfl (fun _ => rfl) (by unfold v_87 m_87 j_87; first | (simp only [if_pos h1]; done) | rfl)) (fun h1 =>
  fl_td (s' := (7, [.ref 0, .int p, .null, .null, .null], [.int 12, .int p], M, J)) (fl_n 2 rfl) <|
  fl_dnot (fl_ic (t := 12) rfl rfl) fl_nle (fun h2 =>
   fl_td (s' := (11, [.ref 0, .int p, .null, .null, .null], [.int (-1)], M, J)) (fl_n 1 rfl) <|
   fl_rt rfl (fun _ => rfl) (by unfold v_87 m_87 j_87; first | (simp only [if_neg h1, if_pos h2]; done) | rfl)) (fun h2 =>
   fl_td (s' := (19, [.ref 0, .int p, .null, .null, .null], [.int (M 15 1)], M, J)) (fl_n 3 rfl) <|
   fl_dnot (fl_if (t := 25) rfl rfl) fl_cF (fun h3 =>
    fl_td (s' := (24, [.ref 0, .int p, .null, .null, .null], [.int (-4)], M, J)) (fl_n 1 rfl) <|
    fl_rt rfl (fun _ => rfl) (by unfold v_87 m_87 j_87; first | (simp only [if_neg h1, if_neg h2, if_pos h3]; done) | rfl)) (fun h3 =>
    fl_td (s' := (30, [.ref 0, .int p, .long 0, .null, .int 0], [], M, J)) (fl_n 4 rfl) <|
    lp_87_30 p 0 M J (fun u253 =>
     fx_gen (p := fun (MM254 : fl_M) => fl_dn fB87 (75, [.ref 0, .int p, .long ((lr_87_30 p 0 M).1), .null, u253], [], MM254, J) (some (.int (v_87 p M)), (m_87 p M), (j_87 p M J))) ((lr_87_30 p 0 M).2) (fun MM254 eMM254 =>
      fx_gen (p := fun (LL255 : Int64) => fl_dn fB87 (75, [.ref 0, .int p, .long LL255, .null, u253], [], MM254, J) (some (.int (v_87 p M)), (m_87 p M), (j_87 p M J))) ((lr_87_30 p 0 M).1) (fun LL255 eLL255 =>
       fl_td (s' := (78, [.ref 0, .int p, .long LL255, .null, u253], [.ref 0, .long LL255, .ref 0], MM254, J)) (fl_n 3 rfl) <|
       fl_td (s' := (81, [.ref 0, .int p, .long LL255, .null, u253], [.long (lr_86_4 1 MM254), .long LL255, .ref 0], MM254, J)) (fl_cv (o := some (.long (lr_86_4 1 MM254))) rfl rfl rfl rfl (cc_86 MM254 J) rfl) <|
       fx_gen (p := fun (LL256 : Int64) => fl_dn fB87 (81, [.ref 0, .int p, .long LL255, .null, u253], [.long LL256, .long LL255, .ref 0], MM254, J) (some (.int (v_87 p M)), (m_87 p M), (j_87 p M J))) (lr_86_4 1 MM254) (fun LL256 eLL256 =>
        fl_td (s' := (84, [.ref 0, .int p, .long LL255, .null, u253], [], MM254, (j_78 LL255 LL256 J))) (fl_cv (o := none) rfl rfl rfl rfl (cc_78 MM254 J LL255 LL256) rfl) <|
        fl_td (s' := (85, [.ref 0, .int p, .long LL255, .null, u253], [.int 1], MM254, (j_78 LL255 LL256 J))) (fl_n 1 rfl) <|
        fl_rt rfl (fun _ => rfl) (by subst eMM254; subst eLL255; subst eLL256; unfold v_87 m_87 j_87; first | (simp only [if_neg h1, if_neg h2, if_neg h3]; done) | rfl))))))))
def fB89 : sm_P := (fun pc => sm_ch sm_t89 pc, sm_Kn 2 3 none, fun x => sm_lk sm_ca2 x, none)
def m_89 (lot : Int32) (M : fl_M) : fl_M := (if 0 < (M 15 0) then (if ((lot / 8) - (lot / 8) / 8 * 8) = 0 then (m_45 1 (lot - lot / (M 15 0) * (M 15 0)) (1 + ((lot / 64) - (lot / 64) / 5 * 5)) 15 (m_44 1 (lot - lot / (M 15 0) * (M 15 0)) (1 + ((lot / 64) - (lot / 64) / 5 * 5)) 42 M)) else (if ((lot / 8) - (lot / 8) / 8 * 8) = 1 then (m_45 1 (lot - lot / (M 15 0) * (M 15 0)) (1 + ((lot / 64) - (lot / 64) / 5 * 5)) 15 (m_44 1 (lot - lot / (M 15 0) * (M 15 0)) (1 + ((lot / 64) - (lot / 64) / 5 * 5)) 42 M)) else (if ((lot / 8) - (lot / 8) / 8 * 8) = 2 then (m_45 2 (lot - lot / (M 15 0) * (M 15 0)) 0 15 (m_44 2 (lot - lot / (M 15 0) * (M 15 0)) 0 42 M)) else (if ((lot / 8) - (lot / 8) / 8 * 8) = 3 then (m_45 3 (lot - lot / (M 15 0) * (M 15 0)) 0 15 (m_44 3 (lot - lot / (M 15 0) * (M 15 0)) 0 42 M)) else (m_45 0 0 0 15 (m_44 0 0 0 42 M)))))) else (if ((lot / 8) - (lot / 8) / 8 * 8) = 0 then (m_45 1 0 (1 + ((lot / 64) - (lot / 64) / 5 * 5)) 15 (m_44 1 0 (1 + ((lot / 64) - (lot / 64) / 5 * 5)) 42 M)) else (if ((lot / 8) - (lot / 8) / 8 * 8) = 1 then (m_45 1 0 (1 + ((lot / 64) - (lot / 64) / 5 * 5)) 15 (m_44 1 0 (1 + ((lot / 64) - (lot / 64) / 5 * 5)) 42 M)) else (if ((lot / 8) - (lot / 8) / 8 * 8) = 2 then (m_45 2 0 0 15 (m_44 2 0 0 42 M)) else (if ((lot / 8) - (lot / 8) / 8 * 8) = 3 then (m_45 3 0 0 15 (m_44 3 0 0 42 M)) else (m_45 0 0 0 15 (m_44 0 0 0 42 M)))))))
theorem cc_89 (M : fl_M) (J : fl_J) (lot : Int32) : fl_C 89 [.ref 0, .int lot] M J (none, (m_89 lot M), J) :=
 fl_Co (B := fB89) rfl rfl <|
 fl_td (s' := (7, [.ref 0, .int lot, .null], [.int (M 15 0)], M, J)) (fl_n 3 rfl) <|
 fl_dnot (fl_if (t := 22) rfl rfl) fl_nle (fun h1 =>
  fl_td (s' := (31, [.ref 0, .int lot, .int (lot - lot / (M 15 0) * (M 15 0))], [.int ((lot / 8) - (lot / 8) / 8 * 8)], M, J)) (fl_n 12 rfl) <|
  fl_dc (c := ((lot / 8) - (lot / 8) / 8 * 8) = 0) (fun h2 =>
   fl_td (s' := (60, [.ref 0, .int lot, .int (lot - lot / (M 15 0) * (M 15 0))], [], M, J)) (fl_sw h2 rfl) <|
   fl_td (s' := (71, [.ref 0, .int lot, .int (lot - lot / (M 15 0) * (M 15 0))], [.int (1 + ((lot / 64) - (lot / 64) / 5 * 5)), .int (lot - lot / (M 15 0) * (M 15 0)), .int 1, .ref 0], M, J)) (fl_n 10 rfl) <|
   fl_td (s' := (74, [.ref 0, .int lot, .int (lot - lot / (M 15 0) * (M 15 0))], [.int (v_45 1 (lot - lot / (M 15 0) * (M 15 0)) (1 + ((lot / 64) - (lot / 64) / 5 * 5)) 15 (m_44 1 (lot - lot / (M 15 0) * (M 15 0)) (1 + ((lot / 64) - (lot / 64) / 5 * 5)) 42 M))], (m_45 1 (lot - lot / (M 15 0) * (M 15 0)) (1 + ((lot / 64) - (lot / 64) / 5 * 5)) 15 (m_44 1 (lot - lot / (M 15 0) * (M 15 0)) (1 + ((lot / 64) - (lot / 64) / 5 * 5)) 42 M)), J)) (fl_cv (o := some (.int (v_45 1 (lot - lot / (M 15 0) * (M 15 0)) (1 + ((lot / 64) - (lot / 64) / 5 * 5)) 15 (m_44 1 (lot - lot / (M 15 0) * (M 15 0)) (1 + ((lot / 64) - (lot / 64) / 5 * 5)) 42 M)))) rfl rfl rfl rfl (cc_43 M J 1 (lot - lot / (M 15 0) * (M 15 0)) (1 + ((lot / 64) - (lot / 64) / 5 * 5))) rfl) <|
   fx_gen (p := fun (MM257 : fl_M) => fl_dn fB89 (74, [.ref 0, .int lot, .int (lot - lot / (M 15 0) * (M 15 0))], [.int (v_45 1 (lot - lot / (M 15 0) * (M 15 0)) (1 + ((lot / 64) - (lot / 64) / 5 * 5)) 15 (m_44 1 (lot - lot / (M 15 0) * (M 15 0)) (1 + ((lot / 64) - (lot / 64) / 5 * 5)) 42 M))], MM257, J) (none, (m_89 lot M), J)) (m_45 1 (lot - lot / (M 15 0) * (M 15 0)) (1 + ((lot / 64) - (lot / 64) / 5 * 5)) 15 (m_44 1 (lot - lot / (M 15 0) * (M 15 0)) (1 + ((lot / 64) - (lot / 64) / 5 * 5)) 42 M)) (fun MM257 eMM257 =>
    fl_td (s' := (108, [.ref 0, .int lot, .int (lot - lot / (M 15 0) * (M 15 0))], [], MM257, J)) (fl_n 2 rfl) <|
    fl_rt rfl (fun _ => rfl) (by subst eMM257; unfold m_89; first | (simp only [if_pos h1, if_pos h2]; done) | rfl))) (fun h2 =>
   fl_dc (c := ((lot / 8) - (lot / 8) / 8 * 8) = 1) (fun h4 =>
    fl_td (s' := (60, [.ref 0, .int lot, .int (lot - lot / (M 15 0) * (M 15 0))], [], M, J)) (fl_sw h4 rfl) <|
    fl_td (s' := (71, [.ref 0, .int lot, .int (lot - lot / (M 15 0) * (M 15 0))], [.int (1 + ((lot / 64) - (lot / 64) / 5 * 5)), .int (lot - lot / (M 15 0) * (M 15 0)), .int 1, .ref 0], M, J)) (fl_n 10 rfl) <|
    fl_td (s' := (74, [.ref 0, .int lot, .int (lot - lot / (M 15 0) * (M 15 0))], [.int (v_45 1 (lot - lot / (M 15 0) * (M 15 0)) (1 + ((lot / 64) - (lot / 64) / 5 * 5)) 15 (m_44 1 (lot - lot / (M 15 0) * (M 15 0)) (1 + ((lot / 64) - (lot / 64) / 5 * 5)) 42 M))], (m_45 1 (lot - lot / (M 15 0) * (M 15 0)) (1 + ((lot / 64) - (lot / 64) / 5 * 5)) 15 (m_44 1 (lot - lot / (M 15 0) * (M 15 0)) (1 + ((lot / 64) - (lot / 64) / 5 * 5)) 42 M)), J)) (fl_cv (o := some (.int (v_45 1 (lot - lot / (M 15 0) * (M 15 0)) (1 + ((lot / 64) - (lot / 64) / 5 * 5)) 15 (m_44 1 (lot - lot / (M 15 0) * (M 15 0)) (1 + ((lot / 64) - (lot / 64) / 5 * 5)) 42 M)))) rfl rfl rfl rfl (cc_43 M J 1 (lot - lot / (M 15 0) * (M 15 0)) (1 + ((lot / 64) - (lot / 64) / 5 * 5))) rfl) <|
    fx_gen (p := fun (MM258 : fl_M) => fl_dn fB89 (74, [.ref 0, .int lot, .int (lot - lot / (M 15 0) * (M 15 0))], [.int (v_45 1 (lot - lot / (M 15 0) * (M 15 0)) (1 + ((lot / 64) - (lot / 64) / 5 * 5)) 15 (m_44 1 (lot - lot / (M 15 0) * (M 15 0)) (1 + ((lot / 64) - (lot / 64) / 5 * 5)) 42 M))], MM258, J) (none, (m_89 lot M), J)) (m_45 1 (lot - lot / (M 15 0) * (M 15 0)) (1 + ((lot / 64) - (lot / 64) / 5 * 5)) 15 (m_44 1 (lot - lot / (M 15 0) * (M 15 0)) (1 + ((lot / 64) - (lot / 64) / 5 * 5)) 42 M)) (fun MM258 eMM258 =>
     fl_td (s' := (108, [.ref 0, .int lot, .int (lot - lot / (M 15 0) * (M 15 0))], [], MM258, J)) (fl_n 2 rfl) <|
     fl_rt rfl (fun _ => rfl) (by subst eMM258; unfold m_89; first | (simp only [if_pos h1, if_neg h2, if_pos h4]; done) | rfl))) (fun h4 =>
    fl_dc (c := ((lot / 8) - (lot / 8) / 8 * 8) = 2) (fun h6 =>
     fl_td (s' := (78, [.ref 0, .int lot, .int (lot - lot / (M 15 0) * (M 15 0))], [], M, J)) (fl_sw h6 rfl) <|
     fl_td (s' := (82, [.ref 0, .int lot, .int (lot - lot / (M 15 0) * (M 15 0))], [.int 0, .int (lot - lot / (M 15 0) * (M 15 0)), .int 2, .ref 0], M, J)) (fl_n 4 rfl) <|
     fl_td (s' := (85, [.ref 0, .int lot, .int (lot - lot / (M 15 0) * (M 15 0))], [.int (v_45 2 (lot - lot / (M 15 0) * (M 15 0)) 0 15 (m_44 2 (lot - lot / (M 15 0) * (M 15 0)) 0 42 M))], (m_45 2 (lot - lot / (M 15 0) * (M 15 0)) 0 15 (m_44 2 (lot - lot / (M 15 0) * (M 15 0)) 0 42 M)), J)) (fl_cv (o := some (.int (v_45 2 (lot - lot / (M 15 0) * (M 15 0)) 0 15 (m_44 2 (lot - lot / (M 15 0) * (M 15 0)) 0 42 M)))) rfl rfl rfl rfl (cc_43 M J 2 (lot - lot / (M 15 0) * (M 15 0)) 0) rfl) <|
     fx_gen (p := fun (MM259 : fl_M) => fl_dn fB89 (85, [.ref 0, .int lot, .int (lot - lot / (M 15 0) * (M 15 0))], [.int (v_45 2 (lot - lot / (M 15 0) * (M 15 0)) 0 15 (m_44 2 (lot - lot / (M 15 0) * (M 15 0)) 0 42 M))], MM259, J) (none, (m_89 lot M), J)) (m_45 2 (lot - lot / (M 15 0) * (M 15 0)) 0 15 (m_44 2 (lot - lot / (M 15 0) * (M 15 0)) 0 42 M)) (fun MM259 eMM259 =>
      fl_td (s' := (108, [.ref 0, .int lot, .int (lot - lot / (M 15 0) * (M 15 0))], [], MM259, J)) (fl_n 2 rfl) <|
      fl_rt rfl (fun _ => rfl) (by subst eMM259; unfold m_89; first | (simp only [if_pos h1, if_neg h2, if_neg h4, if_pos h6]; done) | rfl))) (fun h6 =>
     fl_dc (c := ((lot / 8) - (lot / 8) / 8 * 8) = 3) (fun h8 =>
      fl_td (s' := (89, [.ref 0, .int lot, .int (lot - lot / (M 15 0) * (M 15 0))], [], M, J)) (fl_sw h8 rfl) <|
      fl_td (s' := (93, [.ref 0, .int lot, .int (lot - lot / (M 15 0) * (M 15 0))], [.int 0, .int (lot - lot / (M 15 0) * (M 15 0)), .int 3, .ref 0], M, J)) (fl_n 4 rfl) <|
      fl_td (s' := (96, [.ref 0, .int lot, .int (lot - lot / (M 15 0) * (M 15 0))], [.int (v_45 3 (lot - lot / (M 15 0) * (M 15 0)) 0 15 (m_44 3 (lot - lot / (M 15 0) * (M 15 0)) 0 42 M))], (m_45 3 (lot - lot / (M 15 0) * (M 15 0)) 0 15 (m_44 3 (lot - lot / (M 15 0) * (M 15 0)) 0 42 M)), J)) (fl_cv (o := some (.int (v_45 3 (lot - lot / (M 15 0) * (M 15 0)) 0 15 (m_44 3 (lot - lot / (M 15 0) * (M 15 0)) 0 42 M)))) rfl rfl rfl rfl (cc_43 M J 3 (lot - lot / (M 15 0) * (M 15 0)) 0) rfl) <|
      fx_gen (p := fun (MM260 : fl_M) => fl_dn fB89 (96, [.ref 0, .int lot, .int (lot - lot / (M 15 0) * (M 15 0))], [.int (v_45 3 (lot - lot / (M 15 0) * (M 15 0)) 0 15 (m_44 3 (lot - lot / (M 15 0) * (M 15 0)) 0 42 M))], MM260, J) (none, (m_89 lot M), J)) (m_45 3 (lot - lot / (M 15 0) * (M 15 0)) 0 15 (m_44 3 (lot - lot / (M 15 0) * (M 15 0)) 0 42 M)) (fun MM260 eMM260 =>
       fl_td (s' := (108, [.ref 0, .int lot, .int (lot - lot / (M 15 0) * (M 15 0))], [], MM260, J)) (fl_n 2 rfl) <|
       fl_rt rfl (fun _ => rfl) (by subst eMM260; unfold m_89; first | (simp only [if_pos h1, if_neg h2, if_neg h4, if_neg h6, if_pos h8]; done) | rfl))) (fun h8 =>
      fl_td (s' := (100, [.ref 0, .int lot, .int (lot - lot / (M 15 0) * (M 15 0))], [], M, J)) (fl_swd rfl rfl (by have e0 := fl_ne 0 rfl h2; have e1 := fl_ne 1 rfl h4; have e2 := fl_ne 2 rfl h6; have e3 := fl_ne 3 rfl h8; omega)) <|
      fl_td (s' := (104, [.ref 0, .int lot, .int (lot - lot / (M 15 0) * (M 15 0))], [.int 0, .int 0, .int 0, .ref 0], M, J)) (fl_n 4 rfl) <|
      fl_td (s' := (107, [.ref 0, .int lot, .int (lot - lot / (M 15 0) * (M 15 0))], [.int (v_45 0 0 0 15 (m_44 0 0 0 42 M))], (m_45 0 0 0 15 (m_44 0 0 0 42 M)), J)) (fl_cv (o := some (.int (v_45 0 0 0 15 (m_44 0 0 0 42 M)))) rfl rfl rfl rfl (cc_43 M J 0 0 0) rfl) <|
      fx_gen (p := fun (MM261 : fl_M) => fl_dn fB89 (107, [.ref 0, .int lot, .int (lot - lot / (M 15 0) * (M 15 0))], [.int (v_45 0 0 0 15 (m_44 0 0 0 42 M))], MM261, J) (none, (m_89 lot M), J)) (m_45 0 0 0 15 (m_44 0 0 0 42 M)) (fun MM261 eMM261 =>
       fl_td (s' := (108, [.ref 0, .int lot, .int (lot - lot / (M 15 0) * (M 15 0))], [], MM261, J)) (fl_n 1 rfl) <|
       fl_rt rfl (fun _ => rfl) (by subst eMM261; unfold m_89; first | (simp only [if_pos h1, if_neg h2, if_neg h4, if_neg h6, if_neg h8]; done) | rfl))))))) (fun h1 =>
  fl_td (s' := (31, [.ref 0, .int lot, .int 0], [.int ((lot / 8) - (lot / 8) / 8 * 8)], M, J)) (fl_n 7 rfl) <|
  fl_dc (c := ((lot / 8) - (lot / 8) / 8 * 8) = 0) (fun h12 =>
   fl_td (s' := (60, [.ref 0, .int lot, .int 0], [], M, J)) (fl_sw h12 rfl) <|
   fl_td (s' := (71, [.ref 0, .int lot, .int 0], [.int (1 + ((lot / 64) - (lot / 64) / 5 * 5)), .int 0, .int 1, .ref 0], M, J)) (fl_n 10 rfl) <|
   fl_td (s' := (74, [.ref 0, .int lot, .int 0], [.int (v_45 1 0 (1 + ((lot / 64) - (lot / 64) / 5 * 5)) 15 (m_44 1 0 (1 + ((lot / 64) - (lot / 64) / 5 * 5)) 42 M))], (m_45 1 0 (1 + ((lot / 64) - (lot / 64) / 5 * 5)) 15 (m_44 1 0 (1 + ((lot / 64) - (lot / 64) / 5 * 5)) 42 M)), J)) (fl_cv (o := some (.int (v_45 1 0 (1 + ((lot / 64) - (lot / 64) / 5 * 5)) 15 (m_44 1 0 (1 + ((lot / 64) - (lot / 64) / 5 * 5)) 42 M)))) rfl rfl rfl rfl (cc_43 M J 1 0 (1 + ((lot / 64) - (lot / 64) / 5 * 5))) rfl) <|
   fx_gen (p := fun (MM262 : fl_M) => fl_dn fB89 (74, [.ref 0, .int lot, .int 0], [.int (v_45 1 0 (1 + ((lot / 64) - (lot / 64) / 5 * 5)) 15 (m_44 1 0 (1 + ((lot / 64) - (lot / 64) / 5 * 5)) 42 M))], MM262, J) (none, (m_89 lot M), J)) (m_45 1 0 (1 + ((lot / 64) - (lot / 64) / 5 * 5)) 15 (m_44 1 0 (1 + ((lot / 64) - (lot / 64) / 5 * 5)) 42 M)) (fun MM262 eMM262 =>
    fl_td (s' := (108, [.ref 0, .int lot, .int 0], [], MM262, J)) (fl_n 2 rfl) <|
    fl_rt rfl (fun _ => rfl) (by subst eMM262; unfold m_89; first | (simp only [if_neg h1, if_pos h12]; done) | rfl))) (fun h12 =>
   fl_dc (c := ((lot / 8) - (lot / 8) / 8 * 8) = 1) (fun h14 =>
    fl_td (s' := (60, [.ref 0, .int lot, .int 0], [], M, J)) (fl_sw h14 rfl) <|
    fl_td (s' := (71, [.ref 0, .int lot, .int 0], [.int (1 + ((lot / 64) - (lot / 64) / 5 * 5)), .int 0, .int 1, .ref 0], M, J)) (fl_n 10 rfl) <|
    fl_td (s' := (74, [.ref 0, .int lot, .int 0], [.int (v_45 1 0 (1 + ((lot / 64) - (lot / 64) / 5 * 5)) 15 (m_44 1 0 (1 + ((lot / 64) - (lot / 64) / 5 * 5)) 42 M))], (m_45 1 0 (1 + ((lot / 64) - (lot / 64) / 5 * 5)) 15 (m_44 1 0 (1 + ((lot / 64) - (lot / 64) / 5 * 5)) 42 M)), J)) (fl_cv (o := some (.int (v_45 1 0 (1 + ((lot / 64) - (lot / 64) / 5 * 5)) 15 (m_44 1 0 (1 + ((lot / 64) - (lot / 64) / 5 * 5)) 42 M)))) rfl rfl rfl rfl (cc_43 M J 1 0 (1 + ((lot / 64) - (lot / 64) / 5 * 5))) rfl) <|
    fx_gen (p := fun (MM263 : fl_M) => fl_dn fB89 (74, [.ref 0, .int lot, .int 0], [.int (v_45 1 0 (1 + ((lot / 64) - (lot / 64) / 5 * 5)) 15 (m_44 1 0 (1 + ((lot / 64) - (lot / 64) / 5 * 5)) 42 M))], MM263, J) (none, (m_89 lot M), J)) (m_45 1 0 (1 + ((lot / 64) - (lot / 64) / 5 * 5)) 15 (m_44 1 0 (1 + ((lot / 64) - (lot / 64) / 5 * 5)) 42 M)) (fun MM263 eMM263 =>
     fl_td (s' := (108, [.ref 0, .int lot, .int 0], [], MM263, J)) (fl_n 2 rfl) <|
     fl_rt rfl (fun _ => rfl) (by subst eMM263; unfold m_89; first | (simp only [if_neg h1, if_neg h12, if_pos h14]; done) | rfl))) (fun h14 =>
    fl_dc (c := ((lot / 8) - (lot / 8) / 8 * 8) = 2) (fun h16 =>
     fl_td (s' := (78, [.ref 0, .int lot, .int 0], [], M, J)) (fl_sw h16 rfl) <|
     fl_td (s' := (82, [.ref 0, .int lot, .int 0], [.int 0, .int 0, .int 2, .ref 0], M, J)) (fl_n 4 rfl) <|
     fl_td (s' := (85, [.ref 0, .int lot, .int 0], [.int (v_45 2 0 0 15 (m_44 2 0 0 42 M))], (m_45 2 0 0 15 (m_44 2 0 0 42 M)), J)) (fl_cv (o := some (.int (v_45 2 0 0 15 (m_44 2 0 0 42 M)))) rfl rfl rfl rfl (cc_43 M J 2 0 0) rfl) <|
     fx_gen (p := fun (MM264 : fl_M) => fl_dn fB89 (85, [.ref 0, .int lot, .int 0], [.int (v_45 2 0 0 15 (m_44 2 0 0 42 M))], MM264, J) (none, (m_89 lot M), J)) (m_45 2 0 0 15 (m_44 2 0 0 42 M)) (fun MM264 eMM264 =>
      fl_td (s' := (108, [.ref 0, .int lot, .int 0], [], MM264, J)) (fl_n 2 rfl) <|
      fl_rt rfl (fun _ => rfl) (by subst eMM264; unfold m_89; first | (simp only [if_neg h1, if_neg h12, if_neg h14, if_pos h16]; done) | rfl))) (fun h16 =>
     fl_dc (c := ((lot / 8) - (lot / 8) / 8 * 8) = 3) (fun h18 =>
      fl_td (s' := (89, [.ref 0, .int lot, .int 0], [], M, J)) (fl_sw h18 rfl) <|
      fl_td (s' := (93, [.ref 0, .int lot, .int 0], [.int 0, .int 0, .int 3, .ref 0], M, J)) (fl_n 4 rfl) <|
      fl_td (s' := (96, [.ref 0, .int lot, .int 0], [.int (v_45 3 0 0 15 (m_44 3 0 0 42 M))], (m_45 3 0 0 15 (m_44 3 0 0 42 M)), J)) (fl_cv (o := some (.int (v_45 3 0 0 15 (m_44 3 0 0 42 M)))) rfl rfl rfl rfl (cc_43 M J 3 0 0) rfl) <|
      fx_gen (p := fun (MM265 : fl_M) => fl_dn fB89 (96, [.ref 0, .int lot, .int 0], [.int (v_45 3 0 0 15 (m_44 3 0 0 42 M))], MM265, J) (none, (m_89 lot M), J)) (m_45 3 0 0 15 (m_44 3 0 0 42 M)) (fun MM265 eMM265 =>
       fl_td (s' := (108, [.ref 0, .int lot, .int 0], [], MM265, J)) (fl_n 2 rfl) <|
       fl_rt rfl (fun _ => rfl) (by subst eMM265; unfold m_89; first | (simp only [if_neg h1, if_neg h12, if_neg h14, if_neg h16, if_pos h18]; done) | rfl))) (fun h18 =>
      fl_td (s' := (100, [.ref 0, .int lot, .int 0], [], M, J)) (fl_swd rfl rfl (by have e0 := fl_ne 0 rfl h12; have e1 := fl_ne 1 rfl h14; have e2 := fl_ne 2 rfl h16; have e3 := fl_ne 3 rfl h18; omega)) <|
      fl_td (s' := (104, [.ref 0, .int lot, .int 0], [.int 0, .int 0, .int 0, .ref 0], M, J)) (fl_n 4 rfl) <|
      fl_td (s' := (107, [.ref 0, .int lot, .int 0], [.int (v_45 0 0 0 15 (m_44 0 0 0 42 M))], (m_45 0 0 0 15 (m_44 0 0 0 42 M)), J)) (fl_cv (o := some (.int (v_45 0 0 0 15 (m_44 0 0 0 42 M)))) rfl rfl rfl rfl (cc_43 M J 0 0 0) rfl) <|
      fx_gen (p := fun (MM266 : fl_M) => fl_dn fB89 (107, [.ref 0, .int lot, .int 0], [.int (v_45 0 0 0 15 (m_44 0 0 0 42 M))], MM266, J) (none, (m_89 lot M), J)) (m_45 0 0 0 15 (m_44 0 0 0 42 M)) (fun MM266 eMM266 =>
       fl_td (s' := (108, [.ref 0, .int lot, .int 0], [], MM266, J)) (fl_n 1 rfl) <|
       fl_rt rfl (fun _ => rfl) (by subst eMM266; unfold m_89; first | (simp only [if_neg h1, if_neg h12, if_neg h14, if_neg h16, if_neg h18]; done) | rfl)))))))
def fB88 : sm_P := (fun pc => sm_ch sm_t88 pc, sm_Kn 2 6 none, fun x => sm_lk sm_ca2 x, some .int)
-- MiceRegisters.lots 60
def ls_88_60 (m : Nat) (q : (Int64 × fl_M)) : (Int64 × fl_M) := (((q.1 * 48271) - (q.1 * 48271) / 2147483647 * 2147483647), (m_89 (((q.1 * 48271) - (q.1 * 48271) / 2147483647 * 2147483647).toInt32) q.2))
def lq_88_60 (l3 : Int64) (M : fl_M) (m : Nat) : (Int64 × fl_M) := fx_it ls_88_60 m (l3, M)
theorem lqs_88_60 (l3 : Int64) (M : fl_M) (m : Nat) : lq_88_60 l3 M (m + 1) = ls_88_60 m (lq_88_60 l3 M m) := by
  unfold lq_88_60
  exact fx_it_s _ _ _
def lr_88_60 (i1 : Int32) (l3 : Int64) (M : fl_M) : (Int64 × fl_M) := (lq_88_60 l3 M ((i1).toNatClampNeg))
theorem ts_88_60 {r : fl_Q} (i1 i2 i5 : Int32) (l3 : Int64) (M : fl_M) (J : fl_J) (q1 : (i5 < i1) → fl_dn fB88 (60, [.ref 0, .int i1, .int i2, .long ((l3 * 48271) - (l3 * 48271) / 2147483647 * 2147483647), .null, .int (i5 + 1)], [], (m_89 (((l3 * 48271) - (l3 * 48271) / 2147483647 * 2147483647).toInt32) M), J) r) (q2 : (¬ (i5 < i1)) → fl_dn fB88 (88, [.ref 0, .int i1, .int i2, .long l3, .null, .int i5], [], M, J) r) : fl_dn fB88 (60, [.ref 0, .int i1, .int i2, .long l3, .null, .int i5], [], M, J) r :=
 fl_td (s' := (63, [.ref 0, .int i1, .int i2, .long l3, .null, .int i5], [.int i1, .int i5], M, J)) (fl_n 2 rfl) <|
 fl_dnot (fl_ic (t := 88) rfl rfl) fl_nlt (fun h1 =>
  fl_td (s' := (79, [.ref 0, .int i1, .int i2, .long ((l3 * 48271) - (l3 * 48271) / 2147483647 * 2147483647), .null, .int i5], [.int (((l3 * 48271) - (l3 * 48271) / 2147483647 * 2147483647).toInt32), .ref 0], M, J)) (fl_n 9 rfl) <|
  fl_td (s' := (82, [.ref 0, .int i1, .int i2, .long ((l3 * 48271) - (l3 * 48271) / 2147483647 * 2147483647), .null, .int i5], [], (m_89 (((l3 * 48271) - (l3 * 48271) / 2147483647 * 2147483647).toInt32) M), J)) (fl_cv (o := none) rfl rfl rfl rfl (cc_89 M J (((l3 * 48271) - (l3 * 48271) / 2147483647 * 2147483647).toInt32)) rfl) <|
  fx_gen (p := fun (MM267 : fl_M) => fl_dn fB88 (82, [.ref 0, .int i1, .int i2, .long ((l3 * 48271) - (l3 * 48271) / 2147483647 * 2147483647), .null, .int i5], [], MM267, J) r) (m_89 (((l3 * 48271) - (l3 * 48271) / 2147483647 * 2147483647).toInt32) M) (fun MM267 eMM267 =>
   fl_td (s' := (60, [.ref 0, .int i1, .int i2, .long ((l3 * 48271) - (l3 * 48271) / 2147483647 * 2147483647), .null, .int (i5 + 1)], [], MM267, J)) (fl_n 2 rfl) <|
   (by subst eMM267; exact (q1 h1)))) (fun h1 =>
  (q2 h1))
theorem lp_88_60 {r : fl_Q} (i1 i2 : Int32) (l3 : Int64) (M : fl_M) (J : fl_J) (hx : ∀ w5 : Value, fl_dn fB88 (88, [.ref 0, .int i1, .int i2, .long ((lr_88_60 i1 l3 M).1), .null, w5], [], ((lr_88_60 i1 l3 M).2), J) r) : fl_dn fB88 (60, [.ref 0, .int i1, .int i2, .long l3, .null, .int 0], [], M, J) r := by
  have hb := fi_bd i1
  have key : ∀ (n m : Nat), m + n = (i1).toNatClampNeg → fl_dn fB88 (60, [.ref 0, .int i1, .int i2, .long ((lq_88_60 l3 M m).1), .null, .int (Int32.ofNat m)], [], ((lq_88_60 l3 M m).2), J) r := by
    intro n
    induction n with
    | zero =>
      intro m hm
      have hm : m = (i1).toNatClampNeg := by omega
      have hn : ¬ ((Int32.ofNat m) < i1) := fun z => by have z := (fi_lt (by omega)).mp z; omega
      exact ts_88_60 i1 i2 (Int32.ofNat m) ((lq_88_60 l3 M m).1) ((lq_88_60 l3 M m).2) J (fun h1 => absurd h1 hn) (fun h1 => (by have e : lr_88_60 i1 l3 M = lq_88_60 l3 M m := (by show lq_88_60 l3 M ((i1).toNatClampNeg) = _; rw [← hm]); rw [e] at hx; exact hx _))
    | succ n ih =>
      intro m hm
      have hp : (Int32.ofNat m) < i1 := by exact (fi_lt (by omega)).mpr (by omega)
      refine ts_88_60 i1 i2 (Int32.ofNat m) ((lq_88_60 l3 M m).1) ((lq_88_60 l3 M m).2) J (fun h1 => ?_) (fun h1 => absurd hp h1)
      · have e : lq_88_60 l3 M (m + 1) = (((((lq_88_60 l3 M m).1) * 48271) - (((lq_88_60 l3 M m).1) * 48271) / 2147483647 * 2147483647), (m_89 (((((lq_88_60 l3 M m).1) * 48271) - (((lq_88_60 l3 M m).1) * 48271) / 2147483647 * 2147483647).toInt32) ((lq_88_60 l3 M m).2))) := by
          rw [lqs_88_60]
          unfold ls_88_60
          rfl
        have q := ih (m + 1) (by omega)
        rw [e] at q
        first | (rw [fi_s]; exact q) | (rw [← fi_s] at q; exact q) | (simp only [fi_s] at q ⊢; exact q)
  exact key ((i1).toNatClampNeg) 0 (Nat.zero_add _)
def v_88 (n seed : Int32) (M : fl_M) : Int32 := (if n < 1 then (-1) else (if 20 < n then (-1) else (if seed < 1 then (-1) else (if seed < 2147483647 then (if (M 15 1) = 0 then (-4) else (if 40 < ((M 42 0) + n) then (-2) else (lr_66_4 0 15 ((lr_88_60 n seed.toInt64 M).2)))) else (-1)))))
def m_88 (n seed : Int32) (M : fl_M) : fl_M := (if n < 1 then M else (if 20 < n then M else (if seed < 1 then M else (if seed < 2147483647 then (if (M 15 1) = 0 then M else (if 40 < ((M 42 0) + n) then M else ((lr_88_60 n seed.toInt64 M).2))) else M))))
theorem cc_88 (M : fl_M) (J : fl_J) (n seed : Int32) : fl_C 88 [.ref 0, .int n, .int seed] M J (some (.int (v_88 n seed M)), (m_88 n seed M), J) :=
 fl_Co (B := fB88) rfl rfl <|
 fl_td (s' := (2, [.ref 0, .int n, .int seed, .null, .null, .null], [.int 1, .int n], M, J)) (fl_n 2 rfl) <|
 fl_dtwo (fl_ic (t := 22) rfl rfl) fl_cT (fun h1 =>
  fl_td (s' := (23, [.ref 0, .int n, .int seed, .null, .null, .null], [.int (-1)], M, J)) (fl_n 1 rfl) <|
  fl_rt rfl (fun _ => rfl) (by unfold v_88 m_88; first | (simp only [if_pos h1]; done) | rfl)) (fun h1 =>
  fl_td (s' := (8, [.ref 0, .int n, .int seed, .null, .null, .null], [.int 20, .int n], M, J)) (fl_n 2 rfl) <|
  fl_dtwo (fl_ic (t := 22) rfl rfl) fl_cT (fun h2 =>
   fl_td (s' := (23, [.ref 0, .int n, .int seed, .null, .null, .null], [.int (-1)], M, J)) (fl_n 1 rfl) <|
   fl_rt rfl (fun _ => rfl) (by unfold v_88 m_88; first | (simp only [if_neg h1, if_pos h2]; done) | rfl)) (fun h2 =>
   fl_td (s' := (13, [.ref 0, .int n, .int seed, .null, .null, .null], [.int 1, .int seed], M, J)) (fl_n 2 rfl) <|
   fl_dtwo (fl_ic (t := 22) rfl rfl) fl_cT (fun h3 =>
    fl_td (s' := (23, [.ref 0, .int n, .int seed, .null, .null, .null], [.int (-1)], M, J)) (fl_n 1 rfl) <|
    fl_rt rfl (fun _ => rfl) (by unfold v_88 m_88; first | (simp only [if_neg h1, if_neg h2, if_pos h3]; done) | rfl)) (fun h3 =>
    fl_td (s' := (19, [.ref 0, .int n, .int seed, .null, .null, .null], [.int 2147483647, .int seed], M, J)) (fl_n 2 rfl) <|
    fl_dtwo (fl_ic (t := 24) rfl rfl) fl_cT (fun h4 =>
     fl_td (s' := (31, [.ref 0, .int n, .int seed, .null, .null, .null], [.int (M 15 1)], M, J)) (fl_n 3 rfl) <|
     fl_dnot (fl_if (t := 37) rfl rfl) fl_cF (fun h5 =>
      fl_td (s' := (36, [.ref 0, .int n, .int seed, .null, .null, .null], [.int (-4)], M, J)) (fl_n 1 rfl) <|
      fl_rt rfl (fun _ => rfl) (by unfold v_88 m_88; first | (simp only [if_neg h1, if_neg h2, if_neg h3, if_pos h4, if_pos h5]; done) | rfl)) (fun h5 =>
      fl_td (s' := (48, [.ref 0, .int n, .int seed, .null, .null, .null], [.int 40, .int ((M 42 0) + n)], M, J)) (fl_n 6 rfl) <|
      fl_dnot (fl_ic (t := 54) rfl rfl) fl_nle (fun h6 =>
       fl_td (s' := (53, [.ref 0, .int n, .int seed, .null, .null, .null], [.int (-2)], M, J)) (fl_n 1 rfl) <|
       fl_rt rfl (fun _ => rfl) (by unfold v_88 m_88; first | (simp only [if_neg h1, if_neg h2, if_neg h3, if_pos h4, if_neg h5, if_pos h6]; done) | rfl)) (fun h6 =>
       fl_td (s' := (60, [.ref 0, .int n, .int seed, .long seed.toInt64, .null, .int 0], [], M, J)) (fl_n 5 rfl) <|
       lp_88_60 n seed seed.toInt64 M J (fun u268 =>
        fx_gen (p := fun (MM269 : fl_M) => fl_dn fB88 (88, [.ref 0, .int n, .int seed, .long ((lr_88_60 n seed.toInt64 M).1), .null, u268], [], MM269, J) (some (.int (v_88 n seed M)), (m_88 n seed M), J)) ((lr_88_60 n seed.toInt64 M).2) (fun MM269 eMM269 =>
         fx_gen (p := fun (LL270 : Int64) => fl_dn fB88 (88, [.ref 0, .int n, .int seed, .long LL270, .null, u268], [], MM269, J) (some (.int (v_88 n seed M)), (m_88 n seed M), J)) ((lr_88_60 n seed.toInt64 M).1) (fun LL270 eLL270 =>
          fl_td (s' := (92, [.ref 0, .int n, .int seed, .long LL270, .null, u268], [.ref 15], MM269, J)) (fl_n 2 rfl) <|
          fl_td (s' := (95, [.ref 0, .int n, .int seed, .long LL270, .null, u268], [.int (lr_66_4 0 15 MM269)], MM269, J)) (fl_cv (o := some (.int (lr_66_4 0 15 MM269))) rfl rfl rfl rfl (cc_66 MM269 J 15) rfl) <|
          fx_gen (p := fun (II271 : Int32) => fl_dn fB88 (95, [.ref 0, .int n, .int seed, .long LL270, .null, u268], [.int II271], MM269, J) (some (.int (v_88 n seed M)), (m_88 n seed M), J)) (lr_66_4 0 15 MM269) (fun II271 eII271 =>
           fl_rt rfl (fun _ => rfl) (by subst eMM269; subst eLL270; subst eII271; unfold v_88 m_88; first | (simp only [if_neg h1, if_neg h2, if_neg h3, if_pos h4, if_neg h5, if_neg h6]; done) | rfl)))))))) (fun h4 =>
     fl_td (s' := (23, [.ref 0, .int n, .int seed, .null, .null, .null], [.int (-1)], M, J)) (fl_n 1 rfl) <|
     fl_rt rfl (fun _ => rfl) (by unfold v_88 m_88; first | (simp only [if_neg h1, if_neg h2, if_neg h3, if_neg h4]; done) | rfl)))))
