-- MiceRegisters$Register.takeFrom 106
def ls_23_106 (r0 r1 : Nat) (m : Nat) (q : fl_M) : fl_M := (fl_u (fl_u (fl_u (fl_u q (r0 + 5) (Int32.ofNat m).toNatClampNeg (q (r1 + 5) (Int32.ofNat m).toNatClampNeg)) (r0 + 6) (Int32.ofNat m).toNatClampNeg ((fl_u q (r0 + 5) (Int32.ofNat m).toNatClampNeg (q (r1 + 5) (Int32.ofNat m).toNatClampNeg)) (r1 + 6) (Int32.ofNat m).toNatClampNeg)) (r0 + 7) (Int32.ofNat m).toNatClampNeg ((fl_u (fl_u q (r0 + 5) (Int32.ofNat m).toNatClampNeg (q (r1 + 5) (Int32.ofNat m).toNatClampNeg)) (r0 + 6) (Int32.ofNat m).toNatClampNeg ((fl_u q (r0 + 5) (Int32.ofNat m).toNatClampNeg (q (r1 + 5) (Int32.ofNat m).toNatClampNeg)) (r1 + 6) (Int32.ofNat m).toNatClampNeg)) (r1 + 7) (Int32.ofNat m).toNatClampNeg)) (r0 + 8) (Int32.ofNat m).toNatClampNeg ((fl_u (fl_u (fl_u q (r0 + 5) (Int32.ofNat m).toNatClampNeg (q (r1 + 5) (Int32.ofNat m).toNatClampNeg)) (r0 + 6) (Int32.ofNat m).toNatClampNeg ((fl_u q (r0 + 5) (Int32.ofNat m).toNatClampNeg (q (r1 + 5) (Int32.ofNat m).toNatClampNeg)) (r1 + 6) (Int32.ofNat m).toNatClampNeg)) (r0 + 7) (Int32.ofNat m).toNatClampNeg ((fl_u (fl_u q (r0 + 5) (Int32.ofNat m).toNatClampNeg (q (r1 + 5) (Int32.ofNat m).toNatClampNeg)) (r0 + 6) (Int32.ofNat m).toNatClampNeg ((fl_u q (r0 + 5) (Int32.ofNat m).toNatClampNeg (q (r1 + 5) (Int32.ofNat m).toNatClampNeg)) (r1 + 6) (Int32.ofNat m).toNatClampNeg)) (r1 + 7) (Int32.ofNat m).toNatClampNeg)) (r1 + 8) (Int32.ofNat m).toNatClampNeg))
def lq_23_106 (r0 r1 : Nat) (M : fl_M) (m : Nat) : fl_M := fx_it (ls_23_106 r0 r1) m M
theorem lqs_23_106 (r0 r1 : Nat) (M : fl_M) (m : Nat) : lq_23_106 r0 r1 M (m + 1) = (ls_23_106 r0 r1) m (lq_23_106 r0 r1 M m) := by
  unfold lq_23_106
  exact fx_it_s _ _ _
def lr_23_106 (r0 r1 : Nat) (M : fl_M) : fl_M := (lq_23_106 r0 r1 M (((M r0 1)).toNatClampNeg))
theorem ts_23_106 {r : fl_Q} (i2 : Int32) (r0 r1 : Nat) (M : fl_M) (J : fl_J) (q1 : (i2 < (M r0 1)) → fl_dn fB23 (106, [.ref r0, .ref r1, .int (i2 + 1)], [], (fl_u (fl_u (fl_u (fl_u M (r0 + 5) i2.toNatClampNeg (M (r1 + 5) i2.toNatClampNeg)) (r0 + 6) i2.toNatClampNeg ((fl_u M (r0 + 5) i2.toNatClampNeg (M (r1 + 5) i2.toNatClampNeg)) (r1 + 6) i2.toNatClampNeg)) (r0 + 7) i2.toNatClampNeg ((fl_u (fl_u M (r0 + 5) i2.toNatClampNeg (M (r1 + 5) i2.toNatClampNeg)) (r0 + 6) i2.toNatClampNeg ((fl_u M (r0 + 5) i2.toNatClampNeg (M (r1 + 5) i2.toNatClampNeg)) (r1 + 6) i2.toNatClampNeg)) (r1 + 7) i2.toNatClampNeg)) (r0 + 8) i2.toNatClampNeg ((fl_u (fl_u (fl_u M (r0 + 5) i2.toNatClampNeg (M (r1 + 5) i2.toNatClampNeg)) (r0 + 6) i2.toNatClampNeg ((fl_u M (r0 + 5) i2.toNatClampNeg (M (r1 + 5) i2.toNatClampNeg)) (r1 + 6) i2.toNatClampNeg)) (r0 + 7) i2.toNatClampNeg ((fl_u (fl_u M (r0 + 5) i2.toNatClampNeg (M (r1 + 5) i2.toNatClampNeg)) (r0 + 6) i2.toNatClampNeg ((fl_u M (r0 + 5) i2.toNatClampNeg (M (r1 + 5) i2.toNatClampNeg)) (r1 + 6) i2.toNatClampNeg)) (r1 + 7) i2.toNatClampNeg)) (r1 + 8) i2.toNatClampNeg)), J) r) (q2 : (¬ (i2 < (M r0 1))) → fl_dn fB23 (168, [.ref r0, .ref r1, .int i2], [], M, J) r) : fl_dn fB23 (106, [.ref r0, .ref r1, .int i2], [], M, J) r :=
 fl_td (s' := (111, [.ref r0, .ref r1, .int i2], [.int (M r0 1), .int i2], M, J)) (fl_n 3 rfl) <|
 fl_dnot (fl_ic (t := 168) rfl rfl) fl_nlt (fun h1 =>
  fl_td (s' := (106, [.ref r0, .ref r1, .int (i2 + 1)], [], (fl_u (fl_u (fl_u (fl_u M (r0 + 5) i2.toNatClampNeg (M (r1 + 5) i2.toNatClampNeg)) (r0 + 6) i2.toNatClampNeg ((fl_u M (r0 + 5) i2.toNatClampNeg (M (r1 + 5) i2.toNatClampNeg)) (r1 + 6) i2.toNatClampNeg)) (r0 + 7) i2.toNatClampNeg ((fl_u (fl_u M (r0 + 5) i2.toNatClampNeg (M (r1 + 5) i2.toNatClampNeg)) (r0 + 6) i2.toNatClampNeg ((fl_u M (r0 + 5) i2.toNatClampNeg (M (r1 + 5) i2.toNatClampNeg)) (r1 + 6) i2.toNatClampNeg)) (r1 + 7) i2.toNatClampNeg)) (r0 + 8) i2.toNatClampNeg ((fl_u (fl_u (fl_u M (r0 + 5) i2.toNatClampNeg (M (r1 + 5) i2.toNatClampNeg)) (r0 + 6) i2.toNatClampNeg ((fl_u M (r0 + 5) i2.toNatClampNeg (M (r1 + 5) i2.toNatClampNeg)) (r1 + 6) i2.toNatClampNeg)) (r0 + 7) i2.toNatClampNeg ((fl_u (fl_u M (r0 + 5) i2.toNatClampNeg (M (r1 + 5) i2.toNatClampNeg)) (r0 + 6) i2.toNatClampNeg ((fl_u M (r0 + 5) i2.toNatClampNeg (M (r1 + 5) i2.toNatClampNeg)) (r1 + 6) i2.toNatClampNeg)) (r1 + 7) i2.toNatClampNeg)) (r1 + 8) i2.toNatClampNeg)), J)) (fl_n 34 rfl) <|
  (q1 h1)) (fun h1 =>
  (q2 h1))
theorem lk_23_106 (r0 r1 : Nat) (M : fl_M) (m : Nat) : ((lq_23_106 r0 r1 M m) r0 1) = (M r0 1) := by
  induction m with
  | zero => rfl
  | succ m ih =>
    rw [← ih]
    rw [lqs_23_106]
    generalize lq_23_106 r0 r1 M m = q
    unfold ls_23_106
    (repeat' split) <;> first | with_reducible rfl | (simp [fl_u, fr_22_18, fr_22_53]; done) | rfl
theorem lp_23_106 {r : fl_Q} (r0 r1 : Nat) (M : fl_M) (J : fl_J) (hx : ∀ w2 : Value, fl_dn fB23 (168, [.ref r0, .ref r1, w2], [], (lr_23_106 r0 r1 M), J) r) : fl_dn fB23 (106, [.ref r0, .ref r1, .int 0], [], M, J) r := by
  have hb := fi_bd (M r0 1)
  have hB := fun m => lk_23_106 r0 r1 M m
  have key : ∀ (n m : Nat), m + n = ((M r0 1)).toNatClampNeg → fl_dn fB23 (106, [.ref r0, .ref r1, .int (Int32.ofNat m)], [], (lq_23_106 r0 r1 M m), J) r := by
    intro n
    induction n with
    | zero =>
      intro m hm
      have hm : m = ((M r0 1)).toNatClampNeg := by omega
      have hn : ¬ ((Int32.ofNat m) < ((lq_23_106 r0 r1 M m) r0 1)) := fun z => by rw [hB m] at z; have z := (fi_lt (by omega)).mp z; omega
      exact ts_23_106 (Int32.ofNat m) r0 r1 (lq_23_106 r0 r1 M m) J (fun h1 => absurd h1 hn) (fun h1 => (by have e : lr_23_106 r0 r1 M = lq_23_106 r0 r1 M m := (by show lq_23_106 r0 r1 M (((M r0 1)).toNatClampNeg) = _; rw [← hm]); rw [e] at hx; exact hx _))
    | succ n ih =>
      intro m hm
      have hp : (Int32.ofNat m) < ((lq_23_106 r0 r1 M m) r0 1) := by rw [hB m]; exact (fi_lt (by omega)).mpr (by omega)
      refine ts_23_106 (Int32.ofNat m) r0 r1 (lq_23_106 r0 r1 M m) J (fun h1 => ?_) (fun h1 => absurd hp h1)
      · have e : lq_23_106 r0 r1 M (m + 1) = (fl_u (fl_u (fl_u (fl_u (lq_23_106 r0 r1 M m) (r0 + 5) (Int32.ofNat m).toNatClampNeg ((lq_23_106 r0 r1 M m) (r1 + 5) (Int32.ofNat m).toNatClampNeg)) (r0 + 6) (Int32.ofNat m).toNatClampNeg ((fl_u (lq_23_106 r0 r1 M m) (r0 + 5) (Int32.ofNat m).toNatClampNeg ((lq_23_106 r0 r1 M m) (r1 + 5) (Int32.ofNat m).toNatClampNeg)) (r1 + 6) (Int32.ofNat m).toNatClampNeg)) (r0 + 7) (Int32.ofNat m).toNatClampNeg ((fl_u (fl_u (lq_23_106 r0 r1 M m) (r0 + 5) (Int32.ofNat m).toNatClampNeg ((lq_23_106 r0 r1 M m) (r1 + 5) (Int32.ofNat m).toNatClampNeg)) (r0 + 6) (Int32.ofNat m).toNatClampNeg ((fl_u (lq_23_106 r0 r1 M m) (r0 + 5) (Int32.ofNat m).toNatClampNeg ((lq_23_106 r0 r1 M m) (r1 + 5) (Int32.ofNat m).toNatClampNeg)) (r1 + 6) (Int32.ofNat m).toNatClampNeg)) (r1 + 7) (Int32.ofNat m).toNatClampNeg)) (r0 + 8) (Int32.ofNat m).toNatClampNeg ((fl_u (fl_u (fl_u (lq_23_106 r0 r1 M m) (r0 + 5) (Int32.ofNat m).toNatClampNeg ((lq_23_106 r0 r1 M m) (r1 + 5) (Int32.ofNat m).toNatClampNeg)) (r0 + 6) (Int32.ofNat m).toNatClampNeg ((fl_u (lq_23_106 r0 r1 M m) (r0 + 5) (Int32.ofNat m).toNatClampNeg ((lq_23_106 r0 r1 M m) (r1 + 5) (Int32.ofNat m).toNatClampNeg)) (r1 + 6) (Int32.ofNat m).toNatClampNeg)) (r0 + 7) (Int32.ofNat m).toNatClampNeg ((fl_u (fl_u (lq_23_106 r0 r1 M m) (r0 + 5) (Int32.ofNat m).toNatClampNeg ((lq_23_106 r0 r1 M m) (r1 + 5) (Int32.ofNat m).toNatClampNeg)) (r0 + 6) (Int32.ofNat m).toNatClampNeg ((fl_u (lq_23_106 r0 r1 M m) (r0 + 5) (Int32.ofNat m).toNatClampNeg ((lq_23_106 r0 r1 M m) (r1 + 5) (Int32.ofNat m).toNatClampNeg)) (r1 + 6) (Int32.ofNat m).toNatClampNeg)) (r1 + 7) (Int32.ofNat m).toNatClampNeg)) (r1 + 8) (Int32.ofNat m).toNatClampNeg)) := by
          rw [lqs_23_106]
          unfold ls_23_106
          rfl
        have q := ih (m + 1) (by omega)
        rw [e] at q
        first | (rw [fi_s]; exact q) | (rw [← fi_s] at q; exact q) | (simp only [fi_s] at q ⊢; exact q)
  exact key (((M r0 1)).toNatClampNeg) 0 (Nat.zero_add _)
def m_23 (T O : Nat) (M : fl_M) : fl_M := (lr_23_106 T O (lr_23_42 T O (fl_u (fl_u (fl_u (fl_u (fl_u M T 0 (M O 0)) T 1 ((fl_u M T 0 (M O 0)) O 1)) T 2 ((fl_u (fl_u M T 0 (M O 0)) T 1 ((fl_u M T 0 (M O 0)) O 1)) O 2)) T 3 ((fl_u (fl_u (fl_u M T 0 (M O 0)) T 1 ((fl_u M T 0 (M O 0)) O 1)) T 2 ((fl_u (fl_u M T 0 (M O 0)) T 1 ((fl_u M T 0 (M O 0)) O 1)) O 2)) O 3)) T 4 ((fl_u (fl_u (fl_u (fl_u M T 0 (M O 0)) T 1 ((fl_u M T 0 (M O 0)) O 1)) T 2 ((fl_u (fl_u M T 0 (M O 0)) T 1 ((fl_u M T 0 (M O 0)) O 1)) O 2)) T 3 ((fl_u (fl_u (fl_u M T 0 (M O 0)) T 1 ((fl_u M T 0 (M O 0)) O 1)) T 2 ((fl_u (fl_u M T 0 (M O 0)) T 1 ((fl_u M T 0 (M O 0)) O 1)) O 2)) O 3)) O 4))))
theorem cc_23 (M : fl_M) (J : fl_J) (T O : Nat) : fl_C 23 [.ref T, .ref O] M J (none, (m_23 T O M), J) :=
 fl_Co (B := fB23) rfl rfl <|
 fl_td (s' := (42, [.ref T, .ref O, .int 0], [], (fl_u (fl_u (fl_u (fl_u (fl_u M T 0 (M O 0)) T 1 ((fl_u M T 0 (M O 0)) O 1)) T 2 ((fl_u (fl_u M T 0 (M O 0)) T 1 ((fl_u M T 0 (M O 0)) O 1)) O 2)) T 3 ((fl_u (fl_u (fl_u M T 0 (M O 0)) T 1 ((fl_u M T 0 (M O 0)) O 1)) T 2 ((fl_u (fl_u M T 0 (M O 0)) T 1 ((fl_u M T 0 (M O 0)) O 1)) O 2)) O 3)) T 4 ((fl_u (fl_u (fl_u (fl_u M T 0 (M O 0)) T 1 ((fl_u M T 0 (M O 0)) O 1)) T 2 ((fl_u (fl_u M T 0 (M O 0)) T 1 ((fl_u M T 0 (M O 0)) O 1)) O 2)) T 3 ((fl_u (fl_u (fl_u M T 0 (M O 0)) T 1 ((fl_u M T 0 (M O 0)) O 1)) T 2 ((fl_u (fl_u M T 0 (M O 0)) T 1 ((fl_u M T 0 (M O 0)) O 1)) O 2)) O 3)) O 4)), J)) (fl_n 22 rfl) <|
 lp_23_42 T O (fl_u (fl_u (fl_u (fl_u (fl_u M T 0 (M O 0)) T 1 ((fl_u M T 0 (M O 0)) O 1)) T 2 ((fl_u (fl_u M T 0 (M O 0)) T 1 ((fl_u M T 0 (M O 0)) O 1)) O 2)) T 3 ((fl_u (fl_u (fl_u M T 0 (M O 0)) T 1 ((fl_u M T 0 (M O 0)) O 1)) T 2 ((fl_u (fl_u M T 0 (M O 0)) T 1 ((fl_u M T 0 (M O 0)) O 1)) O 2)) O 3)) T 4 ((fl_u (fl_u (fl_u (fl_u M T 0 (M O 0)) T 1 ((fl_u M T 0 (M O 0)) O 1)) T 2 ((fl_u (fl_u M T 0 (M O 0)) T 1 ((fl_u M T 0 (M O 0)) O 1)) O 2)) T 3 ((fl_u (fl_u (fl_u M T 0 (M O 0)) T 1 ((fl_u M T 0 (M O 0)) O 1)) T 2 ((fl_u (fl_u M T 0 (M O 0)) T 1 ((fl_u M T 0 (M O 0)) O 1)) O 2)) O 3)) O 4)) J (fun u28 =>
  fx_gen (p := fun (MM29 : fl_M) => fl_dn fB23 (104, [.ref T, .ref O, u28], [], MM29, J) (none, (m_23 T O M), J)) (lr_23_42 T O (fl_u (fl_u (fl_u (fl_u (fl_u M T 0 (M O 0)) T 1 ((fl_u M T 0 (M O 0)) O 1)) T 2 ((fl_u (fl_u M T 0 (M O 0)) T 1 ((fl_u M T 0 (M O 0)) O 1)) O 2)) T 3 ((fl_u (fl_u (fl_u M T 0 (M O 0)) T 1 ((fl_u M T 0 (M O 0)) O 1)) T 2 ((fl_u (fl_u M T 0 (M O 0)) T 1 ((fl_u M T 0 (M O 0)) O 1)) O 2)) O 3)) T 4 ((fl_u (fl_u (fl_u (fl_u M T 0 (M O 0)) T 1 ((fl_u M T 0 (M O 0)) O 1)) T 2 ((fl_u (fl_u M T 0 (M O 0)) T 1 ((fl_u M T 0 (M O 0)) O 1)) O 2)) T 3 ((fl_u (fl_u (fl_u M T 0 (M O 0)) T 1 ((fl_u M T 0 (M O 0)) O 1)) T 2 ((fl_u (fl_u M T 0 (M O 0)) T 1 ((fl_u M T 0 (M O 0)) O 1)) O 2)) O 3)) O 4))) (fun MM29 eMM29 =>
   fl_td (s' := (106, [.ref T, .ref O, .int 0], [], MM29, J)) (fl_n 2 rfl) <|
   lp_23_106 T O MM29 J (fun u30 =>
    fx_gen (p := fun (MM31 : fl_M) => fl_dn fB23 (168, [.ref T, .ref O, u30], [], MM31, J) (none, (m_23 T O M), J)) (lr_23_106 T O MM29) (fun MM31 eMM31 =>
     fl_rt rfl (fun _ => rfl) (by subst eMM29; subst eMM31; rfl)))))
theorem fr_23_42 {T O : Nat} {M : fl_M} {c j : Nat} (hc : c < T ∨ T + 9 ≤ c) : (lr_23_42 T O M) c j = M c j := by
  have g0 : ¬ c = T := by omega
  have g1 : ¬ c = T + 1 := by omega
  have g2 : ¬ c = T + 2 := by omega
  have g3 : ¬ c = T + 3 := by omega
  have g4 : ¬ c = T + 4 := by omega
  have g5 : ¬ c = T + 5 := by omega
  have g6 : ¬ c = T + 6 := by omega
  have g7 : ¬ c = T + 7 := by omega
  have g8 : ¬ c = T + 8 := by omega
  unfold lr_23_42 lq_23_42
  refine it_k (fun q : fl_M => q c j = M c j) rfl (fun m q hq => ?_)
  unfold ls_23_42
  (try repeat' split) <;> first | with_reducible exact hq | (simp [fl_u, g0, g1, g2, g3, g4, g5, g6, g7, g8, hq]; done)
theorem fr_23_106 {T O : Nat} {M : fl_M} {c j : Nat} (hc : c < T ∨ T + 9 ≤ c) : (lr_23_106 T O M) c j = M c j := by
  have g0 : ¬ c = T := by omega
  have g1 : ¬ c = T + 1 := by omega
  have g2 : ¬ c = T + 2 := by omega
  have g3 : ¬ c = T + 3 := by omega
  have g4 : ¬ c = T + 4 := by omega
  have g5 : ¬ c = T + 5 := by omega
  have g6 : ¬ c = T + 6 := by omega
  have g7 : ¬ c = T + 7 := by omega
  have g8 : ¬ c = T + 8 := by omega
  unfold lr_23_106 lq_23_106
  refine it_k (fun q : fl_M => q c j = M c j) rfl (fun m q hq => ?_)
  unfold ls_23_106
  (try repeat' split) <;> first | with_reducible exact hq | (simp [fl_u, g0, g1, g2, g3, g4, g5, g6, g7, g8, hq]; done)
theorem fr_23 {T O : Nat} {M : fl_M} {c j : Nat} (hc : c < T ∨ T + 9 ≤ c) : (m_23 T O M) c j = M c j := by
  have g0 : ¬ c = T := by omega
  have g1 : ¬ c = T + 1 := by omega
  have g2 : ¬ c = T + 2 := by omega
  have g3 : ¬ c = T + 3 := by omega
  have g4 : ¬ c = T + 4 := by omega
  have g5 : ¬ c = T + 5 := by omega
  have g6 : ¬ c = T + 6 := by omega
  have g7 : ¬ c = T + 7 := by omega
  have g8 : ¬ c = T + 8 := by omega
  unfold m_23
  (try repeat' split) <;> first | with_reducible rfl | (simp [fl_u, g0, g1, g2, g3, g4, g5, g6, g7, g8, fr_23_42 hc, fr_23_106 hc]; done)
