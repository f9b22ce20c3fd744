-- MiceRegisters$Register.takeFrom 106
def ls_23_106 (r0 r1 : Nat) (m : Nat) (q : fl_M) : fl_M := (fl_u (fl_u (fl_u (fl_u q (r0 + 5) (Int32.ofNat m).toNatClampNeg (q (r1 + 5) (Int32.ofNat m).toNatClampNeg)) (r0 + 6) (Int32.ofNat m).toNatClampNeg ((fl_u q (r0 + 5) (Int32.ofNat m).toNatClampNeg (q (r1 + 5) (Int32.ofNat m).toNatClampNeg)) (r1 + 6) (Int32.ofNat m).toNatClampNeg)) (r0 + 7) (Int32.ofNat m).toNatClampNeg ((fl_u (fl_u q (r0 + 5) (Int32.ofNat m).toNatClampNeg (q (r1 + 5) (Int32.ofNat m).toNatClampNeg)) (r0 + 6) (Int32.ofNat m).toNatClampNeg ((fl_u q (r0 + 5) (Int32.ofNat m).toNatClampNeg (q (r1 + 5) (Int32.ofNat m).toNatClampNeg)) (r1 + 6) (Int32.ofNat m).toNatClampNeg)) (r1 + 7) (Int32.ofNat m).toNatClampNeg)) (r0 + 8) (Int32.ofNat m).toNatClampNeg ((fl_u (fl_u (fl_u q (r0 + 5) (Int32.ofNat m).toNatClampNeg (q (r1 + 5) (Int32.ofNat m).toNatClampNeg)) (r0 + 6) (Int32.ofNat m).toNatClampNeg ((fl_u q (r0 + 5) (Int32.ofNat m).toNatClampNeg (q (r1 + 5) (Int32.ofNat m).toNatClampNeg)) (r1 + 6) (Int32.ofNat m).toNatClampNeg)) (r0 + 7) (Int32.ofNat m).toNatClampNeg ((fl_u (fl_u q (r0 + 5) (Int32.ofNat m).toNatClampNeg (q (r1 + 5) (Int32.ofNat m).toNatClampNeg)) (r0 + 6) (Int32.ofNat m).toNatClampNeg ((fl_u q (r0 + 5) (Int32.ofNat m).toNatClampNeg (q (r1 + 5) (Int32.ofNat m).toNatClampNeg)) (r1 + 6) (Int32.ofNat m).toNatClampNeg)) (r1 + 7) (Int32.ofNat m).toNatClampNeg)) (r1 + 8) (Int32.ofNat m).toNatClampNeg))
def lq_23_106 (r0 r1 : Nat) (M : fl_M) (m : Nat) : fl_M := fx_it (ls_23_106 r0 r1) m M
theorem lqs_23_106 (r0 r1 : Nat) (M : fl_M) (m : Nat) : lq_23_106 r0 r1 M (m + 1) = (ls_23_106 r0 r1) m (lq_23_106 r0 r1 M m) := by
  unfold lq_23_106
  exact fx_it_s _ _ _
def lr_23_106 (r0 r1 : Nat) (M : fl_M) : fl_M := (lq_23_106 r0 r1 M (((M r0 1)).toNatClampNeg))
theorem ts_23_106 {r : fl_Q} (i2 : Int32) (r0 r1 : Nat) (M : fl_M) (J : fl_J) (q1 : (i2 < (M r0 1)) → fl_dn fB23 (106, [.ref r0, .ref r1, .int (i2 + 1)], [], (fl_u (fl_u (fl_u (fl_u M (r0 + 5) i2.toNatClampNeg (M (r1 + 5) i2.toNatClampNeg)) (r0 + 6) i2.toNatClampNeg ((fl_u M (r0 + 5) i2.toNatClampNeg (M (r1 + 5) i2.toNatClampNeg)) (r1 + 6) i2.toNatClampNeg)) (r0 + 7) i2.toNatClampNeg ((fl_u (fl_u M (r0 + 5) i2.toNatClampNeg (M (r1 + 5) i2.toNatClampNeg)) (r0 + 6) i2.toNatClampNeg ((fl_u M (r0 + 5) i2.toNatClampNeg (M (r1 + 5) i2.toNatClampNeg)) (r1 + 6) i2.toNatClampNeg)) (r1 + 7) i2.toNatClampNeg)) (r0 + 8) i2.toNatClampNeg ((fl_u (fl_u (fl_u M (r0 + 5) i2.toNatClampNeg (M (r1 + 5) i2.toNatClampNeg)) (r0 + 6) i2.toNatClampNeg ((fl_u M (r0 + 5) i2.toNatClampNeg (M (r1 + 5) i2.toNatClampNeg)) (r1 + 6) i2.toNatClampNeg)) (r0 + 7) i2.toNatClampNeg ((fl_u (fl_u M (r0 + 5) i2.toNatClampNeg (M (r1 + 5) i2.toNatClampNeg)) (r0 + 6) i2.toNatClampNeg ((fl_u M (r0 + 5) i2.toNatClampNeg (M (r1 + 5) i2.toNatClampNeg)) (r1 + 6) i2.toNatClampNeg)) (r1 + 7) i2.toNatClampNeg)) (r1 + 8) i2.toNatClampNeg)), J) r) (q2 : (¬ (i2 < (M r0 1))) → fl_dn fB23 (168, [.ref r0, .ref r1, .int i2], [], M, J) r) : fl_dn fB23 (106, [.ref r0, .ref r1, .int i2], [], M, J) r :=
 fl_td (s' := (111, [.ref r0, .ref r1, .int i2], [.int (M r0 1), .int i2], M, J)) (fl_n 3 rfl) <|
 fl_dnot (fl_ic (t := 168) rfl rfl) fl_nlt (fun h1 =>
  fl_td (s' := (106, [.ref r0, .ref r1, .int (i2 + 1)], [], (fl_u (fl_u (fl_u (fl_u M (r0 + 5) i2.toNatClampNeg (M (r1 + 5) i2.toNatClampNeg)) (r0 + 6) i2.toNatClampNeg ((fl_u M (r0 + 5) i2.toNatClampNeg (M (r1 + 5) i2.toNatClampNeg)) (r1 + 6) i2.toNatClampNeg)) (r0 + 7) i2.toNatClampNeg ((fl_u (fl_u M (r0 + 5) i2.toNatClampNeg (M (r1 + 5) i2.toNatClampNeg)) (r0 + 6) i2.toNatClampNeg ((fl_u M (r0 + 5) i2.toNatClampNeg (M (r1 + 5) i2.toNatClampNeg)) (r1 + 6) i2.toNatClampNeg)) (r1 + 7) i2.toNatClampNeg)) (r0 + 8) i2.toNatClampNeg ((fl_u (fl_u (fl_u M (r0 + 5) i2.toNatClampNeg (M (r1 + 5) i2.toNatClampNeg)) (r0 + 6) i2.toNatClampNeg ((fl_u M (r0 + 5) i2.toNatClampNeg (M (r1 + 5) i2.toNatClampNeg)) (r1 + 6) i2.toNatClampNeg)) (r0 + 7) i2.toNatClampNeg ((fl_u (fl_u M (r0 + 5) i2.toNatClampNeg (M (r1 + 5) i2.toNatClampNeg)) (r0 + 6) i2.toNatClampNeg ((fl_u M (r0 + 5) i2.toNatClampNeg (M (r1 + 5) i2.toNatClampNeg)) (r1 + 6) i2.toNatClampNeg)) (r1 + 7) i2.toNatClampNeg)) (r1 + 8) i2.toNatClampNeg)), J)) (fl_n 34 rfl) <|
  (q1 h1)) (fun h1 =>
  (q2 h1))
theorem lk_23_106 (r0 r1 : Nat) (M : fl_M) (m : Nat) : ((lq_23_106 r0 r1 M m) r0 1) = (M r0 1) := by
  induction m with
  | zero => rfl
  | succ m ih =>
    rw [← ih]
    rw [lqs_23_106]
    generalize lq_23_106 r0 r1 M m = q
    unfold ls_23_106
    (repeat' split) <;> first | with_reducible rfl | (simp [fl_u, fr_22_18, fr_22_53]; done) | rfl
theorem lp_23_106 {r : fl_Q} (r0 r1 : Nat) (M : fl_M) (J : fl_J) (hx : ∀ w2 : Value, fl_dn fB23 (168, [.ref r0, .ref r1, w2], [], (lr_23_106 r0 r1 M), J) r) : fl_dn fB23 (106, [.ref r0, .ref r1, .int 0], [], M, J) r := by
  have hb := fi_bd (M r0 1)
  have hB := fun m => lk_23_106 r0 r1 M m
  have key : ∀ (n m : Nat), m + n = ((M r0 1)).toNatClampNeg → fl_dn fB23 (106, [.ref r0, .ref r1, .int (Int32.ofNat m)], [], (lq_23_106 r0 r1 M m), J) r := by
    intro n
    induction n with
    | zero =>
      intro m hm
      have hm : m = ((M r0 1)).toNatClampNeg := by omega
      have hn : ¬ ((Int32.ofNat m) < ((lq_23_106 r0 r1 M m) r0 1)) := fun z => by rw [hB m] at z; have z := (fi_lt (by omega)).mp z; omega
      exact ts_23_106 (Int32.ofNat m) r0 r1 (lq_23_106 r0 r1 M m) J (fun h1 => absurd h1 hn) (fun h1 => (by have e : lr_23_106 r0 r1 M = lq_23_106 r0 r1 M m := (by show lq_23_106 r0 r1 M (((M r0 1)).toNatClampNeg) = _; rw [← hm]); rw [e] at hx; exact hx _))
    | succ n ih =>
      intro m hm
      have hp : (Int32.ofNat m) < ((lq_23_106 r0 r1 M m) r0 1) := by rw [hB m]; exact (fi_lt (by omega)).mpr (by omega)
      refine ts_23_106 (Int32.ofNat m) r0 r1 (lq_23_106 r0 r1 M m) J (fun h1 => ?_) (fun h1 => absurd hp h1)
      · have e : lq_23_106 r0 r1 M (m + 1) = (fl_u (fl_u (fl_u (fl_u (lq_23_106 r0 r1 M m) (r0 + 5) (Int32.ofNat m).toNatClampNeg ((lq_23_106 r0 r1 M m) (r1 + 5) (Int32.ofNat m).toNatClampNeg)) (r0 + 6) (Int32.ofNat m).toNatClampNeg ((fl_u (lq_23_106 r0 r1 M m) (r0 + 5) (Int32.ofNat m).toNatClampNeg ((lq_23_106 r0 r1 M m) (r1 + 5) (Int32.ofNat m).toNatClampNeg)) (r1 + 6) (Int32.ofNat m).toNatClampNeg)) (r0 + 7) (Int32.ofNat m).toNatClampNeg ((fl_u (fl_u (lq_23_106 r0 r1 M m) (r0 + 5) (Int32.ofNat m).toNatClampNeg ((lq_23_106 r0 r1 M m) (r1 + 5) (Int32.ofNat m).toNatClampNeg)) (r0 + 6) (Int32.ofNat m).toNatClampNeg ((fl_u (lq_23_106 r0 r1 M m) (r0 + 5) (Int32.ofNat m).toNatClampNeg ((lq_23_106 r0 r1 M m) (r1 + 5) (Int32.ofNat m).toNatClampNeg)) (r1 + 6) (Int32.ofNat m).toNatClampNeg)) (r1 + 7) (Int32.ofNat m).toNatClampNeg)) (r0 + 8) (Int32.ofNat m).toNatClampNeg ((fl_u (fl_u (fl_u (lq_23_106 r0 r1 M m) (r0 + 5) (Int32.ofNat m).toNatClampNeg ((lq_23_106 r0 r1 M m) (r1 + 5) (Int32.ofNat m).toNatClampNeg)) (r0 + 6) (Int32.ofNat m).toNatClampNeg ((fl_u (lq_23_106 r0 r1 M m) (r0 + 5) (Int32.ofNat m).toNatClampNeg ((lq_23_106 r0 r1 M m) (r1 + 5) (Int32.ofNat m).toNatClampNeg)) (r1 + 6) (Int32.ofNat m).toNatClampNeg)) (r0 + 7) (Int32.ofNat m).toNatClampNeg ((fl_u (fl_u (lq_23_106 r0 r1 M m) (r0 + 5) (Int32.ofNat m).toNatClampNeg ((lq_23_106 r0 r1 M m) (r1 + 5) (Int32.ofNat m).toNatClampNeg)) (r0 + 6) (Int32.ofNat m).toNatClampNeg ((fl_u (lq_23_106 r0 r1 M m) (r0 + 5) (Int32.ofNat m).toNatClampNeg ((lq_23_106 r0 r1 M m) (r1 + 5) (Int32.ofNat m).toNatClampNeg)) (r1 + 6) (Int32.ofNat m).toNatClampNeg)) (r1 + 7) (Int32.ofNat m).toNatClampNeg)) (r1 + 8) (Int32.ofNat m).toNatClampNeg)) := by
          rw [lqs_23_106]
          unfold ls_23_106
          rfl
        have q := ih (m + 1) (by omega)
        rw [e] at q
        first | (rw [fi_s]; exact q) | (rw [← fi_s] at q; exact q) | (simp only [fi_s] at q ⊢; exact q)
  exact key (((M r0 1)).toNatClampNeg) 0 (Nat.zero_add _)
def m_23 (T O : Nat) (M : fl_M) : fl_M := (lr_23_106 T O (lr_23_42 T O (fl_u (fl_u (fl_u (fl_u (fl_u M T 0 (M O 0)) T 1 ((fl_u M T 0 (M O 0)) O 1)) T 2 ((fl_u (fl_u M T 0 (M O 0)) T 1 ((fl_u M T 0 (M O 0)) O 1)) O 2)) T 3 ((fl_u (fl_u (fl_u M T 0 (M O 0)) T 1 ((fl_u M T 0 (M O 0)) O 1)) T 2 ((fl_u (fl_u M T 0 (M O 0)) T 1 ((fl_u M T 0 (M O 0)) O 1)) O 2)) O 3)) T 4 ((fl_u (fl_u (fl_u (fl_u M T 0 (M O 0)) T 1 ((fl_u M T 0 (M O 0)) O 1)) T 2 ((fl_u (fl_u M T 0 (M O 0)) T 1 ((fl_u M T 0 (M O 0)) O 1)) O 2)) T 3 ((fl_u (fl_u (fl_u M T 0 (M O 0)) T 1 ((fl_u M T 0 (M O 0)) O 1)) T 2 ((fl_u (fl_u M T 0 (M O 0)) T 1 ((fl_u M T 0 (M O 0)) O 1)) O 2)) O 3)) O 4))))
theorem cc_23 (M : fl_M) (J : fl_J) (T O : Nat) : fl_C 23 [.ref T, .ref O] M J (none, (m_23 T O M), J) :=
 fl_Co (B := fB23) rfl rfl <|
 fl_td (s' := (42, [.ref T, .ref O, .int 0], [], (fl_u (fl_u (fl_u (fl_u (fl_u M T 0 (M O 0)) T 1 ((fl_u M T 0 (M O 0)) O 1)) T 2 ((fl_u (fl_u M T 0 (M O 0)) T 1 ((fl_u M T 0 (M O 0)) O 1)) O 2)) T 3 ((fl_u (fl_u (fl_u M T 0 (M O 0)) T 1 ((fl_u M T 0 (M O 0)) O 1)) T 2 ((fl_u (fl_u M T 0 (M O 0)) T 1 ((fl_u M T 0 (M O 0)) O 1)) O 2)) O 3)) T 4 ((fl_u (fl_u (fl_u (fl_u M T 0 (M O 0)) T 1 ((fl_u M T 0 (M O 0)) O 1)) T 2 ((fl_u (fl_u M T 0 (M O 0)) T 1 ((fl_u M T 0 (M O 0)) O 1)) O 2)) T 3 ((fl_u (fl_u (fl_u M T 0 (M O 0)) T 1 ((fl_u M T 0 (M O 0)) O 1)) T 2 ((fl_u (fl_u M T 0 (M O 0)) T 1 ((fl_u M T 0 (M O 0)) O 1)) O 2)) O 3)) O 4)), J)) (fl_n 22 rfl) <|
 lp_23_42 T O (fl_u (fl_u (fl_u (fl_u (fl_u M T 0 (M O 0)) T 1 ((fl_u M T 0 (M O 0)) O 1)) T 2 ((fl_u (fl_u M T 0 (M O 0)) T 1 ((fl_u M T 0 (M O 0)) O 1)) O 2)) T 3 ((fl_u (fl_u (fl_u M T 0 (M O 0)) T 1 ((fl_u M T 0 (M O 0)) O 1)) T 2 ((fl_u (fl_u M T 0 (M O 0)) T 1 ((fl_u M T 0 (M O 0)) O 1)) O 2)) O 3)) T 4 ((fl_u (fl_u (fl_u (fl_u M T 0 (M O 0)) T 1 ((fl_u M T 0 (M O 0)) O 1)) T 2 ((fl_u (fl_u M T 0 (M O 0)) T 1 ((fl_u M T 0 (M O 0)) O 1)) O 2)) T 3 ((fl_u (fl_u (fl_u M T 0 (M O 0)) T 1 ((fl_u M T 0 (M O 0)) O 1)) T 2 ((fl_u (fl_u M T 0 (M O 0)) T 1 ((fl_u M T 0 (M O 0)) O 1)) O 2)) O 3)) O 4)) J (fun u28 =>
  fx_gen (p := fun (MM29 : fl_M) => fl_dn fB23 (104, [.ref T, .ref O, u28], [], MM29, J) (none, (m_23 T O M), J)) (lr_23_42 T O (fl_u (fl_u (fl_u (fl_u (fl_u M T 0 (M O 0)) T 1 ((fl_u M T 0 (M O 0)) O 1)) T 2 ((fl_u (fl_u M T 0 (M O 0)) T 1 ((fl_u M T 0 (M O 0)) O 1)) O 2)) T 3 ((fl_u (fl_u (fl_u M T 0 (M O 0)) T 1 ((fl_u M T 0 (M O 0)) O 1)) T 2 ((fl_u (fl_u M T 0 (M O 0)) T 1 ((fl_u M T 0 (M O 0)) O 1)) O 2)) O 3)) T 4 ((fl_u (fl_u (fl_u (fl_u M T 0 (M O 0)) T 1 ((fl_u M T 0 (M O 0)) O 1)) T 2 ((fl_u (fl_u M T 0 (M O 0)) T 1 ((fl_u M T 0 (M O 0)) O 1)) O 2)) T 3 ((fl_u (fl_u (fl_u M T 0 (M O 0)) T 1 ((fl_u M T 0 (M O 0)) O 1)) T 2 ((fl_u (fl_u M T 0 (M O 0)) T 1 ((fl_u M T 0 (M O 0)) O 1)) O 2)) O 3)) O 4))) (fun MM29 eMM29 =>
   fl_td (s' := (106, [.ref T, .ref O, .int 0], [], MM29, J)) (fl_n 2 rfl) <|
   lp_23_106 T O MM29 J (fun u30 =>
    fx_gen (p := fun (MM31 : fl_M) => fl_dn fB23 (168, [.ref T, .ref O, u30], [], MM31, J) (none, (m_23 T O M), J)) (lr_23_106 T O MM29) (fun MM31 eMM31 =>
     fl_rt rfl (fun _ => rfl) (by subst eMM29; subst eMM31; rfl)))))
theorem fr_23_42 {T O : Nat} {M : fl_M} {c j : Nat} (hc : c < T ∨ T + 9 ≤ c) : (lr_23_42 T O M) c j = M c j := by
  have g0 : ¬ c = T := by omega
  have g1 : ¬ c = T + 1 := by omega
  have g2 : ¬ c = T + 2 := by omega
  have g3 : ¬ c = T + 3 := by omega
  have g4 : ¬ c = T + 4 := by omega
  have g5 : ¬ c = T + 5 := by omega
  have g6 : ¬ c = T + 6 := by omega
  have g7 : ¬ c = T + 7 := by omega
  have g8 : ¬ c = T + 8 := by omega
  unfold lr_23_42 lq_23_42
  refine it_k (fun q : fl_M => q c j = M c j) rfl (fun m q hq => ?_)
  unfold ls_23_42
  (try repeat' split) <;> first | with_reducible exact hq | (simp [fl_u, g0, g1, g2, g3, g4, g5, g6, g7, g8, hq]; done)
theorem fr_23_106 {T O : Nat} {M : fl_M} {c j : Nat} (hc : c < T ∨ T + 9 ≤ c) : (lr_23_106 T O M) c j = M c j := by
  have g0 : ¬ c = T := by omega
  have g1 : ¬ c = T + 1 := by omega
  have g2 : ¬ c = T + 2 := by omega
  have g3 : ¬ c = T + 3 := by omega
  have g4 : ¬ c = T + 4 := by omega
  have g5 : ¬ c = T + 5 := by omega
  have g6 : ¬ c = T + 6 := by omega
  have g7 : ¬ c = T + 7 := by omega
  have g8 : ¬ c = T + 8 := by omega
  unfold lr_23_106 lq_23_106
  refine it_k (fun q : fl_M => q c j = M c j) rfl (fun m q hq => ?_)
  unfold ls_23_106
  (try repeat' split) <;> first | with_reducible exact hq | (simp [fl_u, g0, g1, g2, g3, g4, g5, g6, g7, g8, hq]; done)
theorem fr_23 {T O : Nat} {M : fl_M} {c j : Nat} (hc : c < T ∨ T + 9 ≤ c) : (m_23 T O M) c j = M c j := by
  have g0 : ¬ c = T := by omega
  have g1 : ¬ c = T + 1 := by omega
  have g2 : ¬ c = T + 2 := by omega
  have g3 : ¬ c = T + 3 := by omega
  have g4 : ¬ c = T + 4 := by omega
  have g5 : ¬ c = T + 5 := by omega
  have g6 : ¬ c = T + 6 := by omega
  have g7 : ¬ c = T + 7 := by omega
  have g8 : ¬ c = T + 8 := by omega
  unfold m_23
  (try repeat' split) <;> first | with_reducible rfl | (simp [fl_u, g0, g1, g2, g3, g4, g5, g6, g7, g8, fr_23_42 hc, fr_23_106 hc]; done)
def fB46 : sm_P := (fun pc => sm_ch sm_t46 pc, sm_Kn 1 6 none, fun x => sm_lk sm_ca1 x, some .int)
-- MiceRegisters$Register.passYear 4
def ls_46_4 (i1 : Int32) (r0 : Nat) (m : Nat) (q : (Int32 × fl_M)) : (Int32 × fl_M) := (if ((i1 >>> ((Int32.ofNat m) &&& 31)) &&& 1) = 1 then (q.1, q.2) else (if ((lr_28_11 (Int32.ofNat m) (-9) 0 0 r0 q.2).1) = (-9) then (q.1, q.2) else ((q.1 + (if v_35 (q.2 (r0 + 5) (Int32.ofNat m).toNatClampNeg) (q.2 (r0 + 6) (Int32.ofNat m).toNatClampNeg) < q.2 (r0 + 3) ((lr_28_11 (Int32.ofNat m) (-9) 0 0 r0 q.2).1).toNatClampNeg then v_35 (q.2 (r0 + 5) (Int32.ofNat m).toNatClampNeg) (q.2 (r0 + 6) (Int32.ofNat m).toNatClampNeg) else q.2 (r0 + 3) ((lr_28_11 (Int32.ofNat m) (-9) 0 0 r0 q.2).1).toNatClampNeg)), (fl_u (fl_u q.2 (r0 + 8) (Int32.ofNat m).toNatClampNeg ((lr_28_11 (Int32.ofNat m) (-9) 0 0 r0 q.2).1)) (r0 + 3) ((lr_28_11 (Int32.ofNat m) (-9) 0 0 r0 q.2).1).toNatClampNeg (((fl_u q.2 (r0 + 8) (Int32.ofNat m).toNatClampNeg ((lr_28_11 (Int32.ofNat m) (-9) 0 0 r0 q.2).1)) (r0 + 3) ((lr_28_11 (Int32.ofNat m) (-9) 0 0 r0 q.2).1).toNatClampNeg) - (if v_35 (q.2 (r0 + 5) (Int32.ofNat m).toNatClampNeg) (q.2 (r0 + 6) (Int32.ofNat m).toNatClampNeg) < q.2 (r0 + 3) ((lr_28_11 (Int32.ofNat m) (-9) 0 0 r0 q.2).1).toNatClampNeg then v_35 (q.2 (r0 + 5) (Int32.ofNat m).toNatClampNeg) (q.2 (r0 + 6) (Int32.ofNat m).toNatClampNeg) else q.2 (r0 + 3) ((lr_28_11 (Int32.ofNat m) (-9) 0 0 r0 q.2).1).toNatClampNeg))))))
def lq_46_4 (i1 i2 : Int32) (r0 : Nat) (M : fl_M) (m : Nat) : (Int32 × fl_M) := fx_it (ls_46_4 i1 r0) m (i2, M)
theorem lqs_46_4 (i1 i2 : Int32) (r0 : Nat) (M : fl_M) (m : Nat) : lq_46_4 i1 i2 r0 M (m + 1) = (ls_46_4 i1 r0) m (lq_46_4 i1 i2 r0 M m) := by
  unfold lq_46_4
  exact fx_it_s _ _ _
def lr_46_4 (i1 i2 : Int32) (r0 : Nat) (M : fl_M) : (Int32 × fl_M) := (lq_46_4 i1 i2 r0 M (((M r0 1)).toNatClampNeg))
theorem ts_46_4 {r : fl_Q} (i1 i2 i3 : Int32) (r0 : Nat) (u4 u5 : Value) (M : fl_M) (J : fl_J) (q1 : (i3 < (M r0 1)) → (((i1 >>> (i3 &&& 31)) &&& 1) = 1) → fl_dn fB46 (4, [.ref r0, .int i1, .int i2, .int (i3 + 1), .int (-9), u5], [], M, J) r) (q2 : (i3 < (M r0 1)) → (¬ (((i1 >>> (i3 &&& 31)) &&& 1) = 1)) → (((lr_28_11 i3 (-9) 0 0 r0 M).1) = (-9)) → fl_dn fB46 (4, [.ref r0, .int i1, .int i2, .int (i3 + 1), .int ((lr_28_11 i3 (-9) 0 0 r0 M).1), u5], [], M, J) r) (q3 : (i3 < (M r0 1)) → (¬ (((i1 >>> (i3 &&& 31)) &&& 1) = 1)) → (¬ (((lr_28_11 i3 (-9) 0 0 r0 M).1) = (-9))) → fl_dn fB46 (4, [.ref r0, .int i1, .int (i2 + (if v_35 (M (r0 + 5) i3.toNatClampNeg) (M (r0 + 6) i3.toNatClampNeg) < M (r0 + 3) ((lr_28_11 i3 (-9) 0 0 r0 M).1).toNatClampNeg then v_35 (M (r0 + 5) i3.toNatClampNeg) (M (r0 + 6) i3.toNatClampNeg) else M (r0 + 3) ((lr_28_11 i3 (-9) 0 0 r0 M).1).toNatClampNeg)), .int (i3 + 1), .int ((lr_28_11 i3 (-9) 0 0 r0 M).1), .int (if v_35 (M (r0 + 5) i3.toNatClampNeg) (M (r0 + 6) i3.toNatClampNeg) < M (r0 + 3) ((lr_28_11 i3 (-9) 0 0 r0 M).1).toNatClampNeg then v_35 (M (r0 + 5) i3.toNatClampNeg) (M (r0 + 6) i3.toNatClampNeg) else M (r0 + 3) ((lr_28_11 i3 (-9) 0 0 r0 M).1).toNatClampNeg)], [], (fl_u (fl_u M (r0 + 8) i3.toNatClampNeg ((lr_28_11 i3 (-9) 0 0 r0 M).1)) (r0 + 3) ((lr_28_11 i3 (-9) 0 0 r0 M).1).toNatClampNeg (((fl_u M (r0 + 8) i3.toNatClampNeg ((lr_28_11 i3 (-9) 0 0 r0 M).1)) (r0 + 3) ((lr_28_11 i3 (-9) 0 0 r0 M).1).toNatClampNeg) - (if v_35 (M (r0 + 5) i3.toNatClampNeg) (M (r0 + 6) i3.toNatClampNeg) < M (r0 + 3) ((lr_28_11 i3 (-9) 0 0 r0 M).1).toNatClampNeg then v_35 (M (r0 + 5) i3.toNatClampNeg) (M (r0 + 6) i3.toNatClampNeg) else M (r0 + 3) ((lr_28_11 i3 (-9) 0 0 r0 M).1).toNatClampNeg))), J) r) (q4 : (¬ (i3 < (M r0 1))) → fl_dn fB46 (98, [.ref r0, .int i1, .int i2, .int i3, u4, u5], [], M, J) r) : fl_dn fB46 (4, [.ref r0, .int i1, .int i2, .int i3, u4, u5], [], M, J) r :=
 fl_td (s' := (9, [.ref r0, .int i1, .int i2, .int i3, u4, u5], [.int (M r0 1), .int i3], M, J)) (fl_n 3 rfl) <|
 fl_dnot (fl_ic (t := 98) rfl rfl) fl_nlt (fun h1 =>
  fl_td (s' := (18, [.ref r0, .int i1, .int i2, .int i3, u4, u5], [.int 1, .int ((i1 >>> (i3 &&& 31)) &&& 1)], M, J)) (fl_n 6 rfl) <|
  fl_dnot (fl_ic (t := 26) rfl rfl) fl_cF (fun h2 =>
   fl_td (s' := (4, [.ref r0, .int i1, .int i2, .int (i3 + 1), .int (-9), u5], [], M, J)) (fl_n 8 rfl) <|
   (q1 h1 h2)) (fun h2 =>
   fl_td (s' := (28, [.ref r0, .int i1, .int i2, .int i3, u4, u5], [.int i3, .ref r0], M, J)) (fl_n 2 rfl) <|
   fl_td (s' := (31, [.ref r0, .int i1, .int i2, .int i3, u4, u5], [.int ((lr_28_11 i3 (-9) 0 0 r0 M).1)], M, J)) (fl_cv (o := some (.int ((lr_28_11 i3 (-9) 0 0 r0 M).1))) rfl rfl rfl rfl (cc_28 M J i3 r0) rfl) <|
   fx_gen (p := fun (II32 : Int32) => fl_dn fB46 (31, [.ref r0, .int i1, .int i2, .int i3, u4, u5], [.int II32], M, J) r) ((lr_28_11 i3 (-9) 0 0 r0 M).1) (fun II32 eII32 =>
    fl_td (s' := (37, [.ref r0, .int i1, .int i2, .int i3, .int II32, u5], [.int (-9), .int II32], M, J)) (fl_n 3 rfl) <|
    fl_dtwo (fl_ic (t := 92) rfl rfl) fl_cT (fun h3 =>
     fl_td (s' := (4, [.ref r0, .int i1, .int i2, .int (i3 + 1), .int II32, u5], [], M, J)) (fl_n 2 rfl) <|
     (by subst eII32; exact (q2 h1 h2 h3))) (fun h3 =>
     fl_td (s' := (59, [.ref r0, .int i1, .int i2, .int i3, .int II32, u5], [.int (M (r0 + 6) i3.toNatClampNeg), .int (M (r0 + 5) i3.toNatClampNeg), .int (M (r0 + 3) II32.toNatClampNeg)], M, J)) (fl_n 12 rfl) <|
     fl_td (s' := (62, [.ref r0, .int i1, .int i2, .int i3, .int II32, u5], [.int (v_35 (M (r0 + 5) i3.toNatClampNeg) (M (r0 + 6) i3.toNatClampNeg)), .int (M (r0 + 3) II32.toNatClampNeg)], M, J)) (fl_cs (o := some (.int (v_35 (M (r0 + 5) i3.toNatClampNeg) (M (r0 + 6) i3.toNatClampNeg)))) rfl rfl rfl (cc_35 M J (M (r0 + 5) i3.toNatClampNeg) (M (r0 + 6) i3.toNatClampNeg)) rfl) <|
     fl_td (s' := (4, [.ref r0, .int i1, .int (i2 + (if v_35 (M (r0 + 5) i3.toNatClampNeg) (M (r0 + 6) i3.toNatClampNeg) < M (r0 + 3) II32.toNatClampNeg then v_35 (M (r0 + 5) i3.toNatClampNeg) (M (r0 + 6) i3.toNatClampNeg) else M (r0 + 3) II32.toNatClampNeg)), .int (i3 + 1), .int II32, .int (if v_35 (M (r0 + 5) i3.toNatClampNeg) (M (r0 + 6) i3.toNatClampNeg) < M (r0 + 3) II32.toNatClampNeg then v_35 (M (r0 + 5) i3.toNatClampNeg) (M (r0 + 6) i3.toNatClampNeg) else M (r0 + 3) II32.toNatClampNeg)], [], (fl_u (fl_u M (r0 + 8) i3.toNatClampNeg II32) (r0 + 3) II32.toNatClampNeg (((fl_u M (r0 + 8) i3.toNatClampNeg II32) (r0 + 3) II32.toNatClampNeg) - (if v_35 (M (r0 + 5) i3.toNatClampNeg) (M (r0 + 6) i3.toNatClampNeg) < M (r0 + 3) II32.toNatClampNeg then v_35 (M (r0 + 5) i3.toNatClampNeg) (M (r0 + 6) i3.toNatClampNeg) else M (r0 + 3) II32.toNatClampNeg))), J)) (fl_n 21 rfl) <|
     (by subst eII32; exact (q3 h1 h2 h3)))))) (fun h1 =>
  (q4 h1))
theorem lk_46_4 (i1 i2 : Int32) (r0 : Nat) (M : fl_M) (m : Nat) : (((lq_46_4 i1 i2 r0 M m).2) r0 1) = (M r0 1) := by
  induction m with
  | zero => rfl
  | succ m ih =>
    rw [← ih]
    rw [lqs_46_4]
    generalize lq_46_4 i1 i2 r0 M m = q
    unfold ls_46_4
    (repeat' split) <;> first | with_reducible rfl | (simp [fl_u, fr_22_18, fr_22_53, fr_23_42, fr_23_106, fr_23]; done) | rfl
theorem lp_46_4 {r : fl_Q} (i1 i2 : Int32) (r0 : Nat) (u4 u5 : Value) (M : fl_M) (J : fl_J) (hx : ∀ w3 w4 w5 : Value, fl_dn fB46 (98, [.ref r0, .int i1, .int ((lr_46_4 i1 i2 r0 M).1), w3, w4, w5], [], ((lr_46_4 i1 i2 r0 M).2), J) r) : fl_dn fB46 (4, [.ref r0, .int i1, .int i2, .int 0, u4, u5], [], M, J) r := by
  have hb := fi_bd (M r0 1)
  have hB := fun m => lk_46_4 i1 i2 r0 M m
  have key : ∀ (n m : Nat) (w4 w5 : Value), m + n = ((M r0 1)).toNatClampNeg → fl_dn fB46 (4, [.ref r0, .int i1, .int ((lq_46_4 i1 i2 r0 M m).1), .int (Int32.ofNat m), w4, w5], [], ((lq_46_4 i1 i2 r0 M m).2), J) r := by
    intro n
    induction n with
    | zero =>
      intro m w4 w5 hm
      have hm : m = ((M r0 1)).toNatClampNeg := by omega
      have hn : ¬ ((Int32.ofNat m) < (((lq_46_4 i1 i2 r0 M m).2) r0 1)) := fun z => by rw [hB m] at z; have z := (fi_lt (by omega)).mp z; omega
      exact ts_46_4 i1 ((lq_46_4 i1 i2 r0 M m).1) (Int32.ofNat m) r0 w4 w5 ((lq_46_4 i1 i2 r0 M m).2) J (fun h1 h2 => absurd h1 hn) (fun h1 h2 h3 => absurd h1 hn) (fun h1 h2 h3 => absurd h1 hn) (fun h1 => (by have e : lr_46_4 i1 i2 r0 M = lq_46_4 i1 i2 r0 M m := (by show lq_46_4 i1 i2 r0 M (((M r0 1)).toNatClampNeg) = _; rw [← hm]); rw [e] at hx; exact hx _ _ _))
    | succ n ih =>
      intro m w4 w5 hm
      have hp : (Int32.ofNat m) < (((lq_46_4 i1 i2 r0 M m).2) r0 1) := by rw [hB m]; exact (fi_lt (by omega)).mpr (by omega)
      refine ts_46_4 i1 ((lq_46_4 i1 i2 r0 M m).1) (Int32.ofNat m) r0 w4 w5 ((lq_46_4 i1 i2 r0 M m).2) J (fun h1 h2 => ?_) (fun h1 h2 h3 => ?_) (fun h1 h2 h3 => ?_) (fun h1 => absurd hp h1)
      · have e : lq_46_4 i1 i2 r0 M (m + 1) = (((lq_46_4 i1 i2 r0 M m).1), ((lq_46_4 i1 i2 r0 M m).2)) := by
          rw [lqs_46_4]
          unfold ls_46_4
          simp only [if_pos h2]
        have q := ih (m + 1) (.int (-9)) w5 (by omega)
        rw [e] at q
        first | (rw [fi_s]; exact q) | (rw [← fi_s] at q; exact q) | (simp only [fi_s] at q ⊢; exact q)
      · have e : lq_46_4 i1 i2 r0 M (m + 1) = (((lq_46_4 i1 i2 r0 M m).1), ((lq_46_4 i1 i2 r0 M m).2)) := by
          rw [lqs_46_4]
          unfold ls_46_4
          simp only [if_neg h2, if_pos h3]
        have q := ih (m + 1) (.int ((lr_28_11 (Int32.ofNat m) (-9) 0 0 r0 ((lq_46_4 i1 i2 r0 M m).2)).1)) w5 (by omega)
        rw [e] at q
        first | (rw [fi_s]; exact q) | (rw [← fi_s] at q; exact q) | (simp only [fi_s] at q ⊢; exact q)
      · have e : lq_46_4 i1 i2 r0 M (m + 1) = ((((lq_46_4 i1 i2 r0 M m).1) + (if v_35 (((lq_46_4 i1 i2 r0 M m).2) (r0 + 5) (Int32.ofNat m).toNatClampNeg) (((lq_46_4 i1 i2 r0 M m).2) (r0 + 6) (Int32.ofNat m).toNatClampNeg) < ((lq_46_4 i1 i2 r0 M m).2) (r0 + 3) ((lr_28_11 (Int32.ofNat m) (-9) 0 0 r0 ((lq_46_4 i1 i2 r0 M m).2)).1).toNatClampNeg then v_35 (((lq_46_4 i1 i2 r0 M m).2) (r0 + 5) (Int32.ofNat m).toNatClampNeg) (((lq_46_4 i1 i2 r0 M m).2) (r0 + 6) (Int32.ofNat m).toNatClampNeg) else ((lq_46_4 i1 i2 r0 M m).2) (r0 + 3) ((lr_28_11 (Int32.ofNat m) (-9) 0 0 r0 ((lq_46_4 i1 i2 r0 M m).2)).1).toNatClampNeg)), (fl_u (fl_u ((lq_46_4 i1 i2 r0 M m).2) (r0 + 8) (Int32.ofNat m).toNatClampNeg ((lr_28_11 (Int32.ofNat m) (-9) 0 0 r0 ((lq_46_4 i1 i2 r0 M m).2)).1)) (r0 + 3) ((lr_28_11 (Int32.ofNat m) (-9) 0 0 r0 ((lq_46_4 i1 i2 r0 M m).2)).1).toNatClampNeg (((fl_u ((lq_46_4 i1 i2 r0 M m).2) (r0 + 8) (Int32.ofNat m).toNatClampNeg ((lr_28_11 (Int32.ofNat m) (-9) 0 0 r0 ((lq_46_4 i1 i2 r0 M m).2)).1)) (r0 + 3) ((lr_28_11 (Int32.ofNat m) (-9) 0 0 r0 ((lq_46_4 i1 i2 r0 M m).2)).1).toNatClampNeg) - (if v_35 (((lq_46_4 i1 i2 r0 M m).2) (r0 + 5) (Int32.ofNat m).toNatClampNeg) (((lq_46_4 i1 i2 r0 M m).2) (r0 + 6) (Int32.ofNat m).toNatClampNeg) < ((lq_46_4 i1 i2 r0 M m).2) (r0 + 3) ((lr_28_11 (Int32.ofNat m) (-9) 0 0 r0 ((lq_46_4 i1 i2 r0 M m).2)).1).toNatClampNeg then v_35 (((lq_46_4 i1 i2 r0 M m).2) (r0 + 5) (Int32.ofNat m).toNatClampNeg) (((lq_46_4 i1 i2 r0 M m).2) (r0 + 6) (Int32.ofNat m).toNatClampNeg) else ((lq_46_4 i1 i2 r0 M m).2) (r0 + 3) ((lr_28_11 (Int32.ofNat m) (-9) 0 0 r0 ((lq_46_4 i1 i2 r0 M m).2)).1).toNatClampNeg)))) := by
          rw [lqs_46_4]
          unfold ls_46_4
          simp only [if_neg h2, if_neg h3]
        have q := ih (m + 1) (.int ((lr_28_11 (Int32.ofNat m) (-9) 0 0 r0 ((lq_46_4 i1 i2 r0 M m).2)).1)) (.int (if v_35 (((lq_46_4 i1 i2 r0 M m).2) (r0 + 5) (Int32.ofNat m).toNatClampNeg) (((lq_46_4 i1 i2 r0 M m).2) (r0 + 6) (Int32.ofNat m).toNatClampNeg) < ((lq_46_4 i1 i2 r0 M m).2) (r0 + 3) ((lr_28_11 (Int32.ofNat m) (-9) 0 0 r0 ((lq_46_4 i1 i2 r0 M m).2)).1).toNatClampNeg then v_35 (((lq_46_4 i1 i2 r0 M m).2) (r0 + 5) (Int32.ofNat m).toNatClampNeg) (((lq_46_4 i1 i2 r0 M m).2) (r0 + 6) (Int32.ofNat m).toNatClampNeg) else ((lq_46_4 i1 i2 r0 M m).2) (r0 + 3) ((lr_28_11 (Int32.ofNat m) (-9) 0 0 r0 ((lq_46_4 i1 i2 r0 M m).2)).1).toNatClampNeg)) (by omega)
        rw [e] at q
        first | (rw [fi_s]; exact q) | (rw [← fi_s] at q; exact q) | (simp only [fi_s] at q ⊢; exact q)
  exact key (((M r0 1)).toNatClampNeg) 0 u4 u5 (Nat.zero_add _)
-- MiceRegisters$Register.passYear 100
def ls_46_100 (r0 : Nat) (m : Nat) (q : fl_M) : fl_M := (fl_u q (r0 + 4) (Int32.ofNat m).toNatClampNeg (if 0 < (q (r0 + 4) (Int32.ofNat m).toNatClampNeg) - 1 then (q (r0 + 4) (Int32.ofNat m).toNatClampNeg) - 1 else 0))
def lq_46_100 (r0 : Nat) (M : fl_M) (m : Nat) : fl_M := fx_it (ls_46_100 r0) m M
theorem lqs_46_100 (r0 : Nat) (M : fl_M) (m : Nat) : lq_46_100 r0 M (m + 1) = (ls_46_100 r0) m (lq_46_100 r0 M m) := by
  unfold lq_46_100
  exact fx_it_s _ _ _
def lr_46_100 (r0 : Nat) (M : fl_M) : fl_M := (lq_46_100 r0 M (((M r0 0)).toNatClampNeg))
theorem ts_46_100 {r : fl_Q} (i1 i2 i3 : Int32) (r0 : Nat) (u4 u5 : Value) (M : fl_M) (J : fl_J) (q1 : (i3 < (M r0 0)) → fl_dn fB46 (100, [.ref r0, .int i1, .int i2, .int (i3 + 1), u4, u5], [], (fl_u M (r0 + 4) i3.toNatClampNeg (if 0 < (M (r0 + 4) i3.toNatClampNeg) - 1 then (M (r0 + 4) i3.toNatClampNeg) - 1 else 0)), J) r) (q2 : (¬ (i3 < (M r0 0))) → fl_dn fB46 (132, [.ref r0, .int i1, .int i2, .int i3, u4, u5], [], M, J) r) : fl_dn fB46 (100, [.ref r0, .int i1, .int i2, .int i3, u4, u5], [], M, J) r :=
 fl_td (s' := (105, [.ref r0, .int i1, .int i2, .int i3, u4, u5], [.int (M r0 0), .int i3], M, J)) (fl_n 3 rfl) <|
 fl_dnot (fl_ic (t := 132) rfl rfl) fl_nlt (fun h1 =>
  fl_td (s' := (100, [.ref r0, .int i1, .int i2, .int (i3 + 1), u4, u5], [], (fl_u M (r0 + 4) i3.toNatClampNeg (if 0 < (M (r0 + 4) i3.toNatClampNeg) - 1 then (M (r0 + 4) i3.toNatClampNeg) - 1 else 0)), J)) (fl_n 14 rfl) <|
  (q1 h1)) (fun h1 =>
  (q2 h1))
theorem lk_46_100 (r0 : Nat) (M : fl_M) (m : Nat) : ((lq_46_100 r0 M m) r0 0) = (M r0 0) := by
  induction m with
  | zero => rfl
  | succ m ih =>
    rw [← ih]
    rw [lqs_46_100]
    generalize lq_46_100 r0 M m = q
    unfold ls_46_100
    (repeat' split) <;> first | with_reducible rfl | (simp [fl_u, fr_22_18, fr_22_53, fr_23_42, fr_23_106, fr_23]; done) | rfl
theorem lp_46_100 {r : fl_Q} (i1 i2 : Int32) (r0 : Nat) (u4 u5 : Value) (M : fl_M) (J : fl_J) (hx : ∀ w3 : Value, fl_dn fB46 (132, [.ref r0, .int i1, .int i2, w3, u4, u5], [], (lr_46_100 r0 M), J) r) : fl_dn fB46 (100, [.ref r0, .int i1, .int i2, .int 0, u4, u5], [], M, J) r := by
  have hb := fi_bd (M r0 0)
  have hB := fun m => lk_46_100 r0 M m
  have key : ∀ (n m : Nat), m + n = ((M r0 0)).toNatClampNeg → fl_dn fB46 (100, [.ref r0, .int i1, .int i2, .int (Int32.ofNat m), u4, u5], [], (lq_46_100 r0 M m), J) r := by
    intro n
    induction n with
    | zero =>
      intro m hm
      have hm : m = ((M r0 0)).toNatClampNeg := by omega
      have hn : ¬ ((Int32.ofNat m) < ((lq_46_100 r0 M m) r0 0)) := fun z => by rw [hB m] at z; have z := (fi_lt (by omega)).mp z; omega
      exact ts_46_100 i1 i2 (Int32.ofNat m) r0 u4 u5 (lq_46_100 r0 M m) J (fun h1 => absurd h1 hn) (fun h1 => (by have e : lr_46_100 r0 M = lq_46_100 r0 M m := (by show lq_46_100 r0 M (((M r0 0)).toNatClampNeg) = _; rw [← hm]); rw [e] at hx; exact hx _))
    | succ n ih =>
      intro m hm
      have hp : (Int32.ofNat m) < ((lq_46_100 r0 M m) r0 0) := by rw [hB m]; exact (fi_lt (by omega)).mpr (by omega)
      refine ts_46_100 i1 i2 (Int32.ofNat m) r0 u4 u5 (lq_46_100 r0 M m) J (fun h1 => ?_) (fun h1 => absurd hp h1)
      · have e : lq_46_100 r0 M (m + 1) = (fl_u (lq_46_100 r0 M m) (r0 + 4) (Int32.ofNat m).toNatClampNeg (if 0 < ((lq_46_100 r0 M m) (r0 + 4) (Int32.ofNat m).toNatClampNeg) - 1 then ((lq_46_100 r0 M m) (r0 + 4) (Int32.ofNat m).toNatClampNeg) - 1 else 0)) := by
          rw [lqs_46_100]
          unfold ls_46_100
          rfl
        have q := ih (m + 1) (by omega)
        rw [e] at q
        first | (rw [fi_s]; exact q) | (rw [← fi_s] at q; exact q) | (simp only [fi_s] at q ⊢; exact q)
  exact key (((M r0 0)).toNatClampNeg) 0 (Nat.zero_add _)
def m_46 (s : Int32) (T : Nat) (M : fl_M) : fl_M := (fl_u (lr_46_100 T ((lr_46_4 s 0 T M).2)) T 2 (((lr_46_100 T ((lr_46_4 s 0 T M).2)) T 2) + 1))
theorem cc_46 (M : fl_M) (J : fl_J) (s : Int32) (T : Nat) : fl_C 46 [.ref T, .int s] M J (some (.int ((lr_46_4 s 0 T M).1)), (m_46 s T M), J) :=
 fl_Co (B := fB46) rfl rfl <|
 fl_td (s' := (4, [.ref T, .int s, .int 0, .int 0, .null, .null], [], M, J)) (fl_n 4 rfl) <|
 lp_46_4 s 0 T .null .null M J (fun u33 u34 u35 =>
  fx_gen (p := fun (MM36 : fl_M) => fl_dn fB46 (98, [.ref T, .int s, .int ((lr_46_4 s 0 T M).1), u33, u34, u35], [], MM36, J) (some (.int ((lr_46_4 s 0 T M).1)), (m_46 s T M), J)) ((lr_46_4 s 0 T M).2) (fun MM36 eMM36 =>
   fx_gen (p := fun (II37 : Int32) => fl_dn fB46 (98, [.ref T, .int s, .int II37, u33, u34, u35], [], MM36, J) (some (.int ((lr_46_4 s 0 T M).1)), (m_46 s T M), J)) ((lr_46_4 s 0 T M).1) (fun II37 eII37 =>
    fl_td (s' := (100, [.ref T, .int s, .int II37, .int 0, u34, u35], [], MM36, J)) (fl_n 2 rfl) <|
    lp_46_100 s II37 T u34 u35 MM36 J (fun u38 =>
     fx_gen (p := fun (MM39 : fl_M) => fl_dn fB46 (132, [.ref T, .int s, .int II37, u38, u34, u35], [], MM39, J) (some (.int ((lr_46_4 s 0 T M).1)), (m_46 s T M), J)) (lr_46_100 T MM36) (fun MM39 eMM39 =>
      fl_td (s' := (143, [.ref T, .int s, .int II37, u38, u34, u35], [.int II37], (fl_u MM39 T 2 ((MM39 T 2) + 1)), J)) (fl_n 7 rfl) <|
      fl_rt rfl (fun _ => rfl) (by subst eMM36; subst eII37; subst eMM39; rfl))))))
theorem fr_46_4 {s e : Int32} {T : Nat} {M : fl_M} {c j : Nat} (hc : c < T ∨ T + 9 ≤ c) : (lr_46_4 s e T M).2 c j = M c j := by
  have g0 : ¬ c = T := by omega
  have g1 : ¬ c = T + 1 := by omega
  have g2 : ¬ c = T + 2 := by omega
  have g3 : ¬ c = T + 3 := by omega
  have g4 : ¬ c = T + 4 := by omega
  have g5 : ¬ c = T + 5 := by omega
  have g6 : ¬ c = T + 6 := by omega
  have g7 : ¬ c = T + 7 := by omega
  have g8 : ¬ c = T + 8 := by omega
  unfold lr_46_4 lq_46_4
  refine it_k (fun q : (Int32 × fl_M) => q.2 c j = M c j) rfl (fun m q hq => ?_)
  unfold ls_46_4
  (try repeat' split) <;> first | with_reducible exact hq | (simp [fl_u, g0, g1, g2, g3, g4, g5, g6, g7, g8, hq]; done)
theorem fr_46_100 {T : Nat} {M : fl_M} {c j : Nat} (hc : c < T ∨ T + 9 ≤ c) : (lr_46_100 T M) c j = M c j := by
  have g0 : ¬ c = T := by omega
  have g1 : ¬ c = T + 1 := by omega
  have g2 : ¬ c = T + 2 := by omega
  have g3 : ¬ c = T + 3 := by omega
  have g4 : ¬ c = T + 4 := by omega
  have g5 : ¬ c = T + 5 := by omega
  have g6 : ¬ c = T + 6 := by omega
  have g7 : ¬ c = T + 7 := by omega
  have g8 : ¬ c = T + 8 := by omega
  unfold lr_46_100 lq_46_100
  refine it_k (fun q : fl_M => q c j = M c j) rfl (fun m q hq => ?_)
  unfold ls_46_100
  (try repeat' split) <;> first | with_reducible exact hq | (simp [fl_u, g0, g1, g2, g3, g4, g5, g6, g7, g8, hq]; done)
theorem fr_46 {s : Int32} {T : Nat} {M : fl_M} {c j : Nat} (hc : c < T ∨ T + 9 ≤ c) : (m_46 s T M) c j = M c j := by
  have g0 : ¬ c = T := by omega
  have g1 : ¬ c = T + 1 := by omega
  have g2 : ¬ c = T + 2 := by omega
  have g3 : ¬ c = T + 3 := by omega
  have g4 : ¬ c = T + 4 := by omega
  have g5 : ¬ c = T + 5 := by omega
  have g6 : ¬ c = T + 6 := by omega
  have g7 : ¬ c = T + 7 := by omega
  have g8 : ¬ c = T + 8 := by omega
  unfold m_46
  (try repeat' split) <;> first | with_reducible rfl | (simp [fl_u, g0, g1, g2, g3, g4, g5, g6, g7, g8, fr_46_4 hc, fr_46_100 hc]; done)
def fB45 : sm_P := (fun pc => sm_ch sm_t45 pc, sm_Kn 1 5 none, fun x => sm_lk sm_ca1 x, some .int)
def v_45 (wh li am : Int32) (T : Nat) (M : fl_M) : Int32 := (if wh = 1 then (fl_u M (T + 4) li.toNatClampNeg (if (M (T + 4) li.toNatClampNeg) + am < 20 then (M (T + 4) li.toNatClampNeg) + am else 20)) (T + 4) li.toNatClampNeg else (if wh = 2 then M T 3 else (if wh = 3 then (((fl_u M T 4 ((M T 4) ^^^ ((1 : Int32) <<< (li &&& 31)))) T 4) >>> (li &&& 31)) &&& 1 else ((lr_46_4 0 0 T M).1))))
def m_45 (wh li am : Int32) (T : Nat) (M : fl_M) : fl_M := (if wh = 1 then (fl_u M (T + 4) li.toNatClampNeg (if (M (T + 4) li.toNatClampNeg) + am < 20 then (M (T + 4) li.toNatClampNeg) + am else 20)) else (if wh = 2 then (fl_u M T 3 li) else (if wh = 3 then (fl_u M T 4 ((M T 4) ^^^ ((1 : Int32) <<< (li &&& 31)))) else (m_46 0 T M))))
theorem cc_45 (M : fl_M) (J : fl_J) (wh li am : Int32) (T : Nat) : fl_C 45 [.ref T, .int wh, .int li, .int am] M J (some (.int (v_45 wh li am T M)), (m_45 wh li am T M), J) :=
 fl_Co (B := fB45) rfl rfl <|
 fl_td (s' := (1, [.ref T, .int wh, .int li, .int am, .null], [.int wh], M, J)) (fl_n 1 rfl) <|
 fl_dc (c := wh = 1) (fun h1 =>
  fl_td (s' := (28, [.ref T, .int wh, .int li, .int am, .null], [], M, J)) (fl_sw h1 rfl) <|
  fl_td (s' := (53, [.ref T, .int wh, .int li, .int am, .null], [.int ((fl_u M (T + 4) li.toNatClampNeg (if (M (T + 4) li.toNatClampNeg) + am < 20 then (M (T + 4) li.toNatClampNeg) + am else 20)) (T + 4) li.toNatClampNeg)], (fl_u M (T + 4) li.toNatClampNeg (if (M (T + 4) li.toNatClampNeg) + am < 20 then (M (T + 4) li.toNatClampNeg) + am else 20)), J)) (fl_n 16 rfl) <|
  fl_rt rfl (fun _ => rfl) (by unfold v_45 m_45; first | (simp only [if_pos h1]; done) | rfl)) (fun h1 =>
  fl_dc (c := wh = 2) (fun h2 =>
   fl_td (s' := (54, [.ref T, .int wh, .int li, .int am, .null], [], M, J)) (fl_sw h2 rfl) <|
   fl_td (s' := (67, [.ref T, .int wh, .int li, .int am, .int (M T 3)], [.int (M T 3)], (fl_u M T 3 li), J)) (fl_n 7 rfl) <|
   fl_rt rfl (fun _ => rfl) (by unfold v_45 m_45; first | (simp only [if_neg h1, if_pos h2]; done) | rfl)) (fun h2 =>
   fl_dc (c := wh = 3) (fun h3 =>
    fl_td (s' := (68, [.ref T, .int wh, .int li, .int am, .null], [], M, J)) (fl_sw h3 rfl) <|
    fl_td (s' := (88, [.ref T, .int wh, .int li, .int am, .null], [.int ((((fl_u M T 4 ((M T 4) ^^^ ((1 : Int32) <<< (li &&& 31)))) T 4) >>> (li &&& 31)) &&& 1)], (fl_u M T 4 ((M T 4) ^^^ ((1 : Int32) <<< (li &&& 31)))), J)) (fl_n 14 rfl) <|
    fl_rt rfl (fun _ => rfl) (by unfold v_45 m_45; first | (simp only [if_neg h1, if_neg h2, if_pos h3]; done) | rfl)) (fun h3 =>
    fl_td (s' := (89, [.ref T, .int wh, .int li, .int am, .null], [], M, J)) (fl_swd rfl rfl (by have e0 := fl_ne 1 rfl h1; have e1 := fl_ne 2 rfl h2; have e2 := fl_ne 3 rfl h3; omega)) <|
    fl_td (s' := (91, [.ref T, .int wh, .int li, .int am, .null], [.int 0, .ref T], M, J)) (fl_n 2 rfl) <|
    fl_td (s' := (94, [.ref T, .int wh, .int li, .int am, .null], [.int ((lr_46_4 0 0 T M).1)], (m_46 0 T M), J)) (fl_cv (o := some (.int ((lr_46_4 0 0 T M).1))) rfl rfl rfl rfl (cc_46 M J 0 T) rfl) <|
    fx_gen (p := fun (MM40 : fl_M) => fl_dn fB45 (94, [.ref T, .int wh, .int li, .int am, .null], [.int ((lr_46_4 0 0 T M).1)], MM40, J) (some (.int (v_45 wh li am T M)), (m_45 wh li am T M), J)) (m_46 0 T M) (fun MM40 eMM40 =>
     fx_gen (p := fun (II41 : Int32) => fl_dn fB45 (94, [.ref T, .int wh, .int li, .int am, .null], [.int II41], MM40, J) (some (.int (v_45 wh li am T M)), (m_45 wh li am T M), J)) ((lr_46_4 0 0 T M).1) (fun II41 eII41 =>
      fl_rt rfl (fun _ => rfl) (by subst eMM40; subst eII41; unfold v_45 m_45; first | (simp only [if_neg h1, if_neg h2, if_neg h3]; done) | rfl))))))
theorem fr_45 {wh li am : Int32} {T : Nat} {M : fl_M} {c j : Nat} (hc : c < T ∨ T + 9 ≤ c) : (m_45 wh li am T M) c j = M c j := by
  have g0 : ¬ c = T := by omega
  have g1 : ¬ c = T + 1 := by omega
  have g2 : ¬ c = T + 2 := by omega
  have g3 : ¬ c = T + 3 := by omega
  have g4 : ¬ c = T + 4 := by omega
  have g5 : ¬ c = T + 5 := by omega
  have g6 : ¬ c = T + 6 := by omega
  have g7 : ¬ c = T + 7 := by omega
  have g8 : ¬ c = T + 8 := by omega
  unfold m_45
  (try repeat' split) <;> first | with_reducible rfl | (simp [fl_u, g0, g1, g2, g3, g4, g5, g6, g7, g8, fr_46 hc]; done)
def fB59 : sm_P := (fun pc => sm_ch sm_t59 pc, sm_Kn 1 3 none, fun x => sm_lk sm_ca1 x, none)
-- MiceRegisters$Register.passYears 2
def ls_59_2 (r0 : Nat) (m : Nat) (q : fl_M) : fl_M := (m_46 0 r0 q)
def lq_59_2 (r0 : Nat) (M : fl_M) (m : Nat) : fl_M := fx_it (ls_59_2 r0) m M
theorem lqs_59_2 (r0 : Nat) (M : fl_M) (m : Nat) : lq_59_2 r0 M (m + 1) = (ls_59_2 r0) m (lq_59_2 r0 M m) := by
  unfold lq_59_2
  exact fx_it_s _ _ _
def lr_59_2 (i1 : Int32) (r0 : Nat) (M : fl_M) : fl_M := (lq_59_2 r0 M ((i1).toNatClampNeg))
theorem ts_59_2 {r : fl_Q} (i1 i2 : Int32) (r0 : Nat) (M : fl_M) (J : fl_J) (q1 : (i2 < i1) → fl_dn fB59 (2, [.ref r0, .int i1, .int (i2 + 1)], [], (m_46 0 r0 M), J) r) (q2 : (¬ (i2 < i1)) → fl_dn fB59 (19, [.ref r0, .int i1, .int i2], [], M, J) r) : fl_dn fB59 (2, [.ref r0, .int i1, .int i2], [], M, J) r :=
 fl_td (s' := (4, [.ref r0, .int i1, .int i2], [.int i1, .int i2], M, J)) (fl_n 2 rfl) <|
 fl_dnot (fl_ic (t := 19) rfl rfl) fl_nlt (fun h1 =>
  fl_td (s' := (9, [.ref r0, .int i1, .int i2], [.int 0, .ref r0], M, J)) (fl_n 2 rfl) <|
  fl_td (s' := (12, [.ref r0, .int i1, .int i2], [.int ((lr_46_4 0 0 r0 M).1)], (m_46 0 r0 M), J)) (fl_cv (o := some (.int ((lr_46_4 0 0 r0 M).1))) rfl rfl rfl rfl (cc_46 M J 0 r0) rfl) <|
  fx_gen (p := fun (MM42 : fl_M) => fl_dn fB59 (12, [.ref r0, .int i1, .int i2], [.int ((lr_46_4 0 0 r0 M).1)], MM42, J) r) (m_46 0 r0 M) (fun MM42 eMM42 =>
   fx_gen (p := fun (II43 : Int32) => fl_dn fB59 (12, [.ref r0, .int i1, .int i2], [.int II43], MM42, J) r) ((lr_46_4 0 0 r0 M).1) (fun II43 eII43 =>
    fl_td (s' := (2, [.ref r0, .int i1, .int (i2 + 1)], [], MM42, J)) (fl_n 3 rfl) <|
    (by subst eMM42; subst eII43; exact (q1 h1))))) (fun h1 =>
  (q2 h1))
theorem lp_59_2 {r : fl_Q} (i1 : Int32) (r0 : Nat) (M : fl_M) (J : fl_J) (hx : ∀ w2 : Value, fl_dn fB59 (19, [.ref r0, .int i1, w2], [], (lr_59_2 i1 r0 M), J) r) : fl_dn fB59 (2, [.ref r0, .int i1, .int 0], [], M, J) r := by
  have hb := fi_bd i1
  have key : ∀ (n m : Nat), m + n = (i1).toNatClampNeg → fl_dn fB59 (2, [.ref r0, .int i1, .int (Int32.ofNat m)], [], (lq_59_2 r0 M m), J) r := by
    intro n
    induction n with
    | zero =>
      intro m hm
      have hm : m = (i1).toNatClampNeg := by omega
      have hn : ¬ ((Int32.ofNat m) < i1) := fun z => by have z := (fi_lt (by omega)).mp z; omega
      exact ts_59_2 i1 (Int32.ofNat m) r0 (lq_59_2 r0 M m) J (fun h1 => absurd h1 hn) (fun h1 => (by have e : lr_59_2 i1 r0 M = lq_59_2 r0 M m := (by show lq_59_2 r0 M ((i1).toNatClampNeg) = _; rw [← hm]); rw [e] at hx; exact hx _))
    | succ n ih =>
      intro m hm
      have hp : (Int32.ofNat m) < i1 := by exact (fi_lt (by omega)).mpr (by omega)
      refine ts_59_2 i1 (Int32.ofNat m) r0 (lq_59_2 r0 M m) J (fun h1 => ?_) (fun h1 => absurd hp h1)
      · have e : lq_59_2 r0 M (m + 1) = (m_46 0 r0 (lq_59_2 r0 M m)) := by
          rw [lqs_59_2]
          unfold ls_59_2
          rfl
        have q := ih (m + 1) (by omega)
        rw [e] at q
        first | (rw [fi_s]; exact q) | (rw [← fi_s] at q; exact q) | (simp only [fi_s] at q ⊢; exact q)
  exact key ((i1).toNatClampNeg) 0 (Nat.zero_add _)
theorem cc_59 (M : fl_M) (J : fl_J) (n : Int32) (T : Nat) : fl_C 59 [.ref T, .int n] M J (none, (lr_59_2 n T M), J) :=
 fl_Co (B := fB59) rfl rfl <|
 fl_td (s' := (2, [.ref T, .int n, .int 0], [], M, J)) (fl_n 2 rfl) <|
 lp_59_2 n T M J (fun u44 =>
  fx_gen (p := fun (MM45 : fl_M) => fl_dn fB59 (19, [.ref T, .int n, u44], [], MM45, J) (none, (lr_59_2 n T M), J)) (lr_59_2 n T M) (fun MM45 eMM45 =>
   fl_rt rfl (fun _ => rfl) (by subst eMM45; rfl)))
theorem fr_59_2 {n : Int32} {T : Nat} {M : fl_M} {c j : Nat} (hc : c < T ∨ T + 9 ≤ c) : (lr_59_2 n T M) c j = M c j := by
  have g0 : ¬ c = T := by omega
  have g1 : ¬ c = T + 1 := by omega
  have g2 : ¬ c = T + 2 := by omega
  have g3 : ¬ c = T + 3 := by omega
  have g4 : ¬ c = T + 4 := by omega
  have g5 : ¬ c = T + 5 := by omega
  have g6 : ¬ c = T + 6 := by omega
  have g7 : ¬ c = T + 7 := by omega
  have g8 : ¬ c = T + 8 := by omega
  unfold lr_59_2 lq_59_2
  refine it_k (fun q : fl_M => q c j = M c j) rfl (fun m q hq => ?_)
  unfold ls_59_2
  (try repeat' split) <;> first | with_reducible exact hq | (simp [fl_u, g0, g1, g2, g3, g4, g5, g6, g7, g8, fr_46 hc, hq]; done)
def fB44 : sm_P := (fun pc => sm_ch sm_t44 pc, sm_Kn 0 4 none, fun x => sm_lk sm_ca0 x, none)
def m_44 (wh li am : Int32) (D : Nat) (M : fl_M) : fl_M := (if (M D 0) < 0 then M else (if (M D 0) < 40 then (fl_u (fl_u (fl_u (fl_u M (D + 1) ((M D 0).toNatClampNeg) wh) (D + 2) (((fl_u M (D + 1) ((M D 0).toNatClampNeg) wh) D 0).toNatClampNeg) li) (D + 3) (((fl_u (fl_u M (D + 1) ((M D 0).toNatClampNeg) wh) (D + 2) (((fl_u M (D + 1) ((M D 0).toNatClampNeg) wh) D 0).toNatClampNeg) li) D 0).toNatClampNeg) am) D 0 (((fl_u (fl_u (fl_u M (D + 1) ((M D 0).toNatClampNeg) wh) (D + 2) (((fl_u M (D + 1) ((M D 0).toNatClampNeg) wh) D 0).toNatClampNeg) li) (D + 3) (((fl_u (fl_u M (D + 1) ((M D 0).toNatClampNeg) wh) (D + 2) (((fl_u M (D + 1) ((M D 0).toNatClampNeg) wh) D 0).toNatClampNeg) li) D 0).toNatClampNeg) am) D 0) + 1)) else M))
theorem cc_44 (M : fl_M) (J : fl_J) (wh li am : Int32) (D : Nat) : fl_C 44 [.ref D, .int wh, .int li, .int am] M J (none, (m_44 wh li am D M), J) :=
 fl_Co (B := fB44) rfl rfl <|
 fl_td (s' := (4, [.ref D, .int wh, .int li, .int am], [.int (M D 0)], M, J)) (fl_n 2 rfl) <|
 fl_dtwo (fl_if (t := 56) rfl rfl) fl_cT (fun h1 =>
  fl_rt rfl (fun _ => rfl) (by unfold m_44; first | (simp only [if_pos h1]; done) | rfl)) (fun h1 =>
  fl_td (s' := (13, [.ref D, .int wh, .int li, .int am], [.int 40, .int (M D 0)], M, J)) (fl_n 3 rfl) <|
  fl_dnot (fl_ic (t := 56) rfl rfl) fl_nlt (fun h2 =>
   fl_td (s' := (56, [.ref D, .int wh, .int li, .int am], [], (fl_u (fl_u (fl_u (fl_u M (D + 1) ((M D 0).toNatClampNeg) wh) (D + 2) (((fl_u M (D + 1) ((M D 0).toNatClampNeg) wh) D 0).toNatClampNeg) li) (D + 3) (((fl_u (fl_u M (D + 1) ((M D 0).toNatClampNeg) wh) (D + 2) (((fl_u M (D + 1) ((M D 0).toNatClampNeg) wh) D 0).toNatClampNeg) li) D 0).toNatClampNeg) am) D 0 (((fl_u (fl_u (fl_u M (D + 1) ((M D 0).toNatClampNeg) wh) (D + 2) (((fl_u M (D + 1) ((M D 0).toNatClampNeg) wh) D 0).toNatClampNeg) li) (D + 3) (((fl_u (fl_u M (D + 1) ((M D 0).toNatClampNeg) wh) (D + 2) (((fl_u M (D + 1) ((M D 0).toNatClampNeg) wh) D 0).toNatClampNeg) li) D 0).toNatClampNeg) am) D 0) + 1)), J)) (fl_n 24 rfl) <|
   fl_rt rfl (fun _ => rfl) (by unfold m_44; first | (simp only [if_neg h1, if_pos h2]; done) | rfl)) (fun h2 =>
   fl_rt rfl (fun _ => rfl) (by unfold m_44; first | (simp only [if_neg h1, if_neg h2]; done) | rfl)))
theorem fr_44 {wh li am : Int32} {D : Nat} {M : fl_M} {c j : Nat} (hc : c < D ∨ D + 4 ≤ c) : (m_44 wh li am D M) c j = M c j := by
  have g0 : ¬ c = D := by omega
  have g1 : ¬ c = D + 1 := by omega
  have g2 : ¬ c = D + 2 := by omega
  have g3 : ¬ c = D + 3 := by omega
  unfold m_44
  (try repeat' split) <;> first | with_reducible rfl | (simp [fl_u, g0, g1, g2, g3]; done)
def fB54 : sm_P := (fun pc => sm_ch sm_t54 pc, sm_Kn 0 3 none, fun x => sm_lk sm_ca0 x, none)
-- MiceRegisters$Deeds.takeFrom 10
def ls_54_10 (r0 r1 : Nat) (m : Nat) (q : fl_M) : fl_M := (fl_u (fl_u (fl_u q (r0 + 1) (Int32.ofNat m).toNatClampNeg (q (r1 + 1) (Int32.ofNat m).toNatClampNeg)) (r0 + 2) (Int32.ofNat m).toNatClampNeg ((fl_u q (r0 + 1) (Int32.ofNat m).toNatClampNeg (q (r1 + 1) (Int32.ofNat m).toNatClampNeg)) (r1 + 2) (Int32.ofNat m).toNatClampNeg)) (r0 + 3) (Int32.ofNat m).toNatClampNeg ((fl_u (fl_u q (r0 + 1) (Int32.ofNat m).toNatClampNeg (q (r1 + 1) (Int32.ofNat m).toNatClampNeg)) (r0 + 2) (Int32.ofNat m).toNatClampNeg ((fl_u q (r0 + 1) (Int32.ofNat m).toNatClampNeg (q (r1 + 1) (Int32.ofNat m).toNatClampNeg)) (r1 + 2) (Int32.ofNat m).toNatClampNeg)) (r1 + 3) (Int32.ofNat m).toNatClampNeg))
def lq_54_10 (r0 r1 : Nat) (M : fl_M) (m : Nat) : fl_M := fx_it (ls_54_10 r0 r1) m M
theorem lqs_54_10 (r0 r1 : Nat) (M : fl_M) (m : Nat) : lq_54_10 r0 r1 M (m + 1) = (ls_54_10 r0 r1) m (lq_54_10 r0 r1 M m) := by
  unfold lq_54_10
  exact fx_it_s _ _ _
def lr_54_10 (r0 r1 : Nat) (M : fl_M) : fl_M := (lq_54_10 r0 r1 M (((M r0 0)).toNatClampNeg))
theorem ts_54_10 {r : fl_Q} (i2 : Int32) (r0 r1 : Nat) (M : fl_M) (J : fl_J) (q1 : (i2 < (M r0 0)) → fl_dn fB54 (10, [.ref r0, .ref r1, .int (i2 + 1)], [], (fl_u (fl_u (fl_u M (r0 + 1) i2.toNatClampNeg (M (r1 + 1) i2.toNatClampNeg)) (r0 + 2) i2.toNatClampNeg ((fl_u M (r0 + 1) i2.toNatClampNeg (M (r1 + 1) i2.toNatClampNeg)) (r1 + 2) i2.toNatClampNeg)) (r0 + 3) i2.toNatClampNeg ((fl_u (fl_u M (r0 + 1) i2.toNatClampNeg (M (r1 + 1) i2.toNatClampNeg)) (r0 + 2) i2.toNatClampNeg ((fl_u M (r0 + 1) i2.toNatClampNeg (M (r1 + 1) i2.toNatClampNeg)) (r1 + 2) i2.toNatClampNeg)) (r1 + 3) i2.toNatClampNeg)), J) r) (q2 : (¬ (i2 < (M r0 0))) → fl_dn fB54 (60, [.ref r0, .ref r1, .int i2], [], M, J) r) : fl_dn fB54 (10, [.ref r0, .ref r1, .int i2], [], M, J) r :=
 fl_td (s' := (15, [.ref r0, .ref r1, .int i2], [.int (M r0 0), .int i2], M, J)) (fl_n 3 rfl) <|
 fl_dnot (fl_ic (t := 60) rfl rfl) fl_nlt (fun h1 =>
  fl_td (s' := (10, [.ref r0, .ref r1, .int (i2 + 1)], [], (fl_u (fl_u (fl_u M (r0 + 1) i2.toNatClampNeg (M (r1 + 1) i2.toNatClampNeg)) (r0 + 2) i2.toNatClampNeg ((fl_u M (r0 + 1) i2.toNatClampNeg (M (r1 + 1) i2.toNatClampNeg)) (r1 + 2) i2.toNatClampNeg)) (r0 + 3) i2.toNatClampNeg ((fl_u (fl_u M (r0 + 1) i2.toNatClampNeg (M (r1 + 1) i2.toNatClampNeg)) (r0 + 2) i2.toNatClampNeg ((fl_u M (r0 + 1) i2.toNatClampNeg (M (r1 + 1) i2.toNatClampNeg)) (r1 + 2) i2.toNatClampNeg)) (r1 + 3) i2.toNatClampNeg)), J)) (fl_n 26 rfl) <|
  (q1 h1)) (fun h1 =>
  (q2 h1))
theorem lk_54_10 (r0 r1 : Nat) (M : fl_M) (m : Nat) : ((lq_54_10 r0 r1 M m) r0 0) = (M r0 0) := by
  induction m with
  | zero => rfl
  | succ m ih =>
    rw [← ih]
    rw [lqs_54_10]
    generalize lq_54_10 r0 r1 M m = q
    unfold ls_54_10
    (repeat' split) <;> first | with_reducible rfl | (simp [fl_u, fr_22_18, fr_22_53, fr_23_42, fr_23_106, fr_23, fr_46_4, fr_46_100, fr_46, fr_45, fr_59_2, fr_44]; done) | rfl
theorem lp_54_10 {r : fl_Q} (r0 r1 : Nat) (M : fl_M) (J : fl_J) (hx : ∀ w2 : Value, fl_dn fB54 (60, [.ref r0, .ref r1, w2], [], (lr_54_10 r0 r1 M), J) r) : fl_dn fB54 (10, [.ref r0, .ref r1, .int 0], [], M, J) r := by
  have hb := fi_bd (M r0 0)
  have hB := fun m => lk_54_10 r0 r1 M m
  have key : ∀ (n m : Nat), m + n = ((M r0 0)).toNatClampNeg → fl_dn fB54 (10, [.ref r0, .ref r1, .int (Int32.ofNat m)], [], (lq_54_10 r0 r1 M m), J) r := by
    intro n
    induction n with
    | zero =>
      intro m hm
      have hm : m = ((M r0 0)).toNatClampNeg := by omega
      have hn : ¬ ((Int32.ofNat m) < ((lq_54_10 r0 r1 M m) r0 0)) := fun z => by rw [hB m] at z; have z := (fi_lt (by omega)).mp z; omega
      exact ts_54_10 (Int32.ofNat m) r0 r1 (lq_54_10 r0 r1 M m) J (fun h1 => absurd h1 hn) (fun h1 => (by have e : lr_54_10 r0 r1 M = lq_54_10 r0 r1 M m := (by show lq_54_10 r0 r1 M (((M r0 0)).toNatClampNeg) = _; rw [← hm]); rw [e] at hx; exact hx _))
    | succ n ih =>
      intro m hm
      have hp : (Int32.ofNat m) < ((lq_54_10 r0 r1 M m) r0 0) := by rw [hB m]; exact (fi_lt (by omega)).mpr (by omega)
      refine ts_54_10 (Int32.ofNat m) r0 r1 (lq_54_10 r0 r1 M m) J (fun h1 => ?_) (fun h1 => absurd hp h1)
      · have e : lq_54_10 r0 r1 M (m + 1) = (fl_u (fl_u (fl_u (lq_54_10 r0 r1 M m) (r0 + 1) (Int32.ofNat m).toNatClampNeg ((lq_54_10 r0 r1 M m) (r1 + 1) (Int32.ofNat m).toNatClampNeg)) (r0 + 2) (Int32.ofNat m).toNatClampNeg ((fl_u (lq_54_10 r0 r1 M m) (r0 + 1) (Int32.ofNat m).toNatClampNeg ((lq_54_10 r0 r1 M m) (r1 + 1) (Int32.ofNat m).toNatClampNeg)) (r1 + 2) (Int32.ofNat m).toNatClampNeg)) (r0 + 3) (Int32.ofNat m).toNatClampNeg ((fl_u (fl_u (lq_54_10 r0 r1 M m) (r0 + 1) (Int32.ofNat m).toNatClampNeg ((lq_54_10 r0 r1 M m) (r1 + 1) (Int32.ofNat m).toNatClampNeg)) (r0 + 2) (Int32.ofNat m).toNatClampNeg ((fl_u (lq_54_10 r0 r1 M m) (r0 + 1) (Int32.ofNat m).toNatClampNeg ((lq_54_10 r0 r1 M m) (r1 + 1) (Int32.ofNat m).toNatClampNeg)) (r1 + 2) (Int32.ofNat m).toNatClampNeg)) (r1 + 3) (Int32.ofNat m).toNatClampNeg)) := by
          rw [lqs_54_10]
          unfold ls_54_10
          rfl
        have q := ih (m + 1) (by omega)
        rw [e] at q
        first | (rw [fi_s]; exact q) | (rw [← fi_s] at q; exact q) | (simp only [fi_s] at q ⊢; exact q)
  exact key (((M r0 0)).toNatClampNeg) 0 (Nat.zero_add _)
theorem cc_54 (M : fl_M) (J : fl_J) (D E : Nat) : fl_C 54 [.ref D, .ref E] M J (none, (lr_54_10 D E (fl_u M D 0 (M E 0))), J) :=
 fl_Co (B := fB54) rfl rfl <|
 fl_td (s' := (10, [.ref D, .ref E, .int 0], [], (fl_u M D 0 (M E 0)), J)) (fl_n 6 rfl) <|
 lp_54_10 D E (fl_u M D 0 (M E 0)) J (fun u46 =>
  fx_gen (p := fun (MM47 : fl_M) => fl_dn fB54 (60, [.ref D, .ref E, u46], [], MM47, J) (none, (lr_54_10 D E (fl_u M D 0 (M E 0))), J)) (lr_54_10 D E (fl_u M D 0 (M E 0))) (fun MM47 eMM47 =>
   fl_rt rfl (fun _ => rfl) (by subst eMM47; rfl)))
theorem fr_54_10 {D E : Nat} {M : fl_M} {c j : Nat} (hc : c < D ∨ D + 4 ≤ c) : (lr_54_10 D E M) c j = M c j := by
  have g0 : ¬ c = D := by omega
  have g1 : ¬ c = D + 1 := by omega
  have g2 : ¬ c = D + 2 := by omega
  have g3 : ¬ c = D + 3 := by omega
  unfold lr_54_10 lq_54_10
  refine it_k (fun q : fl_M => q c j = M c j) rfl (fun m q hq => ?_)
  unfold ls_54_10
  (try repeat' split) <;> first | with_reducible exact hq | (simp [fl_u, g0, g1, g2, g3, hq]; done)
def fB43 : sm_P := (fun pc => sm_ch sm_t43 pc, sm_Kn 2 4 none, fun x => sm_lk sm_ca2 x, some .int)
theorem cc_43 (M : fl_M) (J : fl_J) (wh li am : Int32) : fl_C 43 [.ref 0, .int wh, .int li, .int am] M J (some (.int (v_45 wh li am 15 (m_44 wh li am 42 M))), (m_45 wh li am 15 (m_44 wh li am 42 M)), J) :=
 fl_Co (B := fB43) rfl rfl <|
 fl_td (s' := (7, [.ref 0, .int wh, .int li, .int am], [.int am, .int li, .int wh, .ref 42], M, J)) (fl_n 5 rfl) <|
 fl_td (s' := (10, [.ref 0, .int wh, .int li, .int am], [], (m_44 wh li am 42 M), J)) (fl_cv (o := none) rfl rfl rfl rfl (cc_44 M J wh li am 42) rfl) <|
 fx_gen (p := fun (MM48 : fl_M) => fl_dn fB43 (10, [.ref 0, .int wh, .int li, .int am], [], MM48, J) (some (.int (v_45 wh li am 15 (m_44 wh li am 42 M))), (m_45 wh li am 15 (m_44 wh li am 42 M)), J)) (m_44 wh li am 42 M) (fun MM48 eMM48 =>
  fl_td (s' := (17, [.ref 0, .int wh, .int li, .int am], [.int am, .int li, .int wh, .ref 15], MM48, J)) (fl_n 5 rfl) <|
  fl_td (s' := (20, [.ref 0, .int wh, .int li, .int am], [.int (v_45 wh li am 15 MM48)], (m_45 wh li am 15 MM48), J)) (fl_cv (o := some (.int (v_45 wh li am 15 MM48))) rfl rfl rfl rfl (cc_45 MM48 J wh li am 15) rfl) <|
  fx_gen (p := fun (MM49 : fl_M) => fl_dn fB43 (20, [.ref 0, .int wh, .int li, .int am], [.int (v_45 wh li am 15 MM48)], MM49, J) (some (.int (v_45 wh li am 15 (m_44 wh li am 42 M))), (m_45 wh li am 15 (m_44 wh li am 42 M)), J)) (m_45 wh li am 15 MM48) (fun MM49 eMM49 =>
   fl_rt rfl (fun _ => rfl) (by subst eMM48; subst eMM49; rfl)))
def fB51 : sm_P := (fun pc => sm_ch sm_t51 pc, sm_Kn 2 2 none, fun x => sm_lk sm_ca2 x, none)
-- MiceRegisters.doAgain 9
def ls_51_9 (m : Nat) (q : fl_M) : fl_M := (m_45 (q 43 (Int32.ofNat m).toNatClampNeg) (q 44 (Int32.ofNat m).toNatClampNeg) (q 45 (Int32.ofNat m).toNatClampNeg) 15 q)
def lq_51_9 (M : fl_M) (m : Nat) : fl_M := fx_it ls_51_9 m M
theorem lqs_51_9 (M : fl_M) (m : Nat) : lq_51_9 M (m + 1) = ls_51_9 m (lq_51_9 M m) := by
  unfold lq_51_9
  exact fx_it_s _ _ _
def lr_51_9 (M : fl_M) : fl_M := (lq_51_9 M (((M 42 0)).toNatClampNeg))
theorem ts_51_9 {r : fl_Q} (i1 : Int32) (M : fl_M) (J : fl_J) (q1 : (i1 < (M 42 0)) → fl_dn fB51 (9, [.ref 0, .int (i1 + 1)], [], (m_45 (M 43 i1.toNatClampNeg) (M 44 i1.toNatClampNeg) (M 45 i1.toNatClampNeg) 15 M), J) r) (q2 : (¬ (i1 < (M 42 0))) → fl_dn fB51 (61, [.ref 0, .int i1], [], M, J) r) : fl_dn fB51 (9, [.ref 0, .int i1], [], M, J) r :=
 fl_td (s' := (17, [.ref 0, .int i1], [.int (M 42 0), .int i1], M, J)) (fl_n 4 rfl) <|
 fl_dnot (fl_ic (t := 61) rfl rfl) fl_nlt (fun h1 =>
  fl_td (s' := (51, [.ref 0, .int i1], [.int (M 45 i1.toNatClampNeg), .int (M 44 i1.toNatClampNeg), .int (M 43 i1.toNatClampNeg), .ref 15], M, J)) (fl_n 17 rfl) <|
  fl_td (s' := (54, [.ref 0, .int i1], [.int (v_45 (M 43 i1.toNatClampNeg) (M 44 i1.toNatClampNeg) (M 45 i1.toNatClampNeg) 15 M)], (m_45 (M 43 i1.toNatClampNeg) (M 44 i1.toNatClampNeg) (M 45 i1.toNatClampNeg) 15 M), J)) (fl_cv (o := some (.int (v_45 (M 43 i1.toNatClampNeg) (M 44 i1.toNatClampNeg) (M 45 i1.toNatClampNeg) 15 M))) rfl rfl rfl rfl (cc_45 M J (M 43 i1.toNatClampNeg) (M 44 i1.toNatClampNeg) (M 45 i1.toNatClampNeg) 15) rfl) <|
  fx_gen (p := fun (MM51 : fl_M) => fl_dn fB51 (54, [.ref 0, .int i1], [.int (v_45 (M 43 i1.toNatClampNeg) (M 44 i1.toNatClampNeg) (M 45 i1.toNatClampNeg) 15 M)], MM51, J) r) (m_45 (M 43 i1.toNatClampNeg) (M 44 i1.toNatClampNeg) (M 45 i1.toNatClampNeg) 15 M) (fun MM51 eMM51 =>
   fl_td (s' := (9, [.ref 0, .int (i1 + 1)], [], MM51, J)) (fl_n 3 rfl) <|
   (by subst eMM51; exact (q1 h1)))) (fun h1 =>
  (q2 h1))
theorem lk_51_9 (M : fl_M) (m : Nat) : ((lq_51_9 M m) 42 0) = (M 42 0) := by
  induction m with
  | zero => rfl
  | succ m ih =>
    rw [← ih]
    rw [lqs_51_9]
    generalize lq_51_9 M m = q
    unfold ls_51_9
    (repeat' split) <;> first | with_reducible rfl | (simp [fl_u, fr_22_18, fr_22_53, fr_23_42, fr_23_106, fr_23, fr_46_4, fr_46_100, fr_46, fr_45, fr_59_2, fr_44, fr_54_10]; done) | rfl
theorem lp_51_9 {r : fl_Q} (M : fl_M) (J : fl_J) (hx : ∀ w1 : Value, fl_dn fB51 (61, [.ref 0, w1], [], (lr_51_9 M), J) r) : fl_dn fB51 (9, [.ref 0, .int 0], [], M, J) r := by
  have hb := fi_bd (M 42 0)
  have hB := fun m => lk_51_9 M m
  have key : ∀ (n m : Nat), m + n = ((M 42 0)).toNatClampNeg → fl_dn fB51 (9, [.ref 0, .int (Int32.ofNat m)], [], (lq_51_9 M m), J) r := by
    intro n
    induction n with
    | zero =>
      intro m hm
      have hm : m = ((M 42 0)).toNatClampNeg := by omega
      have hn : ¬ ((Int32.ofNat m) < ((lq_51_9 M m) 42 0)) := fun z => by rw [hB m] at z; have z := (fi_lt (by omega)).mp z; omega
      exact ts_51_9 (Int32.ofNat m) (lq_51_9 M m) J (fun h1 => absurd h1 hn) (fun h1 => (by have e : lr_51_9 M = lq_51_9 M m := (by show lq_51_9 M (((M 42 0)).toNatClampNeg) = _; rw [← hm]); rw [e] at hx; exact hx _))
    | succ n ih =>
      intro m hm
      have hp : (Int32.ofNat m) < ((lq_51_9 M m) 42 0) := by rw [hB m]; exact (fi_lt (by omega)).mpr (by omega)
      refine ts_51_9 (Int32.ofNat m) (lq_51_9 M m) J (fun h1 => ?_) (fun h1 => absurd hp h1)
      · have e : lq_51_9 M (m + 1) = (m_45 ((lq_51_9 M m) 43 (Int32.ofNat m).toNatClampNeg) ((lq_51_9 M m) 44 (Int32.ofNat m).toNatClampNeg) ((lq_51_9 M m) 45 (Int32.ofNat m).toNatClampNeg) 15 (lq_51_9 M m)) := by
          rw [lqs_51_9]
          unfold ls_51_9
          rfl
        have q := ih (m + 1) (by omega)
        rw [e] at q
        first | (rw [fi_s]; exact q) | (rw [← fi_s] at q; exact q) | (simp only [fi_s] at q ⊢; exact q)
  exact key (((M 42 0)).toNatClampNeg) 0 (Nat.zero_add _)
theorem cc_51 (M : fl_M) (J : fl_J) : fl_C 51 [.ref 0] M J (none, (lr_51_9 (lr_22_53 15 (lr_22_18 15 (fl_u (fl_u (fl_u M 15 2 0) 15 3 (-9)) 15 4 0)))), J) :=
 fl_Co (B := fB51) rfl rfl <|
 fl_td (s' := (4, [.ref 0, .null], [.ref 15], M, J)) (fl_n 2 rfl) <|
 fl_td (s' := (7, [.ref 0, .null], [], (lr_22_53 15 (lr_22_18 15 (fl_u (fl_u (fl_u M 15 2 0) 15 3 (-9)) 15 4 0))), J)) (fl_cv (o := none) rfl rfl rfl rfl (cc_22 M J 15) rfl) <|
 fx_gen (p := fun (MM50 : fl_M) => fl_dn fB51 (7, [.ref 0, .null], [], MM50, J) (none, (lr_51_9 (lr_22_53 15 (lr_22_18 15 (fl_u (fl_u (fl_u M 15 2 0) 15 3 (-9)) 15 4 0)))), J)) (lr_22_53 15 (lr_22_18 15 (fl_u (fl_u (fl_u M 15 2 0) 15 3 (-9)) 15 4 0))) (fun MM50 eMM50 =>
  fl_td (s' := (9, [.ref 0, .int 0], [], MM50, J)) (fl_n 2 rfl) <|
  lp_51_9 MM50 J (fun u52 =>
   fx_gen (p := fun (MM53 : fl_M) => fl_dn fB51 (61, [.ref 0, u52], [], MM53, J) (none, (lr_51_9 (lr_22_53 15 (lr_22_18 15 (fl_u (fl_u (fl_u M 15 2 0) 15 3 (-9)) 15 4 0)))), J)) (lr_51_9 MM50) (fun MM53 eMM53 =>
    fl_rt rfl (fun _ => rfl) (by subst eMM50; subst eMM53; rfl))))
theorem fr_51_9  {M : fl_M} {c j : Nat} (hc : c < 15 ∨ 15 + 9 ≤ c) : (lr_51_9 M) c j = M c j := by
  have g0 : ¬ c = 15 := by omega
  have g1 : ¬ c = 15 + 1 := by omega
  have g2 : ¬ c = 15 + 2 := by omega
  have g3 : ¬ c = 15 + 3 := by omega
  have g4 : ¬ c = 15 + 4 := by omega
  have g5 : ¬ c = 15 + 5 := by omega
  have g6 : ¬ c = 15 + 6 := by omega
  have g7 : ¬ c = 15 + 7 := by omega
  have g8 : ¬ c = 15 + 8 := by omega
  unfold lr_51_9 lq_51_9
  refine it_k (fun q : fl_M => q c j = M c j) rfl (fun m q hq => ?_)
  unfold ls_51_9
  (try repeat' split) <;> first | with_reducible exact hq | (simp [fl_u, g0, g1, g2, g3, g4, g5, g6, g7, g8, fr_45 hc, hq]; done)
def fB25 : sm_P := (fun pc => sm_ch sm_t25 pc, sm_Kn 2 2 none, fun x => sm_lk sm_ca2 x, some .boolean)
theorem cc_25 (M : fl_M) (J : fl_J) (l : Int32) : fl_C 25 [.ref 0, .int l] M J (some (.int (if (l < 0) ∨ (¬ (l < (M 15 0))) then 1 else 0)), M, J) :=
 fl_Co (B := fB25) rfl rfl <|
 fl_td (s' := (1, [.ref 0, .int l], [.int l], M, J)) (fl_n 1 rfl) <|
 fl_dtwo (fl_if (t := 15) rfl rfl) fl_cT (fun h1 =>
  fl_td (s' := (20, [.ref 0, .int l], [.int 1], M, J)) (fl_n 2 rfl) <|
  fl_rt rfl (fun _ => rfl) (by first | (simp [h1]; done) | (simp_all; done))) (fun h1 =>
  fl_td (s' := (12, [.ref 0, .int l], [.int (M 15 0), .int l], M, J)) (fl_n 4 rfl) <|
  fl_dtwo (fl_ic (t := 19) rfl rfl) fl_cT (fun h2 =>
   fl_td (s' := (20, [.ref 0, .int l], [.int 0], M, J)) (fl_n 1 rfl) <|
   fl_rt rfl (fun _ => rfl) (by first | (simp [h1, h2]; done) | (simp_all; done))) (fun h2 =>
   fl_td (s' := (20, [.ref 0, .int l], [.int 1], M, J)) (fl_n 2 rfl) <|
   fl_rt rfl (fun _ => rfl) (by first | (simp [h1, h2]; done) | (simp_all; done))))
def fB33 : sm_P := (fun pc => sm_ch sm_t33 pc, sm_Kn 2 2 none, fun x => sm_lk sm_ca2 x, some .boolean)
theorem cc_33 (M : fl_M) (J : fl_J) (i : Int32) : fl_C 33 [.ref 0, .int i] M J (some (.int (if (i < 0) ∨ (¬ (i < (M 15 1))) then 1 else 0)), M, J) :=
 fl_Co (B := fB33) rfl rfl <|
 fl_td (s' := (1, [.ref 0, .int i], [.int i], M, J)) (fl_n 1 rfl) <|
 fl_dtwo (fl_if (t := 15) rfl rfl) fl_cT (fun h1 =>
  fl_td (s' := (20, [.ref 0, .int i], [.int 1], M, J)) (fl_n 2 rfl) <|
  fl_rt rfl (fun _ => rfl) (by first | (simp [h1]; done) | (simp_all; done))) (fun h1 =>
  fl_td (s' := (12, [.ref 0, .int i], [.int (M 15 1), .int i], M, J)) (fl_n 4 rfl) <|
  fl_dtwo (fl_ic (t := 19) rfl rfl) fl_cT (fun h2 =>
   fl_td (s' := (20, [.ref 0, .int i], [.int 0], M, J)) (fl_n 1 rfl) <|
   fl_rt rfl (fun _ => rfl) (by first | (simp [h1, h2]; done) | (simp_all; done))) (fun h2 =>
   fl_td (s' := (20, [.ref 0, .int i], [.int 1], M, J)) (fl_n 2 rfl) <|
   fl_rt rfl (fun _ => rfl) (by first | (simp [h1, h2]; done) | (simp_all; done))))
def fB26 : sm_P := (fun pc => sm_ch sm_t26 pc, sm_Kn 2 3 none, fun x => sm_lk sm_ca2 x, some .int)
def v_26 (l wh : Int32) (M : fl_M) : Int32 := (if wh = 0 then M 16 l.toNatClampNeg else (if wh = 1 then M 17 l.toNatClampNeg else (if wh = 2 then M 18 l.toNatClampNeg else (if wh = 3 then M 19 l.toNatClampNeg else (if wh = 4 then ((M 15 4) >>> (l &&& 31)) &&& 1 else (lr_27_4 l 0 15 M))))))
theorem cc_26 (M : fl_M) (J : fl_J) (l wh : Int32) : fl_C 26 [.ref 0, .int l, .int wh] M J (some (.int (v_26 l wh M)), M, J) :=
 fl_Co (B := fB26) rfl rfl <|
 fl_td (s' := (1, [.ref 0, .int l, .int wh], [.int wh], M, J)) (fl_n 1 rfl) <|
 fl_dc (c := wh = 0) (fun h1 =>
  fl_td (s' := (36, [.ref 0, .int l, .int wh], [], M, J)) (fl_sw h1 rfl) <|
  fl_td (s' := (45, [.ref 0, .int l, .int wh], [.int (M 16 l.toNatClampNeg)], M, J)) (fl_n 5 rfl) <|
  fl_rt rfl (fun _ => rfl) (by unfold v_26; first | (simp only [if_pos h1]; done) | rfl)) (fun h1 =>
  fl_dc (c := wh = 1) (fun h2 =>
   fl_td (s' := (46, [.ref 0, .int l, .int wh], [], M, J)) (fl_sw h2 rfl) <|
   fl_td (s' := (55, [.ref 0, .int l, .int wh], [.int (M 17 l.toNatClampNeg)], M, J)) (fl_n 5 rfl) <|
   fl_rt rfl (fun _ => rfl) (by unfold v_26; first | (simp only [if_neg h1, if_pos h2]; done) | rfl)) (fun h2 =>
   fl_dc (c := wh = 2) (fun h3 =>
    fl_td (s' := (56, [.ref 0, .int l, .int wh], [], M, J)) (fl_sw h3 rfl) <|
    fl_td (s' := (65, [.ref 0, .int l, .int wh], [.int (M 18 l.toNatClampNeg)], M, J)) (fl_n 5 rfl) <|
    fl_rt rfl (fun _ => rfl) (by unfold v_26; first | (simp only [if_neg h1, if_neg h2, if_pos h3]; done) | rfl)) (fun h3 =>
    fl_dc (c := wh = 3) (fun h4 =>
     fl_td (s' := (66, [.ref 0, .int l, .int wh], [], M, J)) (fl_sw h4 rfl) <|
     fl_td (s' := (75, [.ref 0, .int l, .int wh], [.int (M 19 l.toNatClampNeg)], M, J)) (fl_n 5 rfl) <|
     fl_rt rfl (fun _ => rfl) (by unfold v_26; first | (simp only [if_neg h1, if_neg h2, if_neg h3, if_pos h4]; done) | rfl)) (fun h4 =>
     fl_dc (c := wh = 4) (fun h5 =>
      fl_td (s' := (76, [.ref 0, .int l, .int wh], [], M, J)) (fl_sw h5 rfl) <|
      fl_td (s' := (87, [.ref 0, .int l, .int wh], [.int (((M 15 4) >>> (l &&& 31)) &&& 1)], M, J)) (fl_n 7 rfl) <|
      fl_rt rfl (fun _ => rfl) (by unfold v_26; first | (simp only [if_neg h1, if_neg h2, if_neg h3, if_neg h4, if_pos h5]; done) | rfl)) (fun h5 =>
      fl_td (s' := (88, [.ref 0, .int l, .int wh], [], M, J)) (fl_swd rfl rfl (by have e0 := fl_ne 0 rfl h1; have e1 := fl_ne 1 rfl h2; have e2 := fl_ne 2 rfl h3; have e3 := fl_ne 3 rfl h4; have e4 := fl_ne 4 rfl h5; omega)) <|
      fl_td (s' := (93, [.ref 0, .int l, .int wh], [.int l, .ref 15], M, J)) (fl_n 3 rfl) <|
      fl_td (s' := (96, [.ref 0, .int l, .int wh], [.int (lr_27_4 l 0 15 M)], M, J)) (fl_cv (o := some (.int (lr_27_4 l 0 15 M))) rfl rfl rfl rfl (cc_27 M J l 15) rfl) <|
      fx_gen (p := fun (II54 : Int32) => fl_dn fB26 (96, [.ref 0, .int l, .int wh], [.int II54], M, J) (some (.int (v_26 l wh M)), M, J)) (lr_27_4 l 0 15 M) (fun II54 eII54 =>
       fl_rt rfl (fun _ => rfl) (by subst eII54; unfold v_26; first | (simp only [if_neg h1, if_neg h2, if_neg h3, if_neg h4, if_neg h5]; done) | rfl)))))))
def fB24 : sm_P := (fun pc => sm_ch sm_t24 pc, sm_Kn 2 3 none, fun x => sm_lk sm_ca2 x, some .int)
def v_24 (l wh : Int32) (M : fl_M) : Int32 := (if (l < 0) ∨ (¬ (l < (M 15 0))) then (-1) else (if wh < 0 then (-1) else (if wh < 6 then 1 else (-1))))
def m_24 (l wh : Int32) (M : fl_M) : fl_M := (if (l < 0) ∨ (¬ (l < (M 15 0))) then M else (if wh < 0 then M else (if wh < 6 then (fl_u M 0 12 (v_26 l wh M)) else M)))
theorem cc_24 (M : fl_M) (J : fl_J) (l wh : Int32) : fl_C 24 [.ref 0, .int l, .int wh] M J (some (.int (v_24 l wh M)), (m_24 l wh M), J) :=
 fl_Co (B := fB24) rfl rfl <|
 fl_td (s' := (2, [.ref 0, .int l, .int wh], [.int l, .ref 0], M, J)) (fl_n 2 rfl) <|
 fl_td (s' := (5, [.ref 0, .int l, .int wh], [.int (if (l < 0) ∨ (¬ (l < (M 15 0))) then 1 else 0)], M, J)) (fl_cv (o := some (.int (if (l < 0) ∨ (¬ (l < (M 15 0))) then 1 else 0))) rfl rfl rfl rfl (cc_25 M J l) rfl) <|
 fl_dtwo (fl_if (t := 18) rfl rfl) fl_b1 (fun h1 =>
  fl_td (s' := (19, [.ref 0, .int l, .int wh], [.int (-1)], M, J)) (fl_n 1 rfl) <|
  fl_rt rfl (fun _ => rfl) (by unfold v_24 m_24; first | (simp only [if_pos h1]; done) | rfl)) (fun h1 =>
  fl_td (s' := (9, [.ref 0, .int l, .int wh], [.int wh], M, J)) (fl_n 1 rfl) <|
  fl_dtwo (fl_if (t := 18) rfl rfl) fl_cT (fun h2 =>
   fl_td (s' := (19, [.ref 0, .int l, .int wh], [.int (-1)], M, J)) (fl_n 1 rfl) <|
   fl_rt rfl (fun _ => rfl) (by unfold v_24 m_24; first | (simp only [if_neg h1, if_pos h2]; done) | rfl)) (fun h2 =>
   fl_td (s' := (15, [.ref 0, .int l, .int wh], [.int 6, .int wh], M, J)) (fl_n 2 rfl) <|
   fl_dtwo (fl_ic (t := 20) rfl rfl) fl_cT (fun h3 =>
    fl_td (s' := (24, [.ref 0, .int l, .int wh], [.int wh, .int l, .ref 0, .ref 0], M, J)) (fl_n 4 rfl) <|
    fl_td (s' := (27, [.ref 0, .int l, .int wh], [.int (v_26 l wh M), .ref 0], M, J)) (fl_cv (o := some (.int (v_26 l wh M))) rfl rfl rfl rfl (cc_26 M J l wh) rfl) <|
    fl_td (s' := (30, [.ref 0, .int l, .int wh], [.int 1], (fl_u M 0 12 (v_26 l wh M)), J)) (fl_cv (o := some (.int 1)) rfl rfl rfl rfl (cc_5 M J (v_26 l wh M)) rfl) <|
    fl_rt rfl (fun _ => rfl) (by unfold v_24 m_24; first | (simp only [if_neg h1, if_neg h2, if_pos h3]; done) | rfl)) (fun h3 =>
    fl_td (s' := (19, [.ref 0, .int l, .int wh], [.int (-1)], M, J)) (fl_n 1 rfl) <|
    fl_rt rfl (fun _ => rfl) (by unfold v_24 m_24; first | (simp only [if_neg h1, if_neg h2, if_neg h3]; done) | rfl))))
def fB34 : sm_P := (fun pc => sm_ch sm_t34 pc, sm_Kn 2 3 none, fun x => sm_lk sm_ca2 x, some .int)
def v_34 (i wh : Int32) (M : fl_M) : Int32 := (if wh = 0 then M 20 i.toNatClampNeg else (if wh = 1 then M 23 i.toNatClampNeg else (if wh = 2 then M 21 i.toNatClampNeg else (if wh = 3 then v_35 (M 20 i.toNatClampNeg) (M 21 i.toNatClampNeg) else ((lr_28_11 i (-9) 0 0 15 M).1)))))
theorem cc_34 (M : fl_M) (J : fl_J) (i wh : Int32) : fl_C 34 [.ref 0, .int i, .int wh] M J (some (.int (v_34 i wh M)), M, J) :=
 fl_Co (B := fB34) rfl rfl <|
 fl_td (s' := (1, [.ref 0, .int i, .int wh], [.int wh], M, J)) (fl_n 1 rfl) <|
 fl_dc (c := wh = 0) (fun h1 =>
  fl_td (s' := (32, [.ref 0, .int i, .int wh], [], M, J)) (fl_sw h1 rfl) <|
  fl_td (s' := (41, [.ref 0, .int i, .int wh], [.int (M 20 i.toNatClampNeg)], M, J)) (fl_n 5 rfl) <|
  fl_rt rfl (fun _ => rfl) (by unfold v_34; first | (simp only [if_pos h1]; done) | rfl)) (fun h1 =>
  fl_dc (c := wh = 1) (fun h2 =>
   fl_td (s' := (42, [.ref 0, .int i, .int wh], [], M, J)) (fl_sw h2 rfl) <|
   fl_td (s' := (51, [.ref 0, .int i, .int wh], [.int (M 23 i.toNatClampNeg)], M, J)) (fl_n 5 rfl) <|
   fl_rt rfl (fun _ => rfl) (by unfold v_34; first | (simp only [if_neg h1, if_pos h2]; done) | rfl)) (fun h2 =>
   fl_dc (c := wh = 2) (fun h3 =>
    fl_td (s' := (52, [.ref 0, .int i, .int wh], [], M, J)) (fl_sw h3 rfl) <|
    fl_td (s' := (61, [.ref 0, .int i, .int wh], [.int (M 21 i.toNatClampNeg)], M, J)) (fl_n 5 rfl) <|
    fl_rt rfl (fun _ => rfl) (by unfold v_34; first | (simp only [if_neg h1, if_neg h2, if_pos h3]; done) | rfl)) (fun h3 =>
    fl_dc (c := wh = 3) (fun h4 =>
     fl_td (s' := (62, [.ref 0, .int i, .int wh], [], M, J)) (fl_sw h4 rfl) <|
     fl_td (s' := (80, [.ref 0, .int i, .int wh], [.int (M 21 i.toNatClampNeg), .int (M 20 i.toNatClampNeg)], M, J)) (fl_n 10 rfl) <|
     fl_td (s' := (83, [.ref 0, .int i, .int wh], [.int (v_35 (M 20 i.toNatClampNeg) (M 21 i.toNatClampNeg))], M, J)) (fl_cs (o := some (.int (v_35 (M 20 i.toNatClampNeg) (M 21 i.toNatClampNeg)))) rfl rfl rfl (cc_35 M J (M 20 i.toNatClampNeg) (M 21 i.toNatClampNeg)) rfl) <|
     fl_rt rfl (fun _ => rfl) (by unfold v_34; first | (simp only [if_neg h1, if_neg h2, if_neg h3, if_pos h4]; done) | rfl)) (fun h4 =>
     fl_td (s' := (84, [.ref 0, .int i, .int wh], [], M, J)) (fl_swd rfl rfl (by have e0 := fl_ne 0 rfl h1; have e1 := fl_ne 1 rfl h2; have e2 := fl_ne 2 rfl h3; have e3 := fl_ne 3 rfl h4; omega)) <|
     fl_td (s' := (89, [.ref 0, .int i, .int wh], [.int i, .ref 15], M, J)) (fl_n 3 rfl) <|
     fl_td (s' := (92, [.ref 0, .int i, .int wh], [.int ((lr_28_11 i (-9) 0 0 15 M).1)], M, J)) (fl_cv (o := some (.int ((lr_28_11 i (-9) 0 0 15 M).1))) rfl rfl rfl rfl (cc_28 M J i 15) rfl) <|
     fx_gen (p := fun (II55 : Int32) => fl_dn fB34 (92, [.ref 0, .int i, .int wh], [.int II55], M, J) (some (.int (v_34 i wh M)), M, J)) ((lr_28_11 i (-9) 0 0 15 M).1) (fun II55 eII55 =>
      fl_rt rfl (fun _ => rfl) (by subst eII55; unfold v_34; first | (simp only [if_neg h1, if_neg h2, if_neg h3, if_neg h4]; done) | rfl))))))
def fB32 : sm_P := (fun pc => sm_ch sm_t32 pc, sm_Kn 2 3 none, fun x => sm_lk sm_ca2 x, some .int)
def v_32 (i wh : Int32) (M : fl_M) : Int32 := (if (i < 0) ∨ (¬ (i < (M 15 1))) then (-1) else (if wh < 0 then (-1) else (if wh < 5 then 1 else (-1))))
def m_32 (i wh : Int32) (M : fl_M) : fl_M := (if (i < 0) ∨ (¬ (i < (M 15 1))) then M else (if wh < 0 then M else (if wh < 5 then (fl_u M 0 12 (v_34 i wh M)) else M)))
theorem cc_32 (M : fl_M) (J : fl_J) (i wh : Int32) : fl_C 32 [.ref 0, .int i, .int wh] M J (some (.int (v_32 i wh M)), (m_32 i wh M), J) :=
 fl_Co (B := fB32) rfl rfl <|
 fl_td (s' := (2, [.ref 0, .int i, .int wh], [.int i, .ref 0], M, J)) (fl_n 2 rfl) <|
 fl_td (s' := (5, [.ref 0, .int i, .int wh], [.int (if (i < 0) ∨ (¬ (i < (M 15 1))) then 1 else 0)], M, J)) (fl_cv (o := some (.int (if (i < 0) ∨ (¬ (i < (M 15 1))) then 1 else 0))) rfl rfl rfl rfl (cc_33 M J i) rfl) <|
 fl_dtwo (fl_if (t := 17) rfl rfl) fl_b1 (fun h1 =>
  fl_td (s' := (18, [.ref 0, .int i, .int wh], [.int (-1)], M, J)) (fl_n 1 rfl) <|
  fl_rt rfl (fun _ => rfl) (by unfold v_32 m_32; first | (simp only [if_pos h1]; done) | rfl)) (fun h1 =>
  fl_td (s' := (9, [.ref 0, .int i, .int wh], [.int wh], M, J)) (fl_n 1 rfl) <|
  fl_dtwo (fl_if (t := 17) rfl rfl) fl_cT (fun h2 =>
   fl_td (s' := (18, [.ref 0, .int i, .int wh], [.int (-1)], M, J)) (fl_n 1 rfl) <|
   fl_rt rfl (fun _ => rfl) (by unfold v_32 m_32; first | (simp only [if_neg h1, if_pos h2]; done) | rfl)) (fun h2 =>
   fl_td (s' := (14, [.ref 0, .int i, .int wh], [.int 5, .int wh], M, J)) (fl_n 2 rfl) <|
   fl_dtwo (fl_ic (t := 19) rfl rfl) fl_cT (fun h3 =>
    fl_td (s' := (23, [.ref 0, .int i, .int wh], [.int wh, .int i, .ref 0, .ref 0], M, J)) (fl_n 4 rfl) <|
    fl_td (s' := (26, [.ref 0, .int i, .int wh], [.int (v_34 i wh M), .ref 0], M, J)) (fl_cv (o := some (.int (v_34 i wh M))) rfl rfl rfl rfl (cc_34 M J i wh) rfl) <|
    fl_td (s' := (29, [.ref 0, .int i, .int wh], [.int 1], (fl_u M 0 12 (v_34 i wh M)), J)) (fl_cv (o := some (.int 1)) rfl rfl rfl rfl (cc_5 M J (v_34 i wh M)) rfl) <|
    fl_rt rfl (fun _ => rfl) (by unfold v_32 m_32; first | (simp only [if_neg h1, if_neg h2, if_pos h3]; done) | rfl)) (fun h3 =>
    fl_td (s' := (18, [.ref 0, .int i, .int wh], [.int (-1)], M, J)) (fl_n 1 rfl) <|
    fl_rt rfl (fun _ => rfl) (by unfold v_32 m_32; first | (simp only [if_neg h1, if_neg h2, if_neg h3]; done) | rfl))))
def fB36 : sm_P := (fun pc => sm_ch sm_t36 pc, sm_Kn 2 3 none, fun x => sm_lk sm_ca2 x, some .int)
def v_36 (i kind : Int32) (M : fl_M) : Int32 := (if (i < 0) ∨ (¬ (i < (M 15 1))) then (-1) else (if 0 < kind then (if kind < 6 then (if (kind = 0) ∨ (((M 20 i.toNatClampNeg) = kind) ∨ ((((M 20 i.toNatClampNeg) = 4) ∧ ((kind = 2) ∨ (((M 20 i.toNatClampNeg) = 5) ∧ (kind = 3)))) ∨ ((¬ ((M 20 i.toNatClampNeg) = 4)) ∧ (((M 20 i.toNatClampNeg) = 5) ∧ (kind = 3))))) then (if kind = 1 then (lr_38_4 i 0 15 M) else (if kind = 2 then (lr_39_4 0 15 M) else (if kind = 3 then v_40 i 15 M else (if kind = 4 then (v_35 0 (M 21 i.toNatClampNeg)) - (v_35 (M 20 i.toNatClampNeg) (M 21 i.toNatClampNeg)) else (lr_41_4 0 15 M))))) else (-3)) else (-1)) else (-1)))
def m_36 (i kind : Int32) (M : fl_M) : fl_M := (if (i < 0) ∨ (¬ (i < (M 15 1))) then M else (if 0 < kind then (if kind < 6 then (if (kind = 0) ∨ (((M 20 i.toNatClampNeg) = kind) ∨ ((((M 20 i.toNatClampNeg) = 4) ∧ ((kind = 2) ∨ (((M 20 i.toNatClampNeg) = 5) ∧ (kind = 3)))) ∨ ((¬ ((M 20 i.toNatClampNeg) = 4)) ∧ (((M 20 i.toNatClampNeg) = 5) ∧ (kind = 3))))) then M else (fl_u (fl_u M 0 11 3) 80 3 ((M 80 3) + 1))) else M) else M))
theorem cc_36 (M : fl_M) (J : fl_J) (i kind : Int32) : fl_C 36 [.ref 0, .int i, .int kind] M J (some (.int (v_36 i kind M)), (m_36 i kind M), J) :=
 fl_Co (B := fB36) rfl rfl <|
 fl_td (s' := (2, [.ref 0, .int i, .int kind], [.int i, .ref 0], M, J)) (fl_n 2 rfl) <|
 fl_td (s' := (5, [.ref 0, .int i, .int kind], [.int (if (i < 0) ∨ (¬ (i < (M 15 1))) then 1 else 0)], M, J)) (fl_cv (o := some (.int (if (i < 0) ∨ (¬ (i < (M 15 1))) then 1 else 0))) rfl rfl rfl rfl (cc_33 M J i) rfl) <|
 fl_dtwo (fl_if (t := 18) rfl rfl) fl_b1 (fun h1 =>
  fl_td (s' := (19, [.ref 0, .int i, .int kind], [.int (-1)], M, J)) (fl_n 1 rfl) <|
  fl_rt rfl (fun _ => rfl) (by unfold v_36 m_36; first | (simp only [if_pos h1]; done) | rfl)) (fun h1 =>
  fl_td (s' := (9, [.ref 0, .int i, .int kind], [.int kind], M, J)) (fl_n 1 rfl) <|
  fl_dnot (fl_if (t := 18) rfl rfl) fl_nle (fun h2 =>
   fl_td (s' := (15, [.ref 0, .int i, .int kind], [.int 6, .int kind], M, J)) (fl_n 2 rfl) <|
   fl_dtwo (fl_ic (t := 20) rfl rfl) fl_cT (fun h3 =>
    fl_td (s' := (30, [.ref 0, .int i, .int kind], [.int kind, .int (M 20 i.toNatClampNeg)], M, J)) (fl_n 6 rfl) <|
    fl_td (s' := (33, [.ref 0, .int i, .int kind], [.int (if (kind = 0) ∨ (((M 20 i.toNatClampNeg) = kind) ∨ ((((M 20 i.toNatClampNeg) = 4) ∧ ((kind = 2) ∨ (((M 20 i.toNatClampNeg) = 5) ∧ (kind = 3)))) ∨ ((¬ ((M 20 i.toNatClampNeg) = 4)) ∧ (((M 20 i.toNatClampNeg) = 5) ∧ (kind = 3))))) then 1 else 0)], M, J)) (fl_cs (o := some (.int (if (kind = 0) ∨ (((M 20 i.toNatClampNeg) = kind) ∨ ((((M 20 i.toNatClampNeg) = 4) ∧ ((kind = 2) ∨ (((M 20 i.toNatClampNeg) = 5) ∧ (kind = 3)))) ∨ ((¬ ((M 20 i.toNatClampNeg) = 4)) ∧ (((M 20 i.toNatClampNeg) = 5) ∧ (kind = 3))))) then 1 else 0))) rfl rfl rfl (cc_37 M J (M 20 i.toNatClampNeg) kind) rfl) <|
    fl_dtwo (fl_if (t := 42) rfl rfl) fl_b1 (fun h4 =>
     fl_td (s' := (43, [.ref 0, .int i, .int kind], [.int kind], M, J)) (fl_n 1 rfl) <|
     fl_dc (c := kind = 1) (fun h5 =>
      fl_td (s' := (72, [.ref 0, .int i, .int kind], [], M, J)) (fl_sw h5 rfl) <|
      fl_td (s' := (77, [.ref 0, .int i, .int kind], [.int i, .ref 15], M, J)) (fl_n 3 rfl) <|
      fl_td (s' := (80, [.ref 0, .int i, .int kind], [.int (lr_38_4 i 0 15 M)], M, J)) (fl_cv (o := some (.int (lr_38_4 i 0 15 M))) rfl rfl rfl rfl (cc_38 M J i 15) rfl) <|
      fx_gen (p := fun (II56 : Int32) => fl_dn fB36 (80, [.ref 0, .int i, .int kind], [.int II56], M, J) (some (.int (v_36 i kind M)), (m_36 i kind M), J)) (lr_38_4 i 0 15 M) (fun II56 eII56 =>
       fl_rt rfl (fun _ => rfl) (by subst eII56; unfold v_36 m_36; first | (simp only [if_neg h1, if_pos h2, if_pos h3, if_pos h4, if_pos h5]; done) | rfl))) (fun h5 =>
      fl_dc (c := kind = 2) (fun h6 =>
       fl_td (s' := (81, [.ref 0, .int i, .int kind], [], M, J)) (fl_sw h6 rfl) <|
       fl_td (s' := (85, [.ref 0, .int i, .int kind], [.ref 15], M, J)) (fl_n 2 rfl) <|
       fl_td (s' := (88, [.ref 0, .int i, .int kind], [.int (lr_39_4 0 15 M)], M, J)) (fl_cv (o := some (.int (lr_39_4 0 15 M))) rfl rfl rfl rfl (cc_39 M J 15) rfl) <|
       fx_gen (p := fun (II57 : Int32) => fl_dn fB36 (88, [.ref 0, .int i, .int kind], [.int II57], M, J) (some (.int (v_36 i kind M)), (m_36 i kind M), J)) (lr_39_4 0 15 M) (fun II57 eII57 =>
        fl_rt rfl (fun _ => rfl) (by subst eII57; unfold v_36 m_36; first | (simp only [if_neg h1, if_pos h2, if_pos h3, if_pos h4, if_neg h5, if_pos h6]; done) | rfl))) (fun h6 =>
       fl_dc (c := kind = 3) (fun h7 =>
        fl_td (s' := (89, [.ref 0, .int i, .int kind], [], M, J)) (fl_sw h7 rfl) <|
        fl_td (s' := (94, [.ref 0, .int i, .int kind], [.int i, .ref 15], M, J)) (fl_n 3 rfl) <|
        fl_td (s' := (97, [.ref 0, .int i, .int kind], [.int (v_40 i 15 M)], M, J)) (fl_cv (o := some (.int (v_40 i 15 M))) rfl rfl rfl rfl (cc_40 M J i 15) rfl) <|
        fl_rt rfl (fun _ => rfl) (by unfold v_36 m_36; first | (simp only [if_neg h1, if_pos h2, if_pos h3, if_pos h4, if_neg h5, if_neg h6, if_pos h7]; done) | rfl)) (fun h7 =>
        fl_dc (c := kind = 4) (fun h8 =>
         fl_td (s' := (98, [.ref 0, .int i, .int kind], [], M, J)) (fl_sw h8 rfl) <|
         fl_td (s' := (108, [.ref 0, .int i, .int kind], [.int (M 21 i.toNatClampNeg), .int 0], M, J)) (fl_n 6 rfl) <|
         fl_td (s' := (111, [.ref 0, .int i, .int kind], [.int (v_35 0 (M 21 i.toNatClampNeg))], M, J)) (fl_cs (o := some (.int (v_35 0 (M 21 i.toNatClampNeg)))) rfl rfl rfl (cc_35 M J 0 (M 21 i.toNatClampNeg)) rfl) <|
         fl_td (s' := (129, [.ref 0, .int i, .int kind], [.int (M 21 i.toNatClampNeg), .int (M 20 i.toNatClampNeg), .int (v_35 0 (M 21 i.toNatClampNeg))], M, J)) (fl_n 10 rfl) <|
         fl_td (s' := (132, [.ref 0, .int i, .int kind], [.int (v_35 (M 20 i.toNatClampNeg) (M 21 i.toNatClampNeg)), .int (v_35 0 (M 21 i.toNatClampNeg))], M, J)) (fl_cs (o := some (.int (v_35 (M 20 i.toNatClampNeg) (M 21 i.toNatClampNeg)))) rfl rfl rfl (cc_35 M J (M 20 i.toNatClampNeg) (M 21 i.toNatClampNeg)) rfl) <|
         fl_td (s' := (133, [.ref 0, .int i, .int kind], [.int ((v_35 0 (M 21 i.toNatClampNeg)) - (v_35 (M 20 i.toNatClampNeg) (M 21 i.toNatClampNeg)))], M, J)) (fl_n 1 rfl) <|
         fl_rt rfl (fun _ => rfl) (by unfold v_36 m_36; first | (simp only [if_neg h1, if_pos h2, if_pos h3, if_pos h4, if_neg h5, if_neg h6, if_neg h7, if_pos h8]; done) | rfl)) (fun h8 =>
         fl_td (s' := (134, [.ref 0, .int i, .int kind], [], M, J)) (fl_swd rfl rfl (by have e0 := fl_ne 1 rfl h5; have e1 := fl_ne 2 rfl h6; have e2 := fl_ne 3 rfl h7; have e3 := fl_ne 4 rfl h8; omega)) <|
         fl_td (s' := (138, [.ref 0, .int i, .int kind], [.ref 15], M, J)) (fl_n 2 rfl) <|
         fl_td (s' := (141, [.ref 0, .int i, .int kind], [.int (lr_41_4 0 15 M)], M, J)) (fl_cv (o := some (.int (lr_41_4 0 15 M))) rfl rfl rfl rfl (cc_41 M J 15) rfl) <|
         fx_gen (p := fun (II58 : Int32) => fl_dn fB36 (141, [.ref 0, .int i, .int kind], [.int II58], M, J) (some (.int (v_36 i kind M)), (m_36 i kind M), J)) (lr_41_4 0 15 M) (fun II58 eII58 =>
          fl_rt rfl (fun _ => rfl) (by subst eII58; unfold v_36 m_36; first | (simp only [if_neg h1, if_pos h2, if_pos h3, if_pos h4, if_neg h5, if_neg h6, if_neg h7, if_neg h8]; done) | rfl))))))) (fun h4 =>
     fl_td (s' := (38, [.ref 0, .int i, .int kind], [.int 3, .ref 0], M, J)) (fl_n 2 rfl) <|
     fl_td (s' := (41, [.ref 0, .int i, .int kind], [.int (-3)], (fl_u (fl_u M 0 11 3) 80 3 ((M 80 3) + 1)), J)) (fl_cv (o := some (.int (-3))) rfl rfl rfl rfl (cc_2 M J 3) rfl) <|
     fl_rt rfl (fun _ => rfl) (by unfold v_36 m_36; first | (simp only [if_neg h1, if_pos h2, if_pos h3, if_neg h4]; done) | rfl))) (fun h3 =>
    fl_td (s' := (19, [.ref 0, .int i, .int kind], [.int (-1)], M, J)) (fl_n 1 rfl) <|
    fl_rt rfl (fun _ => rfl) (by unfold v_36 m_36; first | (simp only [if_neg h1, if_pos h2, if_neg h3]; done) | rfl))) (fun h2 =>
   fl_td (s' := (19, [.ref 0, .int i, .int kind], [.int (-1)], M, J)) (fl_n 1 rfl) <|
   fl_rt rfl (fun _ => rfl) (by unfold v_36 m_36; first | (simp only [if_neg h1, if_neg h2]; done) | rfl)))
def fB42 : sm_P := (fun pc => sm_ch sm_t42 pc, sm_Kn 2 1 none, fun x => sm_lk sm_ca2 x, some .int)
def v_42 (M : fl_M) : Int32 := (if (M 15 1) = 0 then (-4) else (if (M 42 0) < 40 then v_45 0 0 0 15 (m_44 0 0 0 42 M) else (-2)))
def m_42 (M : fl_M) : fl_M := (if (M 15 1) = 0 then M else (if (M 42 0) < 40 then (m_45 0 0 0 15 (m_44 0 0 0 42 M)) else M))
theorem cc_42 (M : fl_M) (J : fl_J) : fl_C 42 [.ref 0] M J (some (.int (v_42 M)), (m_42 M), J) :=
 fl_Co (B := fB42) rfl rfl <|
 fl_td (s' := (7, [.ref 0], [.int (M 15 1)], M, J)) (fl_n 3 rfl) <|
 fl_dnot (fl_if (t := 13) rfl rfl) fl_cF (fun h1 =>
  fl_td (s' := (12, [.ref 0], [.int (-4)], M, J)) (fl_n 1 rfl) <|
  fl_rt rfl (fun _ => rfl) (by unfold v_42 m_42; first | (simp only [if_pos h1]; done) | rfl)) (fun h1 =>
  fl_td (s' := (22, [.ref 0], [.int 40, .int (M 42 0)], M, J)) (fl_n 4 rfl) <|
  fl_dtwo (fl_ic (t := 28) rfl rfl) fl_cT (fun h2 =>
   fl_td (s' := (32, [.ref 0], [.int 0, .int 0, .int 0, .ref 0], M, J)) (fl_n 4 rfl) <|
   fl_td (s' := (35, [.ref 0], [.int (v_45 0 0 0 15 (m_44 0 0 0 42 M))], (m_45 0 0 0 15 (m_44 0 0 0 42 M)), J)) (fl_cv (o := some (.int (v_45 0 0 0 15 (m_44 0 0 0 42 M)))) rfl rfl rfl rfl (cc_43 M J 0 0 0) rfl) <|
   fx_gen (p := fun (MM59 : fl_M) => fl_dn fB42 (35, [.ref 0], [.int (v_45 0 0 0 15 (m_44 0 0 0 42 M))], MM59, J) (some (.int (v_42 M)), (m_42 M), J)) (m_45 0 0 0 15 (m_44 0 0 0 42 M)) (fun MM59 eMM59 =>
    fl_rt rfl (fun _ => rfl) (by subst eMM59; unfold v_42 m_42; first | (simp only [if_neg h1, if_pos h2]; done) | rfl))) (fun h2 =>
   fl_td (s' := (27, [.ref 0], [.int (-2)], M, J)) (fl_n 1 rfl) <|
   fl_rt rfl (fun _ => rfl) (by unfold v_42 m_42; first | (simp only [if_neg h1, if_neg h2]; done) | rfl)))
def fB47 : sm_P := (fun pc => sm_ch sm_t47 pc, sm_Kn 2 3 none, fun x => sm_lk sm_ca2 x, some .int)
def v_47 (l n : Int32) (M : fl_M) : Int32 := (if (l < 0) ∨ (¬ (l < (M 15 0))) then (-1) else (if n < 1 then (-1) else (if 9 < n then (-1) else (if 20 < ((M 19 l.toNatClampNeg) + n) then (-4) else (if (M 42 0) < 40 then v_45 1 l n 15 (m_44 1 l n 42 M) else (-2))))))
def m_47 (l n : Int32) (M : fl_M) : fl_M := (if (l < 0) ∨ (¬ (l < (M 15 0))) then M else (if n < 1 then M else (if 9 < n then M else (if 20 < ((M 19 l.toNatClampNeg) + n) then M else (if (M 42 0) < 40 then (m_45 1 l n 15 (m_44 1 l n 42 M)) else M)))))
theorem cc_47 (M : fl_M) (J : fl_J) (l n : Int32) : fl_C 47 [.ref 0, .int l, .int n] M J (some (.int (v_47 l n M)), (m_47 l n M), J) :=
 fl_Co (B := fB47) rfl rfl <|
 fl_td (s' := (2, [.ref 0, .int l, .int n], [.int l, .ref 0], M, J)) (fl_n 2 rfl) <|
 fl_td (s' := (5, [.ref 0, .int l, .int n], [.int (if (l < 0) ∨ (¬ (l < (M 15 0))) then 1 else 0)], M, J)) (fl_cv (o := some (.int (if (l < 0) ∨ (¬ (l < (M 15 0))) then 1 else 0))) rfl rfl rfl rfl (cc_25 M J l) rfl) <|
 fl_dtwo (fl_if (t := 19) rfl rfl) fl_b1 (fun h1 =>
  fl_td (s' := (20, [.ref 0, .int l, .int n], [.int (-1)], M, J)) (fl_n 1 rfl) <|
  fl_rt rfl (fun _ => rfl) (by unfold v_47 m_47; first | (simp only [if_pos h1]; done) | rfl)) (fun h1 =>
  fl_td (s' := (10, [.ref 0, .int l, .int n], [.int 1, .int n], M, J)) (fl_n 2 rfl) <|
  fl_dtwo (fl_ic (t := 19) rfl rfl) fl_cT (fun h2 =>
   fl_td (s' := (20, [.ref 0, .int l, .int n], [.int (-1)], M, J)) (fl_n 1 rfl) <|
   fl_rt rfl (fun _ => rfl) (by unfold v_47 m_47; first | (simp only [if_neg h1, if_pos h2]; done) | rfl)) (fun h2 =>
   fl_td (s' := (16, [.ref 0, .int l, .int n], [.int 9, .int n], M, J)) (fl_n 2 rfl) <|
   fl_dnot (fl_ic (t := 21) rfl rfl) fl_nle (fun h3 =>
    fl_td (s' := (20, [.ref 0, .int l, .int n], [.int (-1)], M, J)) (fl_n 1 rfl) <|
    fl_rt rfl (fun _ => rfl) (by unfold v_47 m_47; first | (simp only [if_neg h1, if_neg h2, if_pos h3]; done) | rfl)) (fun h3 =>
    fl_td (s' := (34, [.ref 0, .int l, .int n], [.int 20, .int ((M 19 l.toNatClampNeg) + n)], M, J)) (fl_n 8 rfl) <|
    fl_dnot (fl_ic (t := 40) rfl rfl) fl_nle (fun h4 =>
     fl_td (s' := (39, [.ref 0, .int l, .int n], [.int (-4)], M, J)) (fl_n 1 rfl) <|
     fl_rt rfl (fun _ => rfl) (by unfold v_47 m_47; first | (simp only [if_neg h1, if_neg h2, if_neg h3, if_pos h4]; done) | rfl)) (fun h4 =>
     fl_td (s' := (49, [.ref 0, .int l, .int n], [.int 40, .int (M 42 0)], M, J)) (fl_n 4 rfl) <|
     fl_dtwo (fl_ic (t := 55) rfl rfl) fl_cT (fun h5 =>
      fl_td (s' := (59, [.ref 0, .int l, .int n], [.int n, .int l, .int 1, .ref 0], M, J)) (fl_n 4 rfl) <|
      fl_td (s' := (62, [.ref 0, .int l, .int n], [.int (v_45 1 l n 15 (m_44 1 l n 42 M))], (m_45 1 l n 15 (m_44 1 l n 42 M)), J)) (fl_cv (o := some (.int (v_45 1 l n 15 (m_44 1 l n 42 M)))) rfl rfl rfl rfl (cc_43 M J 1 l n) rfl) <|
      fx_gen (p := fun (MM60 : fl_M) => fl_dn fB47 (62, [.ref 0, .int l, .int n], [.int (v_45 1 l n 15 (m_44 1 l n 42 M))], MM60, J) (some (.int (v_47 l n M)), (m_47 l n M), J)) (m_45 1 l n 15 (m_44 1 l n 42 M)) (fun MM60 eMM60 =>
       fl_rt rfl (fun _ => rfl) (by subst eMM60; unfold v_47 m_47; first | (simp only [if_neg h1, if_neg h2, if_neg h3, if_neg h4, if_pos h5]; done) | rfl))) (fun h5 =>
      fl_td (s' := (54, [.ref 0, .int l, .int n], [.int (-2)], M, J)) (fl_n 1 rfl) <|
      fl_rt rfl (fun _ => rfl) (by unfold v_47 m_47; first | (simp only [if_neg h1, if_neg h2, if_neg h3, if_neg h4, if_neg h5]; done) | rfl))))))
def fB48 : sm_P := (fun pc => sm_ch sm_t48 pc, sm_Kn 2 2 none, fun x => sm_lk sm_ca2 x, some .int)
def v_48 (l : Int32) (M : fl_M) : Int32 := (if l = (-9) then (if (M 15 1) = 0 then (-4) else (if (M 15 3) = l then (-4) else (if (M 42 0) < 40 then v_45 2 l 0 15 (m_44 2 l 0 42 M) else (-2)))) else (if (l < 0) ∨ (¬ (l < (M 15 0))) then (-1) else (if (M 15 1) = 0 then (-4) else (if (M 15 3) = l then (-4) else (if (M 42 0) < 40 then v_45 2 l 0 15 (m_44 2 l 0 42 M) else (-2))))))
def m_48 (l : Int32) (M : fl_M) : fl_M := (if l = (-9) then (if (M 15 1) = 0 then M else (if (M 15 3) = l then M else (if (M 42 0) < 40 then (m_45 2 l 0 15 (m_44 2 l 0 42 M)) else M))) else (if (l < 0) ∨ (¬ (l < (M 15 0))) then M else (if (M 15 1) = 0 then M else (if (M 15 3) = l then M else (if (M 42 0) < 40 then (m_45 2 l 0 15 (m_44 2 l 0 42 M)) else M)))))
theorem cc_48 (M : fl_M) (J : fl_J) (l : Int32) : fl_C 48 [.ref 0, .int l] M J (some (.int (v_48 l M)), (m_48 l M), J) :=
 fl_Co (B := fB48) rfl rfl <|
 fl_td (s' := (3, [.ref 0, .int l], [.int (-9), .int l], M, J)) (fl_n 2 rfl) <|
 fl_dtwo (fl_ic (t := 16) rfl rfl) fl_cT (fun h1 =>
  fl_td (s' := (23, [.ref 0, .int l], [.int (M 15 1)], M, J)) (fl_n 3 rfl) <|
  fl_dtwo (fl_if (t := 37) rfl rfl) fl_cT (fun h2 =>
   fl_td (s' := (39, [.ref 0, .int l], [.int (-4)], M, J)) (fl_n 1 rfl) <|
   fl_rt rfl (fun _ => rfl) (by unfold v_48 m_48; first | (simp only [if_pos h1, if_pos h2]; done) | rfl)) (fun h2 =>
   fl_td (s' := (34, [.ref 0, .int l], [.int l, .int (M 15 3)], M, J)) (fl_n 4 rfl) <|
   fl_dnot (fl_ic (t := 40) rfl rfl) fl_cF (fun h3 =>
    fl_td (s' := (39, [.ref 0, .int l], [.int (-4)], M, J)) (fl_n 1 rfl) <|
    fl_rt rfl (fun _ => rfl) (by unfold v_48 m_48; first | (simp only [if_pos h1, if_neg h2, if_pos h3]; done) | rfl)) (fun h3 =>
    fl_td (s' := (49, [.ref 0, .int l], [.int 40, .int (M 42 0)], M, J)) (fl_n 4 rfl) <|
    fl_dtwo (fl_ic (t := 55) rfl rfl) fl_cT (fun h4 =>
     fl_td (s' := (59, [.ref 0, .int l], [.int 0, .int l, .int 2, .ref 0], M, J)) (fl_n 4 rfl) <|
     fl_td (s' := (62, [.ref 0, .int l], [.int (v_45 2 l 0 15 (m_44 2 l 0 42 M))], (m_45 2 l 0 15 (m_44 2 l 0 42 M)), J)) (fl_cv (o := some (.int (v_45 2 l 0 15 (m_44 2 l 0 42 M)))) rfl rfl rfl rfl (cc_43 M J 2 l 0) rfl) <|
     fx_gen (p := fun (MM61 : fl_M) => fl_dn fB48 (62, [.ref 0, .int l], [.int (v_45 2 l 0 15 (m_44 2 l 0 42 M))], MM61, J) (some (.int (v_48 l M)), (m_48 l M), J)) (m_45 2 l 0 15 (m_44 2 l 0 42 M)) (fun MM61 eMM61 =>
      fl_rt rfl (fun _ => rfl) (by subst eMM61; unfold v_48 m_48; first | (simp only [if_pos h1, if_neg h2, if_neg h3, if_pos h4]; done) | rfl))) (fun h4 =>
     fl_td (s' := (54, [.ref 0, .int l], [.int (-2)], M, J)) (fl_n 1 rfl) <|
     fl_rt rfl (fun _ => rfl) (by unfold v_48 m_48; first | (simp only [if_pos h1, if_neg h2, if_neg h3, if_neg h4]; done) | rfl))))) (fun h1 =>
  fl_td (s' := (8, [.ref 0, .int l], [.int l, .ref 0], M, J)) (fl_n 2 rfl) <|
  fl_td (s' := (11, [.ref 0, .int l], [.int (if (l < 0) ∨ (¬ (l < (M 15 0))) then 1 else 0)], M, J)) (fl_cv (o := some (.int (if (l < 0) ∨ (¬ (l < (M 15 0))) then 1 else 0))) rfl rfl rfl rfl (cc_25 M J l) rfl) <|
  fl_dnot (fl_if (t := 16) rfl rfl) fl_b0 (fun h6 =>
   fl_td (s' := (15, [.ref 0, .int l], [.int (-1)], M, J)) (fl_n 1 rfl) <|
   fl_rt rfl (fun _ => rfl) (by unfold v_48 m_48; first | (simp only [if_neg h1, if_pos h6]; done) | rfl)) (fun h6 =>
   fl_td (s' := (23, [.ref 0, .int l], [.int (M 15 1)], M, J)) (fl_n 3 rfl) <|
   fl_dtwo (fl_if (t := 37) rfl rfl) fl_cT (fun h7 =>
    fl_td (s' := (39, [.ref 0, .int l], [.int (-4)], M, J)) (fl_n 1 rfl) <|
    fl_rt rfl (fun _ => rfl) (by unfold v_48 m_48; first | (simp only [if_neg h1, if_neg h6, if_pos h7]; done) | rfl)) (fun h7 =>
    fl_td (s' := (34, [.ref 0, .int l], [.int l, .int (M 15 3)], M, J)) (fl_n 4 rfl) <|
    fl_dnot (fl_ic (t := 40) rfl rfl) fl_cF (fun h8 =>
     fl_td (s' := (39, [.ref 0, .int l], [.int (-4)], M, J)) (fl_n 1 rfl) <|
     fl_rt rfl (fun _ => rfl) (by unfold v_48 m_48; first | (simp only [if_neg h1, if_neg h6, if_neg h7, if_pos h8]; done) | rfl)) (fun h8 =>
     fl_td (s' := (49, [.ref 0, .int l], [.int 40, .int (M 42 0)], M, J)) (fl_n 4 rfl) <|
     fl_dtwo (fl_ic (t := 55) rfl rfl) fl_cT (fun h9 =>
      fl_td (s' := (59, [.ref 0, .int l], [.int 0, .int l, .int 2, .ref 0], M, J)) (fl_n 4 rfl) <|
      fl_td (s' := (62, [.ref 0, .int l], [.int (v_45 2 l 0 15 (m_44 2 l 0 42 M))], (m_45 2 l 0 15 (m_44 2 l 0 42 M)), J)) (fl_cv (o := some (.int (v_45 2 l 0 15 (m_44 2 l 0 42 M)))) rfl rfl rfl rfl (cc_43 M J 2 l 0) rfl) <|
      fx_gen (p := fun (MM62 : fl_M) => fl_dn fB48 (62, [.ref 0, .int l], [.int (v_45 2 l 0 15 (m_44 2 l 0 42 M))], MM62, J) (some (.int (v_48 l M)), (m_48 l M), J)) (m_45 2 l 0 15 (m_44 2 l 0 42 M)) (fun MM62 eMM62 =>
       fl_rt rfl (fun _ => rfl) (by subst eMM62; unfold v_48 m_48; first | (simp only [if_neg h1, if_neg h6, if_neg h7, if_neg h8, if_pos h9]; done) | rfl))) (fun h9 =>
      fl_td (s' := (54, [.ref 0, .int l], [.int (-2)], M, J)) (fl_n 1 rfl) <|
      fl_rt rfl (fun _ => rfl) (by unfold v_48 m_48; first | (simp only [if_neg h1, if_neg h6, if_neg h7, if_neg h8, if_neg h9]; done) | rfl))))))
def fB49 : sm_P := (fun pc => sm_ch sm_t49 pc, sm_Kn 2 2 none, fun x => sm_lk sm_ca2 x, some .int)
def v_49 (l : Int32) (M : fl_M) : Int32 := (if (l < 0) ∨ (¬ (l < (M 15 0))) then (-1) else (if (M 42 0) < 40 then v_45 3 l 0 15 (m_44 3 l 0 42 M) else (-2)))
def m_49 (l : Int32) (M : fl_M) : fl_M := (if (l < 0) ∨ (¬ (l < (M 15 0))) then M else (if (M 42 0) < 40 then (m_45 3 l 0 15 (m_44 3 l 0 42 M)) else M))
theorem cc_49 (M : fl_M) (J : fl_J) (l : Int32) : fl_C 49 [.ref 0, .int l] M J (some (.int (v_49 l M)), (m_49 l M), J) :=
 fl_Co (B := fB49) rfl rfl <|
 fl_td (s' := (2, [.ref 0, .int l], [.int l, .ref 0], M, J)) (fl_n 2 rfl) <|
 fl_td (s' := (5, [.ref 0, .int l], [.int (if (l < 0) ∨ (¬ (l < (M 15 0))) then 1 else 0)], M, J)) (fl_cv (o := some (.int (if (l < 0) ∨ (¬ (l < (M 15 0))) then 1 else 0))) rfl rfl rfl rfl (cc_25 M J l) rfl) <|
 fl_dnot (fl_if (t := 10) rfl rfl) fl_b0 (fun h1 =>
  fl_td (s' := (9, [.ref 0, .int l], [.int (-1)], M, J)) (fl_n 1 rfl) <|
  fl_rt rfl (fun _ => rfl) (by unfold v_49 m_49; first | (simp only [if_pos h1]; done) | rfl)) (fun h1 =>
  fl_td (s' := (19, [.ref 0, .int l], [.int 40, .int (M 42 0)], M, J)) (fl_n 4 rfl) <|
  fl_dtwo (fl_ic (t := 25) rfl rfl) fl_cT (fun h2 =>
   fl_td (s' := (29, [.ref 0, .int l], [.int 0, .int l, .int 3, .ref 0], M, J)) (fl_n 4 rfl) <|
   fl_td (s' := (32, [.ref 0, .int l], [.int (v_45 3 l 0 15 (m_44 3 l 0 42 M))], (m_45 3 l 0 15 (m_44 3 l 0 42 M)), J)) (fl_cv (o := some (.int (v_45 3 l 0 15 (m_44 3 l 0 42 M)))) rfl rfl rfl rfl (cc_43 M J 3 l 0) rfl) <|
   fx_gen (p := fun (MM63 : fl_M) => fl_dn fB49 (32, [.ref 0, .int l], [.int (v_45 3 l 0 15 (m_44 3 l 0 42 M))], MM63, J) (some (.int (v_49 l M)), (m_49 l M), J)) (m_45 3 l 0 15 (m_44 3 l 0 42 M)) (fun MM63 eMM63 =>
    fl_rt rfl (fun _ => rfl) (by subst eMM63; unfold v_49 m_49; first | (simp only [if_neg h1, if_pos h2]; done) | rfl))) (fun h2 =>
   fl_td (s' := (24, [.ref 0, .int l], [.int (-2)], M, J)) (fl_n 1 rfl) <|
   fl_rt rfl (fun _ => rfl) (by unfold v_49 m_49; first | (simp only [if_neg h1, if_neg h2]; done) | rfl)))
def fB50 : sm_P := (fun pc => sm_ch sm_t50 pc, sm_Kn 2 3 none, fun x => sm_lk sm_ca2 x, some .int)
def v_50 (n : Int32) (M : fl_M) : Int32 := (if n < 0 then (-1) else (if n < (M 42 0) then (M 42 0) - n else (-1)))
def m_50 (n : Int32) (M : fl_M) : fl_M := (if n < 0 then M else (if n < (M 42 0) then (lr_51_9 (lr_22_53 15 (lr_22_18 15 (fl_u (fl_u (fl_u (fl_u M 42 0 n) 15 2 0) 15 3 (-9)) 15 4 0)))) else M))
theorem cc_50 (M : fl_M) (J : fl_J) (n : Int32) : fl_C 50 [.ref 0, .int n] M J (some (.int (v_50 n M)), (m_50 n M), J) :=
 fl_Co (B := fB50) rfl rfl <|
 fl_td (s' := (1, [.ref 0, .int n, .null], [.int n], M, J)) (fl_n 1 rfl) <|
 fl_dtwo (fl_if (t := 15) rfl rfl) fl_cT (fun h1 =>
  fl_td (s' := (16, [.ref 0, .int n, .null], [.int (-1)], M, J)) (fl_n 1 rfl) <|
  fl_rt rfl (fun _ => rfl) (by unfold v_50 m_50; first | (simp only [if_pos h1]; done) | rfl)) (fun h1 =>
  fl_td (s' := (12, [.ref 0, .int n, .null], [.int (M 42 0), .int n], M, J)) (fl_n 4 rfl) <|
  fl_dtwo (fl_ic (t := 17) rfl rfl) fl_cT (fun h2 =>
   fl_td (s' := (36, [.ref 0, .int n, .int ((M 42 0) - n)], [.ref 0], (fl_u M 42 0 n), J)) (fl_n 11 rfl) <|
   fl_td (s' := (39, [.ref 0, .int n, .int ((M 42 0) - n)], [], (lr_51_9 (lr_22_53 15 (lr_22_18 15 (fl_u (fl_u (fl_u (fl_u M 42 0 n) 15 2 0) 15 3 (-9)) 15 4 0)))), J)) (fl_cv (o := none) rfl rfl rfl rfl (cc_51 (fl_u M 42 0 n) J) rfl) <|
   fx_gen (p := fun (MM64 : fl_M) => fl_dn fB50 (39, [.ref 0, .int n, .int ((M 42 0) - n)], [], MM64, J) (some (.int (v_50 n M)), (m_50 n M), J)) (lr_51_9 (lr_22_53 15 (lr_22_18 15 (fl_u (fl_u (fl_u (fl_u M 42 0 n) 15 2 0) 15 3 (-9)) 15 4 0)))) (fun MM64 eMM64 =>
    fl_td (s' := (40, [.ref 0, .int n, .int ((M 42 0) - n)], [.int ((M 42 0) - n)], MM64, J)) (fl_n 1 rfl) <|
    fl_rt rfl (fun _ => rfl) (by subst eMM64; unfold v_50 m_50; first | (simp only [if_neg h1, if_pos h2]; done) | rfl))) (fun h2 =>
   fl_td (s' := (16, [.ref 0, .int n, .null], [.int (-1)], M, J)) (fl_n 1 rfl) <|
   fl_rt rfl (fun _ => rfl) (by unfold v_50 m_50; first | (simp only [if_neg h1, if_neg h2]; done) | rfl)))
def fB52 : sm_P := (fun pc => sm_ch sm_t52 pc, sm_Kn 2 2 none, fun x => sm_lk sm_ca2 x, some .int)
def v_52 (k : Int32) (M : fl_M) : Int32 := (if (k < 0) ∨ (¬ (k < 3)) then (-1) else (if (M 15 1) = 0 then (-4) else (lr_54_10 (fl_ar 46 k.toNatClampNeg) 42 (fl_u M (fl_ar 46 k.toNatClampNeg) 0 (M 42 0))) 42 0))
def m_52 (k : Int32) (M : fl_M) : fl_M := (if (k < 0) ∨ (¬ (k < 3)) then M else (if (M 15 1) = 0 then M else (lr_54_10 (fl_ar 46 k.toNatClampNeg) 42 (fl_u M (fl_ar 46 k.toNatClampNeg) 0 (M 42 0)))))
theorem cc_52 (M : fl_M) (J : fl_J) (k : Int32) : fl_C 52 [.ref 0, .int k] M J (some (.int (v_52 k M)), (m_52 k M), J) :=
 fl_Co (B := fB52) rfl rfl <|
 fl_td (s' := (1, [.ref 0, .int k], [.int k], M, J)) (fl_n 1 rfl) <|
 fl_td (s' := (4, [.ref 0, .int k], [.int (if (k < 0) ∨ (¬ (k < 3)) then 1 else 0)], M, J)) (fl_cs (o := some (.int (if (k < 0) ∨ (¬ (k < 3)) then 1 else 0))) rfl rfl rfl (cc_53 M J k) rfl) <|
 fl_dnot (fl_if (t := 9) rfl rfl) fl_b0 (fun h1 =>
  fl_td (s' := (8, [.ref 0, .int k], [.int (-1)], M, J)) (fl_n 1 rfl) <|
  fl_rt rfl (fun _ => rfl) (by unfold v_52 m_52; first | (simp only [if_pos h1]; done) | rfl)) (fun h1 =>
  fl_td (s' := (16, [.ref 0, .int k], [.int (M 15 1)], M, J)) (fl_n 3 rfl) <|
  fl_dnot (fl_if (t := 22) rfl rfl) fl_cF (fun h2 =>
   fl_td (s' := (21, [.ref 0, .int k], [.int (-4)], M, J)) (fl_n 1 rfl) <|
   fl_rt rfl (fun _ => rfl) (by unfold v_52 m_52; first | (simp only [if_neg h1, if_pos h2]; done) | rfl)) (fun h2 =>
   fl_td (s' := (32, [.ref 0, .int k], [.ref 42, .ref (fl_ar 46 k.toNatClampNeg)], M, J)) (fl_n 6 rfl) <|
   fl_td (s' := (35, [.ref 0, .int k], [], (lr_54_10 (fl_ar 46 k.toNatClampNeg) 42 (fl_u M (fl_ar 46 k.toNatClampNeg) 0 (M 42 0))), J)) (fl_cv (o := none) rfl rfl rfl rfl (cc_54 M J (fl_ar 46 k.toNatClampNeg) 42) rfl) <|
   fx_gen (p := fun (MM65 : fl_M) => fl_dn fB52 (35, [.ref 0, .int k], [], MM65, J) (some (.int (v_52 k M)), (m_52 k M), J)) (lr_54_10 (fl_ar 46 k.toNatClampNeg) 42 (fl_u M (fl_ar 46 k.toNatClampNeg) 0 (M 42 0))) (fun MM65 eMM65 =>
    fl_td (s' := (42, [.ref 0, .int k], [.int (MM65 42 0)], MM65, J)) (fl_n 3 rfl) <|
    fl_rt rfl (fun _ => rfl) (by subst eMM65; unfold v_52 m_52; first | (simp only [if_neg h1, if_neg h2]; done) | rfl))))
def fB55 : sm_P := (fun pc => sm_ch sm_t55 pc, sm_Kn 2 2 none, fun x => sm_lk sm_ca2 x, some .int)
def v_55 (k : Int32) (M : fl_M) : Int32 := (if (k < 0) ∨ (¬ (k < 3)) then (-1) else (if (M (fl_ar 46 k.toNatClampNeg) 0) = (-1) then (-3) else (lr_51_9 (lr_22_53 15 (lr_22_18 15 (fl_u (fl_u (fl_u (lr_54_10 42 (fl_ar 46 k.toNatClampNeg) (fl_u M 42 0 (M (fl_ar 46 k.toNatClampNeg) 0))) 15 2 0) 15 3 (-9)) 15 4 0)))) 42 0))
def m_55 (k : Int32) (M : fl_M) : fl_M := (if (k < 0) ∨ (¬ (k < 3)) then M else (if (M (fl_ar 46 k.toNatClampNeg) 0) = (-1) then (fl_u (fl_u M 0 11 1) 80 1 ((M 80 1) + 1)) else (lr_51_9 (lr_22_53 15 (lr_22_18 15 (fl_u (fl_u (fl_u (lr_54_10 42 (fl_ar 46 k.toNatClampNeg) (fl_u M 42 0 (M (fl_ar 46 k.toNatClampNeg) 0))) 15 2 0) 15 3 (-9)) 15 4 0))))))
theorem cc_55 (M : fl_M) (J : fl_J) (k : Int32) : fl_C 55 [.ref 0, .int k] M J (some (.int (v_55 k M)), (m_55 k M), J) :=
 fl_Co (B := fB55) rfl rfl <|
 fl_td (s' := (1, [.ref 0, .int k], [.int k], M, J)) (fl_n 1 rfl) <|
 fl_td (s' := (4, [.ref 0, .int k], [.int (if (k < 0) ∨ (¬ (k < 3)) then 1 else 0)], M, J)) (fl_cs (o := some (.int (if (k < 0) ∨ (¬ (k < 3)) then 1 else 0))) rfl rfl rfl (cc_53 M J k) rfl) <|
 fl_dnot (fl_if (t := 9) rfl rfl) fl_b0 (fun h1 =>
  fl_td (s' := (8, [.ref 0, .int k], [.int (-1)], M, J)) (fl_n 1 rfl) <|
  fl_rt rfl (fun _ => rfl) (by unfold v_55 m_55; first | (simp only [if_pos h1]; done) | rfl)) (fun h1 =>
  fl_td (s' := (19, [.ref 0, .int k], [.int (-1), .int (M (fl_ar 46 k.toNatClampNeg) 0)], M, J)) (fl_n 6 rfl) <|
  fl_dnot (fl_ic (t := 28) rfl rfl) fl_cF (fun h2 =>
   fl_td (s' := (24, [.ref 0, .int k], [.int 1, .ref 0], M, J)) (fl_n 2 rfl) <|
   fl_td (s' := (27, [.ref 0, .int k], [.int (-3)], (fl_u (fl_u M 0 11 1) 80 1 ((M 80 1) + 1)), J)) (fl_cv (o := some (.int (-3))) rfl rfl rfl rfl (cc_2 M J 1) rfl) <|
   fl_rt rfl (fun _ => rfl) (by unfold v_55 m_55; first | (simp only [if_neg h1, if_pos h2]; done) | rfl)) (fun h2 =>
   fl_td (s' := (38, [.ref 0, .int k], [.ref (fl_ar 46 k.toNatClampNeg), .ref 42], M, J)) (fl_n 6 rfl) <|
   fl_td (s' := (41, [.ref 0, .int k], [], (lr_54_10 42 (fl_ar 46 k.toNatClampNeg) (fl_u M 42 0 (M (fl_ar 46 k.toNatClampNeg) 0))), J)) (fl_cv (o := none) rfl rfl rfl rfl (cc_54 M J 42 (fl_ar 46 k.toNatClampNeg)) rfl) <|
   fx_gen (p := fun (MM66 : fl_M) => fl_dn fB55 (41, [.ref 0, .int k], [], MM66, J) (some (.int (v_55 k M)), (m_55 k M), J)) (lr_54_10 42 (fl_ar 46 k.toNatClampNeg) (fl_u M 42 0 (M (fl_ar 46 k.toNatClampNeg) 0))) (fun MM66 eMM66 =>
    fl_td (s' := (42, [.ref 0, .int k], [.ref 0], MM66, J)) (fl_n 1 rfl) <|
    fl_td (s' := (45, [.ref 0, .int k], [], (lr_51_9 (lr_22_53 15 (lr_22_18 15 (fl_u (fl_u (fl_u MM66 15 2 0) 15 3 (-9)) 15 4 0)))), J)) (fl_cv (o := none) rfl rfl rfl rfl (cc_51 MM66 J) rfl) <|
    fx_gen (p := fun (MM67 : fl_M) => fl_dn fB55 (45, [.ref 0, .int k], [], MM67, J) (some (.int (v_55 k M)), (m_55 k M), J)) (lr_51_9 (lr_22_53 15 (lr_22_18 15 (fl_u (fl_u (fl_u MM66 15 2 0) 15 3 (-9)) 15 4 0)))) (fun MM67 eMM67 =>
     fl_td (s' := (52, [.ref 0, .int k], [.int (MM67 42 0)], MM67, J)) (fl_n 3 rfl) <|
     fl_rt rfl (fun _ => rfl) (by subst eMM66; subst eMM67; unfold v_55 m_55; first | (simp only [if_neg h1, if_neg h2]; done) | rfl)))))
def fB56 : sm_P := (fun pc => sm_ch sm_t56 pc, sm_Kn 2 5 none, fun x => sm_lk sm_ca2 x, some .int)
def v_56 (i w ch far : Int32) (M : fl_M) : Int32 := (if (i < 0) ∨ (¬ (i < (M 15 1))) then (-1) else (if w < 0 then (-1) else (if 9 < w then (-1) else (if ch < 0 then (-1) else (if 20 < ch then (-1) else (if far < 0 then (-1) else (if 7 < far then (-1) else 1)))))))
def m_56 (i w ch far : Int32) (M : fl_M) : fl_M := (if (i < 0) ∨ (¬ (i < (M 15 1))) then M else (if w < 0 then M else (if 9 < w then M else (if ch < 0 then M else (if 20 < ch then M else (if far < 0 then M else (if 7 < far then M else (fl_u M 0 12 (v_31 (M 20 i.toNatClampNeg) w ch far)))))))))
theorem cc_56 (M : fl_M) (J : fl_J) (i w ch far : Int32) : fl_C 56 [.ref 0, .int i, .int w, .int ch, .int far] M J (some (.int (v_56 i w ch far M)), (m_56 i w ch far M), J) :=
 fl_Co (B := fB56) rfl rfl <|
 fl_td (s' := (2, [.ref 0, .int i, .int w, .int ch, .int far], [.int i, .ref 0], M, J)) (fl_n 2 rfl) <|
 fl_td (s' := (5, [.ref 0, .int i, .int w, .int ch, .int far], [.int (if (i < 0) ∨ (¬ (i < (M 15 1))) then 1 else 0)], M, J)) (fl_cv (o := some (.int (if (i < 0) ∨ (¬ (i < (M 15 1))) then 1 else 0))) rfl rfl rfl rfl (cc_33 M J i) rfl) <|
 fl_dtwo (fl_if (t := 40) rfl rfl) fl_b1 (fun h1 =>
  fl_td (s' := (41, [.ref 0, .int i, .int w, .int ch, .int far], [.int (-1)], M, J)) (fl_n 1 rfl) <|
  fl_rt rfl (fun _ => rfl) (by unfold v_56 m_56; first | (simp only [if_pos h1]; done) | rfl)) (fun h1 =>
  fl_td (s' := (9, [.ref 0, .int i, .int w, .int ch, .int far], [.int w], M, J)) (fl_n 1 rfl) <|
  fl_dtwo (fl_if (t := 40) rfl rfl) fl_cT (fun h2 =>
   fl_td (s' := (41, [.ref 0, .int i, .int w, .int ch, .int far], [.int (-1)], M, J)) (fl_n 1 rfl) <|
   fl_rt rfl (fun _ => rfl) (by unfold v_56 m_56; first | (simp only [if_neg h1, if_pos h2]; done) | rfl)) (fun h2 =>
   fl_td (s' := (15, [.ref 0, .int i, .int w, .int ch, .int far], [.int 9, .int w], M, J)) (fl_n 2 rfl) <|
   fl_dtwo (fl_ic (t := 40) rfl rfl) fl_cT (fun h3 =>
    fl_td (s' := (41, [.ref 0, .int i, .int w, .int ch, .int far], [.int (-1)], M, J)) (fl_n 1 rfl) <|
    fl_rt rfl (fun _ => rfl) (by unfold v_56 m_56; first | (simp only [if_neg h1, if_neg h2, if_pos h3]; done) | rfl)) (fun h3 =>
    fl_td (s' := (19, [.ref 0, .int i, .int w, .int ch, .int far], [.int ch], M, J)) (fl_n 1 rfl) <|
    fl_dtwo (fl_if (t := 40) rfl rfl) fl_cT (fun h4 =>
     fl_td (s' := (41, [.ref 0, .int i, .int w, .int ch, .int far], [.int (-1)], M, J)) (fl_n 1 rfl) <|
     fl_rt rfl (fun _ => rfl) (by unfold v_56 m_56; first | (simp only [if_neg h1, if_neg h2, if_neg h3, if_pos h4]; done) | rfl)) (fun h4 =>
     fl_td (s' := (25, [.ref 0, .int i, .int w, .int ch, .int far], [.int 20, .int ch], M, J)) (fl_n 2 rfl) <|
     fl_dtwo (fl_ic (t := 40) rfl rfl) fl_cT (fun h5 =>
      fl_td (s' := (41, [.ref 0, .int i, .int w, .int ch, .int far], [.int (-1)], M, J)) (fl_n 1 rfl) <|
      fl_rt rfl (fun _ => rfl) (by unfold v_56 m_56; first | (simp only [if_neg h1, if_neg h2, if_neg h3, if_neg h4, if_pos h5]; done) | rfl)) (fun h5 =>
      fl_td (s' := (30, [.ref 0, .int i, .int w, .int ch, .int far], [.int far], M, J)) (fl_n 1 rfl) <|
      fl_dtwo (fl_if (t := 40) rfl rfl) fl_cT (fun h6 =>
       fl_td (s' := (41, [.ref 0, .int i, .int w, .int ch, .int far], [.int (-1)], M, J)) (fl_n 1 rfl) <|
       fl_rt rfl (fun _ => rfl) (by unfold v_56 m_56; first | (simp only [if_neg h1, if_neg h2, if_neg h3, if_neg h4, if_neg h5, if_pos h6]; done) | rfl)) (fun h6 =>
       fl_td (s' := (37, [.ref 0, .int i, .int w, .int ch, .int far], [.int 7, .int far], M, J)) (fl_n 2 rfl) <|
       fl_dnot (fl_ic (t := 42) rfl rfl) fl_nle (fun h7 =>
        fl_td (s' := (41, [.ref 0, .int i, .int w, .int ch, .int far], [.int (-1)], M, J)) (fl_n 1 rfl) <|
        fl_rt rfl (fun _ => rfl) (by unfold v_56 m_56; first | (simp only [if_neg h1, if_neg h2, if_neg h3, if_neg h4, if_neg h5, if_neg h6, if_pos h7]; done) | rfl)) (fun h7 =>
        fl_td (s' := (56, [.ref 0, .int i, .int w, .int ch, .int far], [.int far, .int ch, .int w, .int (M 20 i.toNatClampNeg), .ref 0], M, J)) (fl_n 9 rfl) <|
        fl_td (s' := (59, [.ref 0, .int i, .int w, .int ch, .int far], [.int (v_31 (M 20 i.toNatClampNeg) w ch far), .ref 0], M, J)) (fl_cs (o := some (.int (v_31 (M 20 i.toNatClampNeg) w ch far))) rfl rfl rfl (cc_31 M J (M 20 i.toNatClampNeg) w ch far) rfl) <|
        fl_td (s' := (62, [.ref 0, .int i, .int w, .int ch, .int far], [.int 1], (fl_u M 0 12 (v_31 (M 20 i.toNatClampNeg) w ch far)), J)) (fl_cv (o := some (.int 1)) rfl rfl rfl rfl (cc_5 M J (v_31 (M 20 i.toNatClampNeg) w ch far)) rfl) <|
        fl_rt rfl (fun _ => rfl) (by unfold v_56 m_56; first | (simp only [if_neg h1, if_neg h2, if_neg h3, if_neg h4, if_neg h5, if_neg h6, if_neg h7]; done) | rfl))))))))
