theorem lp_59_2 {r : fl_Q} (i1 : Int32) (r0 : Nat) (M : fl_M) (J : fl_J) (hx : ∀ w2 : Value, fl_dn fB59 (19, [.ref r0, .int i1, w2], [], (lr_59_2 i1 r0 M), J) r) : fl_dn fB59 (2, [.ref r0, .int i1, .int 0], [], M, J) r := by
  have hb := fi_bd i1
  have key : ∀ (n m : Nat), m + n = (i1).toNatClampNeg → fl_dn fB59 (2, [.ref r0, .int i1, .int (Int32.ofNat m)], [], (lq_59_2 r0 M m), J) r := by
    intro n
    induction n with
    | zero =>
      intro m hm
      have hm : m = (i1).toNatClampNeg := by omega
      have hn : ¬ ((Int32.ofNat m) < i1) := fun z => by have z := (fi_lt (by omega)).mp z; omega
      exact ts_59_2 i1 (Int32.ofNat m) r0 (lq_59_2 r0 M m) J (fun h1 => absurd h1 hn) (fun h1 => (by have e : lr_59_2 i1 r0 M = lq_59_2 r0 M m := (by show lq_59_2 r0 M ((i1).toNatClampNeg) = _; rw [← hm]); rw [e] at hx; exact hx _))
    | succ n ih =>
      intro m hm
      have hp : (Int32.ofNat m) < i1 := by exact (fi_lt (by omega)).mpr (by omega)
      refine ts_59_2 i1 (Int32.ofNat m) r0 (lq_59_2 r0 M m) J (fun h1 => ?_) (fun h1 => absurd hp h1)
      · have e : lq_59_2 r0 M (m + 1) = (m_46 0 r0 (lq_59_2 r0 M m)) := by
          rw [lqs_59_2]
          unfold ls_59_2
          rfl
        have q := ih (m + 1) (by omega)
        rw [e] at q
        first | (rw [fi_s]; exact q) | (rw [← fi_s] at q; exact q) | (simp only [fi_s] at q ⊢; exact q)
  exact key ((i1).toNatClampNeg) 0 (Nat.zero_add _)
theorem cc_59 (M : fl_M) (J : fl_J) (n : Int32) (T : Nat) : fl_C 59 [.ref T, .int n] M J (none, (lr_59_2 n T M), J) :=
 fl_Co (B := fB59) rfl rfl <|
 fl_td (s' := (2, [.ref T, .int n, .int 0], [], M, J)) (fl_n 2 rfl) <|
 lp_59_2 n T M J (fun u44 =>
  fx_gen (p := fun (MM45 : fl_M) => fl_dn fB59 (19, [.ref T, .int n, u44], [], MM45, J) (none, (lr_59_2 n T M), J)) (lr_59_2 n T M) (fun MM45 eMM45 =>
   fl_rt rfl (fun _ => rfl) (by subst eMM45; rfl)))
theorem fr_59_2 {n : Int32} {T : Nat} {M : fl_M} {c j : Nat} (hc : c < T ∨ T + 9 ≤ c) : (lr_59_2 n T M) c j = M c j := by
  have g0 : ¬ c = T := by omega
  have g1 : ¬ c = T + 1 := by omega
  have g2 : ¬ c = T + 2 := by omega
  have g3 : ¬ c = T + 3 := by omega
  have g4 : ¬ c = T + 4 := by omega
  have g5 : ¬ c = T + 5 := by omega
  have g6 : ¬ c = T + 6 := by omega
  have g7 : ¬ c = T + 7 := by omega
  have g8 : ¬ c = T + 8 := by omega
  unfold lr_59_2 lq_59_2
  refine it_k (fun q : fl_M => q c j = M c j) rfl (fun m q hq => ?_)
  unfold ls_59_2
  (try repeat' split) <;> first | with_reducible exact hq | (simp [fl_u, g0, g1, g2, g3, g4, g5, g6, g7, g8, fr_46 hc, hq]; done)
def fB44 : sm_P := (fun pc => sm_ch sm_t44 pc, sm_Kn 0 4 none, fun x => sm_lk sm_ca0 x, none)
def m_44 (wh li am : Int32) (D : Nat) (M : fl_M) : fl_M := (if (M D 0) < 0 then M else (if (M D 0) < 40 then (fl_u (fl_u (fl_u (fl_u M (D + 1) ((M D 0).toNatClampNeg) wh) (D + 2) (((fl_u M (D + 1) ((M D 0).toNatClampNeg) wh) D 0).toNatClampNeg) li) (D + 3) (((fl_u (fl_u M (D + 1) ((M D 0).toNatClampNeg) wh) (D + 2) (((fl_u M (D + 1) ((M D 0).toNatClampNeg) wh) D 0).toNatClampNeg) li) D 0).toNatClampNeg) am) D 0 (((fl_u (fl_u (fl_u M (D + 1) ((M D 0).toNatClampNeg) wh) (D + 2) (((fl_u M (D + 1) ((M D 0).toNatClampNeg) wh) D 0).toNatClampNeg) li) (D + 3) (((fl_u (fl_u M (D + 1) ((M D 0).toNatClampNeg) wh) (D + 2) (((fl_u M (D + 1) ((M D 0).toNatClampNeg) wh) D 0).toNatClampNeg) li) D 0).toNatClampNeg) am) D 0) + 1)) else M))
theorem cc_44 (M : fl_M) (J : fl_J) (wh li am : Int32) (D : Nat) : fl_C 44 [.ref D, .int wh, .int li, .int am] M J (none, (m_44 wh li am D M), J) :=
 fl_Co (B := fB44) rfl rfl <|
 fl_td (s' := (4, [.ref D, .int wh, .int li, .int am], [.int (M D 0)], M, J)) (fl_n 2 rfl) <|
 fl_dtwo (fl_if (t := 56) rfl rfl) fl_cT (fun h1 =>
  fl_rt rfl (fun _ => rfl) (by unfold m_44; first | (simp only [if_pos h1]; done) | rfl)) (fun h1 =>
  fl_td (s' := (13, [.ref D, .int wh, .int li, .int am], [.int 40, .int (M D 0)], M, J)) (fl_n 3 rfl) <|
  fl_dnot (fl_ic (t := 56) rfl rfl) fl_nlt (fun h2 =>
   fl_td (s' := (56, [.ref D, .int wh, .int li, .int am], [], (fl_u (fl_u (fl_u (fl_u M (D + 1) ((M D 0).toNatClampNeg) wh) (D + 2) (((fl_u M (D + 1) ((M D 0).toNatClampNeg) wh) D 0).toNatClampNeg) li) (D + 3) (((fl_u (fl_u M (D + 1) ((M D 0).toNatClampNeg) wh) (D + 2) (((fl_u M (D + 1) ((M D 0).toNatClampNeg) wh) D 0).toNatClampNeg) li) D 0).toNatClampNeg) am) D 0 (((fl_u (fl_u (fl_u M (D + 1) ((M D 0).toNatClampNeg) wh) (D + 2) (((fl_u M (D + 1) ((M D 0).toNatClampNeg) wh) D 0).toNatClampNeg) li) (D + 3) (((fl_u (fl_u M (D + 1) ((M D 0).toNatClampNeg) wh) (D + 2) (((fl_u M (D + 1) ((M D 0).toNatClampNeg) wh) D 0).toNatClampNeg) li) D 0).toNatClampNeg) am) D 0) + 1)), J)) (fl_n 24 rfl) <|
   fl_rt rfl (fun _ => rfl) (by unfold m_44; first | (simp only [if_neg h1, if_pos h2]; done) | rfl)) (fun h2 =>
   fl_rt rfl (fun _ => rfl) (by unfold m_44; first | (simp only [if_neg h1, if_neg h2]; done) | rfl)))
theorem fr_44 {wh li am : Int32} {D : Nat} {M : fl_M} {c j : Nat} (hc : c < D ∨ D + 4 ≤ c) : (m_44 wh li am D M) c j = M c j := by
  have g0 : ¬ c = D := by omega
  have g1 : ¬ c = D + 1 := by omega
  have g2 : ¬ c = D + 2 := by omega
  have g3 : ¬ c = D + 3 := by omega
  unfold m_44
  (try repeat' split) <;> first | with_reducible rfl | (simp [fl_u, g0, g1, g2, g3]; done)
def fB54 : sm_P := (fun pc => sm_ch sm_t54 pc, sm_Kn 0 3 none, fun x => sm_lk sm_ca0 x, none)
-- MiceRegisters$Deeds.takeFrom 10
def ls_54_10 (r0 r1 : Nat) (m : Nat) (q : fl_M) : fl_M := (fl_u (fl_u (fl_u q (r0 + 1) (Int32.ofNat m).toNatClampNeg (q (r1 + 1) (Int32.ofNat m).toNatClampNeg)) (r0 + 2) (Int32.ofNat m).toNatClampNeg ((fl_u q (r0 + 1) (Int32.ofNat m).toNatClampNeg (q (r1 + 1) (Int32.ofNat m).toNatClampNeg)) (r1 + 2) (Int32.ofNat m).toNatClampNeg)) (r0 + 3) (Int32.ofNat m).toNatClampNeg ((fl_u (fl_u q (r0 + 1) (Int32.ofNat m).toNatClampNeg (q (r1 + 1) (Int32.ofNat m).toNatClampNeg)) (r0 + 2) (Int32.ofNat m).toNatClampNeg ((fl_u q (r0 + 1) (Int32.ofNat m).toNatClampNeg (q (r1 + 1) (Int32.ofNat m).toNatClampNeg)) (r1 + 2) (Int32.ofNat m).toNatClampNeg)) (r1 + 3) (Int32.ofNat m).toNatClampNeg))
def lq_54_10 (r0 r1 : Nat) (M : fl_M) (m : Nat) : fl_M := fx_it (ls_54_10 r0 r1) m M
theorem lqs_54_10 (r0 r1 : Nat) (M : fl_M) (m : Nat) : lq_54_10 r0 r1 M (m + 1) = (ls_54_10 r0 r1) m (lq_54_10 r0 r1 M m) := by
  unfold lq_54_10
  exact fx_it_s _ _ _
def lr_54_10 (r0 r1 : Nat) (M : fl_M) : fl_M := (lq_54_10 r0 r1 M (((M r0 0)).toNatClampNeg))
theorem ts_54_10 {r : fl_Q} (i2 : Int32) (r0 r1 : Nat) (M : fl_M) (J : fl_J) (q1 : (i2 < (M r0 0)) → fl_dn fB54 (10, [.ref r0, .ref r1, .int (i2 + 1)], [], (fl_u (fl_u (fl_u M (r0 + 1) i2.toNatClampNeg (M (r1 + 1) i2.toNatClampNeg)) (r0 + 2) i2.toNatClampNeg ((fl_u M (r0 + 1) i2.toNatClampNeg (M (r1 + 1) i2.toNatClampNeg)) (r1 + 2) i2.toNatClampNeg)) (r0 + 3) i2.toNatClampNeg ((fl_u (fl_u M (r0 + 1) i2.toNatClampNeg (M (r1 + 1) i2.toNatClampNeg)) (r0 + 2) i2.toNatClampNeg ((fl_u M (r0 + 1) i2.toNatClampNeg (M (r1 + 1) i2.toNatClampNeg)) (r1 + 2) i2.toNatClampNeg)) (r1 + 3) i2.toNatClampNeg)), J) r) (q2 : (¬ (i2 < (M r0 0))) → fl_dn fB54 (60, [.ref r0, .ref r1, .int i2], [], M, J) r) : fl_dn fB54 (10, [.ref r0, .ref r1, .int i2], [], M, J) r :=
 fl_td (s' := (15, [.ref r0, .ref r1, .int i2], [.int (M r0 0), .int i2], M, J)) (fl_n 3 rfl) <|
 fl_dnot (fl_ic (t := 60) rfl rfl) fl_nlt (fun h1 =>
  fl_td (s' := (10, [.ref r0, .ref r1, .int (i2 + 1)], [], (fl_u (fl_u (fl_u M (r0 + 1) i2.toNatClampNeg (M (r1 + 1) i2.toNatClampNeg)) (r0 + 2) i2.toNatClampNeg ((fl_u M (r0 + 1) i2.toNatClampNeg (M (r1 + 1) i2.toNatClampNeg)) (r1 + 2) i2.toNatClampNeg)) (r0 + 3) i2.toNatClampNeg ((fl_u (fl_u M (r0 + 1) i2.toNatClampNeg (M (r1 + 1) i2.toNatClampNeg)) (r0 + 2) i2.toNatClampNeg ((fl_u M (r0 + 1) i2.toNatClampNeg (M (r1 + 1) i2.toNatClampNeg)) (r1 + 2) i2.toNatClampNeg)) (r1 + 3) i2.toNatClampNeg)), J)) (fl_n 26 rfl) <|
  (q1 h1)) (fun h1 =>
  (q2 h1))
theorem lk_54_10 (r0 r1 : Nat) (M : fl_M) (m : Nat) : ((lq_54_10 r0 r1 M m) r0 0) = (M r0 0) := by
  induction m with
  | zero => rfl
  | succ m ih =>
    rw [← ih]
    rw [lqs_54_10]
    generalize lq_54_10 r0 r1 M m = q
    unfold ls_54_10
    (repeat' split) <;> first | with_reducible rfl | (simp [fl_u, fr_22_18, fr_22_53, fr_23_42, fr_23_106, fr_23, fr_46_4, fr_46_100, fr_46, fr_45, fr_59_2, fr_44]; done) | rfl
theorem lp_54_10 {r : fl_Q} (r0 r1 : Nat) (M : fl_M) (J : fl_J) (hx : ∀ w2 : Value, fl_dn fB54 (60, [.ref r0, .ref r1, w2], [], (lr_54_10 r0 r1 M), J) r) : fl_dn fB54 (10, [.ref r0, .ref r1, .int 0], [], M, J) r := by
  have hb := fi_bd (M r0 0)
  have hB := fun m => lk_54_10 r0 r1 M m
  have key : ∀ (n m : Nat), m + n = ((M r0 0)).toNatClampNeg → fl_dn fB54 (10, [.ref r0, .ref r1, .int (Int32.ofNat m)], [], (lq_54_10 r0 r1 M m), J) r := by
    intro n
    induction n with
    | zero =>
      intro m hm
      have hm : m = ((M r0 0)).toNatClampNeg := by omega
      have hn : ¬ ((Int32.ofNat m) < ((lq_54_10 r0 r1 M m) r0 0)) := fun z => by rw [hB m] at z; have z := (fi_lt (by omega)).mp z; omega
      exact ts_54_10 (Int32.ofNat m) r0 r1 (lq_54_10 r0 r1 M m) J (fun h1 => absurd h1 hn) (fun h1 => (by have e : lr_54_10 r0 r1 M = lq_54_10 r0 r1 M m := (by show lq_54_10 r0 r1 M (((M r0 0)).toNatClampNeg) = _; rw [← hm]); rw [e] at hx; exact hx _))
    | succ n ih =>
      intro m hm
      have hp : (Int32.ofNat m) < ((lq_54_10 r0 r1 M m) r0 0) := by rw [hB m]; exact (fi_lt (by omega)).mpr (by omega)
      refine ts_54_10 (Int32.ofNat m) r0 r1 (lq_54_10 r0 r1 M m) J (fun h1 => ?_) (fun h1 => absurd hp h1)
      · have e : lq_54_10 r0 r1 M (m + 1) = (fl_u (fl_u (fl_u (lq_54_10 r0 r1 M m) (r0 + 1) (Int32.ofNat m).toNatClampNeg ((lq_54_10 r0 r1 M m) (r1 + 1) (Int32.ofNat m).toNatClampNeg)) (r0 + 2) (Int32.ofNat m).toNatClampNeg ((fl_u (lq_54_10 r0 r1 M m) (r0 + 1) (Int32.ofNat m).toNatClampNeg ((lq_54_10 r0 r1 M m) (r1 + 1) (Int32.ofNat m).toNatClampNeg)) (r1 + 2) (Int32.ofNat m).toNatClampNeg)) (r0 + 3) (Int32.ofNat m).toNatClampNeg ((fl_u (fl_u (lq_54_10 r0 r1 M m) (r0 + 1) (Int32.ofNat m).toNatClampNeg ((lq_54_10 r0 r1 M m) (r1 + 1) (Int32.ofNat m).toNatClampNeg)) (r0 + 2) (Int32.ofNat m).toNatClampNeg ((fl_u (lq_54_10 r0 r1 M m) (r0 + 1) (Int32.ofNat m).toNatClampNeg ((lq_54_10 r0 r1 M m) (r1 + 1) (Int32.ofNat m).toNatClampNeg)) (r1 + 2) (Int32.ofNat m).toNatClampNeg)) (r1 + 3) (Int32.ofNat m).toNatClampNeg)) := by
          rw [lqs_54_10]
          unfold ls_54_10
          rfl
        have q := ih (m + 1) (by omega)
        rw [e] at q
        first | (rw [fi_s]; exact q) | (rw [← fi_s] at q; exact q) | (simp only [fi_s] at q ⊢; exact q)
  exact key (((M r0 0)).toNatClampNeg) 0 (Nat.zero_add _)
theorem cc_54 (M : fl_M) (J : fl_J) (D E : Nat) : fl_C 54 [.ref D, .ref E] M J (none, (lr_54_10 D E (fl_u M D 0 (M E 0))), J) :=
 fl_Co (B := fB54) rfl rfl <|
 fl_td (s' := (10, [.ref D, .ref E, .int 0], [], (fl_u M D 0 (M E 0)), J)) (fl_n 6 rfl) <|
 lp_54_10 D E (fl_u M D 0 (M E 0)) J (fun u46 =>
  fx_gen (p := fun (MM47 : fl_M) => fl_dn fB54 (60, [.ref D, .ref E, u46], [], MM47, J) (none, (lr_54_10 D E (fl_u M D 0 (M E 0))), J)) (lr_54_10 D E (fl_u M D 0 (M E 0))) (fun MM47 eMM47 =>
   fl_rt rfl (fun _ => rfl) (by subst eMM47; rfl)))
theorem fr_54_10 {D E : Nat} {M : fl_M} {c j : Nat} (hc : c < D ∨ D + 4 ≤ c) : (lr_54_10 D E M) c j = M c j := by
  have g0 : ¬ c = D := by omega
  have g1 : ¬ c = D + 1 := by omega
  have g2 : ¬ c = D + 2 := by omega
  have g3 : ¬ c = D + 3 := by omega
  unfold lr_54_10 lq_54_10
  refine it_k (fun q : fl_M => q c j = M c j) rfl (fun m q hq => ?_)
  unfold ls_54_10
  (try repeat' split) <;> first | with_reducible exact hq | (simp [fl_u, g0, g1, g2, g3, hq]; done)
def fB43 : sm_P := (fun pc => sm_ch sm_t43 pc, sm_Kn 2 4 none, fun x => sm_lk sm_ca2 x, some .int)
theorem cc_43 (M : fl_M) (J : fl_J) (wh li am : Int32) : fl_C 43 [.ref 0, .int wh, .int li, .int am] M J (some (.int (v_45 wh li am 15 (m_44 wh li am 42 M))), (m_45 wh li am 15 (m_44 wh li am 42 M)), J) :=
 fl_Co (B := fB43) rfl rfl <|
 fl_td (s' := (7, [.ref 0, .int wh, .int li, .int am], [.int am, .int li, .int wh, .ref 42], M, J)) (fl_n 5 rfl) <|
 fl_td (s' := (10, [.ref 0, .int wh, .int li, .int am], [], (m_44 wh li am 42 M), J)) (fl_cv (o := none) rfl rfl rfl rfl (cc_44 M J wh li am 42) rfl) <|
 fx_gen (p := fun (MM48 : fl_M) => fl_dn fB43 (10, [.ref 0, .int wh, .int li, .int am], [], MM48, J) (some (.int (v_45 wh li am 15 (m_44 wh li am 42 M))), (m_45 wh li am 15 (m_44 wh li am 42 M)), J)) (m_44 wh li am 42 M) (fun MM48 eMM48 =>
  fl_td (s' := (17, [.ref 0, .int wh, .int li, .int am], [.int am, .int li, .int wh, .ref 15], MM48, J)) (fl_n 5 rfl) <|
  fl_td (s' := (20, [.ref 0, .int wh, .int li, .int am], [.int (v_45 wh li am 15 MM48)], (m_45 wh li am 15 MM48), J)) (fl_cv (o := some (.int (v_45 wh li am 15 MM48))) rfl rfl rfl rfl (cc_45 MM48 J wh li am 15) rfl) <|
  fx_gen (p := fun (MM49 : fl_M) => fl_dn fB43 (20, [.ref 0, .int wh, .int li, .int am], [.int (v_45 wh li am 15 MM48)], MM49, J) (some (.int (v_45 wh li am 15 (m_44 wh li am 42 M))), (m_45 wh li am 15 (m_44 wh li am 42 M)), J)) (m_45 wh li am 15 MM48) (fun MM49 eMM49 =>
   fl_rt rfl (fun _ => rfl) (by subst eMM48; subst eMM49; rfl)))
def fB51 : sm_P := (fun pc => sm_ch sm_t51 pc, sm_Kn 2 2 none, fun x => sm_lk sm_ca2 x, none)
-- MiceRegisters.doAgain 9
def ls_51_9 (m : Nat) (q : fl_M) : fl_M := (m_45 (q 43 (Int32.ofNat m).toNatClampNeg) (q 44 (Int32.ofNat m).toNatClampNeg) (q 45 (Int32.ofNat m).toNatClampNeg) 15 q)
