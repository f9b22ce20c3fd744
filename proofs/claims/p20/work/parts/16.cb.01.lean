def fB46 : sm_P := (fun pc => sm_ch sm_t46 pc, sm_Kn 1 6 none, fun x => sm_lk sm_ca1 x, some .int)
-- MiceRegisters$Register.passYear 4
def ls_46_4 (i1 : Int32) (r0 : Nat) (m : Nat) (q : (Int32 × fl_M)) : (Int32 × fl_M) := (if ((i1 >>> ((Int32.ofNat m) &&& 31)) &&& 1) = 1 then (q.1, q.2) else (if ((lr_28_11 (Int32.ofNat m) (-9) 0 0 r0 q.2).1) = (-9) then (q.1, q.2) else ((q.1 + (if v_35 (q.2 (r0 + 5) (Int32.ofNat m).toNatClampNeg) (q.2 (r0 + 6) (Int32.ofNat m).toNatClampNeg) < q.2 (r0 + 3) ((lr_28_11 (Int32.ofNat m) (-9) 0 0 r0 q.2).1).toNatClampNeg then v_35 (q.2 (r0 + 5) (Int32.ofNat m).toNatClampNeg) (q.2 (r0 + 6) (Int32.ofNat m).toNatClampNeg) else q.2 (r0 + 3) ((lr_28_11 (Int32.ofNat m) (-9) 0 0 r0 q.2).1).toNatClampNeg)), (fl_u (fl_u q.2 (r0 + 8) (Int32.ofNat m).toNatClampNeg ((lr_28_11 (Int32.ofNat m) (-9) 0 0 r0 q.2).1)) (r0 + 3) ((lr_28_11 (Int32.ofNat m) (-9) 0 0 r0 q.2).1).toNatClampNeg (((fl_u q.2 (r0 + 8) (Int32.ofNat m).toNatClampNeg ((lr_28_11 (Int32.ofNat m) (-9) 0 0 r0 q.2).1)) (r0 + 3) ((lr_28_11 (Int32.ofNat m) (-9) 0 0 r0 q.2).1).toNatClampNeg) - (if v_35 (q.2 (r0 + 5) (Int32.ofNat m).toNatClampNeg) (q.2 (r0 + 6) (Int32.ofNat m).toNatClampNeg) < q.2 (r0 + 3) ((lr_28_11 (Int32.ofNat m) (-9) 0 0 r0 q.2).1).toNatClampNeg then v_35 (q.2 (r0 + 5) (Int32.ofNat m).toNatClampNeg) (q.2 (r0 + 6) (Int32.ofNat m).toNatClampNeg) else q.2 (r0 + 3) ((lr_28_11 (Int32.ofNat m) (-9) 0 0 r0 q.2).1).toNatClampNeg))))))
def lq_46_4 (i1 i2 : Int32) (r0 : Nat) (M : fl_M) (m : Nat) : (Int32 × fl_M) := fx_it (ls_46_4 i1 r0) m (i2, M)
theorem lqs_46_4 (i1 i2 : Int32) (r0 : Nat) (M : fl_M) (m : Nat) : lq_46_4 i1 i2 r0 M (m + 1) = (ls_46_4 i1 r0) m (lq_46_4 i1 i2 r0 M m) := by
  unfold lq_46_4
  exact fx_it_s _ _ _
def lr_46_4 (i1 i2 : Int32) (r0 : Nat) (M : fl_M) : (Int32 × fl_M) := (lq_46_4 i1 i2 r0 M (((M r0 1)).toNatClampNeg))
theorem ts_46_4 {r : fl_Q} (i1 i2 i3 : Int32) (r0 : Nat) (u4 u5 : Value) (M : fl_M) (J : fl_J) (q1 : (i3 < (M r0 1)) → (((i1 >>> (i3 &&& 31)) &&& 1) = 1) → fl_dn fB46 (4, [.ref r0, .int i1, .int i2, .int (i3 + 1), .int (-9), u5], [], M, J) r) (q2 : (i3 < (M r0 1)) → (¬ (((i1 >>> (i3 &&& 31)) &&& 1) = 1)) → (((lr_28_11 i3 (-9) 0 0 r0 M).1) = (-9)) → fl_dn fB46 (4, [.ref r0, .int i1, .int i2, .int (i3 + 1), .int ((lr_28_11 i3 (-9) 0 0 r0 M).1), u5], [], M, J) r) (q3 : (i3 < (M r0 1)) → (¬ (((i1 >>> (i3 &&& 31)) &&& 1) = 1)) → (¬ (((lr_28_11 i3 (-9) 0 0 r0 M).1) = (-9))) → fl_dn fB46 (4, [.ref r0, .int i1, .int (i2 + (if v_35 (M (r0 + 5) i3.toNatClampNeg) (M (r0 + 6) i3.toNatClampNeg) < M (r0 + 3) ((lr_28_11 i3 (-9) 0 0 r0 M).1).toNatClampNeg then v_35 (M (r0 + 5) i3.toNatClampNeg) (M (r0 + 6) i3.toNatClampNeg) else M (r0 + 3) ((lr_28_11 i3 (-9) 0 0 r0 M).1).toNatClampNeg)), .int (i3 + 1), .int ((lr_28_11 i3 (-9) 0 0 r0 M).1), .int (if v_35 (M (r0 + 5) i3.toNatClampNeg) (M (r0 + 6) i3.toNatClampNeg) < M (r0 + 3) ((lr_28_11 i3 (-9) 0 0 r0 M).1).toNatClampNeg then v_35 (M (r0 + 5) i3.toNatClampNeg) (M (r0 + 6) i3.toNatClampNeg) else M (r0 + 3) ((lr_28_11 i3 (-9) 0 0 r0 M).1).toNatClampNeg)], [], (fl_u (fl_u M (r0 + 8) i3.toNatClampNeg ((lr_28_11 i3 (-9) 0 0 r0 M).1)) (r0 + 3) ((lr_28_11 i3 (-9) 0 0 r0 M).1).toNatClampNeg (((fl_u M (r0 + 8) i3.toNatClampNeg ((lr_28_11 i3 (-9) 0 0 r0 M).1)) (r0 + 3) ((lr_28_11 i3 (-9) 0 0 r0 M).1).toNatClampNeg) - (if v_35 (M (r0 + 5) i3.toNatClampNeg) (M (r0 + 6) i3.toNatClampNeg) < M (r0 + 3) ((lr_28_11 i3 (-9) 0 0 r0 M).1).toNatClampNeg then v_35 (M (r0 + 5) i3.toNatClampNeg) (M (r0 + 6) i3.toNatClampNeg) else M (r0 + 3) ((lr_28_11 i3 (-9) 0 0 r0 M).1).toNatClampNeg))), J) r) (q4 : (¬ (i3 < (M r0 1))) → fl_dn fB46 (98, [.ref r0, .int i1, .int i2, .int i3, u4, u5], [], M, J) r) : fl_dn fB46 (4, [.ref r0, .int i1, .int i2, .int i3, u4, u5], [], M, J) r :=
 fl_td (s' := (9, [.ref r0, .int i1, .int i2, .int i3, u4, u5], [.int (M r0 1), .int i3], M, J)) (fl_n 3 rfl) <|
 fl_dnot (fl_ic (t := 98) rfl rfl) fl_nlt (fun h1 =>
  fl_td (s' := (18, [.ref r0, .int i1, .int i2, .int i3, u4, u5], [.int 1, .int ((i1 >>> (i3 &&& 31)) &&& 1)], M, J)) (fl_n 6 rfl) <|
  fl_dnot (fl_ic (t := 26) rfl rfl) fl_cF (fun h2 =>
   fl_td (s' := (4, [.ref r0, .int i1, .int i2, .int (i3 + 1), .int (-9), u5], [], M, J)) (fl_n 8 rfl) <|
   (q1 h1 h2)) (fun h2 =>
   fl_td (s' := (28, [.ref r0, .int i1, .int i2, .int i3, u4, u5], [.int i3, .ref r0], M, J)) (fl_n 2 rfl) <|
   fl_td (s' := (31, [.ref r0, .int i1, .int i2, .int i3, u4, u5], [.int ((lr_28_11 i3 (-9) 0 0 r0 M).1)], M, J)) (fl_cv (o := some (.int ((lr_28_11 i3 (-9) 0 0 r0 M).1))) rfl rfl rfl rfl (cc_28 M J i3 r0) rfl) <|
   fx_gen (p := fun (II32 : Int32) => fl_dn fB46 (31, [.ref r0, .int i1, .int i2, .int i3, u4, u5], [.int II32], M, J) r) ((lr_28_11 i3 (-9) 0 0 r0 M).1) (fun II32 eII32 =>
    fl_td (s' := (37, [.ref r0, .int i1, .int i2, .int i3, .int II32, u5], [.int (-9), .int II32], M, J)) (fl_n 3 rfl) <|
    fl_dtwo (fl_ic (t := 92) rfl rfl) fl_cT (fun h3 =>
     fl_td (s' := (4, [.ref r0, .int i1, .int i2, .int (i3 + 1), .int II32, u5], [], M, J)) (fl_n 2 rfl) <|
     (by subst eII32; exact (q2 h1 h2 h3))) (fun h3 =>
     fl_td (s' := (59, [.ref r0, .int i1, .int i2, .int i3, .int II32, u5], [.int (M (r0 + 6) i3.toNatClampNeg), .int (M (r0 + 5) i3.toNatClampNeg), .int (M (r0 + 3) II32.toNatClampNeg)], M, J)) (fl_n 12 rfl) <|
     fl_td (s' := (62, [.ref r0, .int i1, .int i2, .int i3, .int II32, u5], [.int (v_35 (M (r0 + 5) i3.toNatClampNeg) (M (r0 + 6) i3.toNatClampNeg)), .int (M (r0 + 3) II32.toNatClampNeg)], M, J)) (fl_cs (o := some (.int (v_35 (M (r0 + 5) i3.toNatClampNeg) (M (r0 + 6) i3.toNatClampNeg)))) rfl rfl rfl (cc_35 M J (M (r0 + 5) i3.toNatClampNeg) (M (r0 + 6) i3.toNatClampNeg)) rfl) <|
     fl_td (s' := (4, [.ref r0, .int i1, .int (i2 + (if v_35 (M (r0 + 5) i3.toNatClampNeg) (M (r0 + 6) i3.toNatClampNeg) < M (r0 + 3) II32.toNatClampNeg then v_35 (M (r0 + 5) i3.toNatClampNeg) (M (r0 + 6) i3.toNatClampNeg) else M (r0 + 3) II32.toNatClampNeg)), .int (i3 + 1), .int II32, .int (if v_35 (M (r0 + 5) i3.toNatClampNeg) (M (r0 + 6) i3.toNatClampNeg) < M (r0 + 3) II32.toNatClampNeg then v_35 (M (r0 + 5) i3.toNatClampNeg) (M (r0 + 6) i3.toNatClampNeg) else M (r0 + 3) II32.toNatClampNeg)], [], (fl_u (fl_u M (r0 + 8) i3.toNatClampNeg II32) (r0 + 3) II32.toNatClampNeg (((fl_u M (r0 + 8) i3.toNatClampNeg II32) (r0 + 3) II32.toNatClampNeg) - (if v_35 (M (r0 + 5) i3.toNatClampNeg) (M (r0 + 6) i3.toNatClampNeg) < M (r0 + 3) II32.toNatClampNeg then v_35 (M (r0 + 5) i3.toNatClampNeg) (M (r0 + 6) i3.toNatClampNeg) else M (r0 + 3) II32.toNatClampNeg))), J)) (fl_n 21 rfl) <|
     (by subst eII32; exact (q3 h1 h2 h3)))))) (fun h1 =>
  (q4 h1))
theorem lk_46_4 (i1 i2 : Int32) (r0 : Nat) (M : fl_M) (m : Nat) : (((lq_46_4 i1 i2 r0 M m).2) r0 1) = (M r0 1) := by
  induction m with
  | zero => rfl
  | succ m ih =>
    rw [← ih]
    rw [lqs_46_4]
    generalize lq_46_4 i1 i2 r0 M m = q
    unfold ls_46_4
    (repeat' split) <;> first | with_reducible rfl | (simp [fl_u, fr_22_18, fr_22_53, fr_23_42, fr_23_106, fr_23]; done) | rfl
theorem lp_46_4 {r : fl_Q} (i1 i2 : Int32) (r0 : Nat) (u4 u5 : Value) (M : fl_M) (J : fl_J) (hx : ∀ w3 w4 w5 : Value, fl_dn fB46 (98, [.ref r0, .int i1, .int ((lr_46_4 i1 i2 r0 M).1), w3, w4, w5], [], ((lr_46_4 i1 i2 r0 M).2), J) r) : fl_dn fB46 (4, [.ref r0, .int i1, .int i2, .int 0, u4, u5], [], M, J) r := by
  have hb := fi_bd (M r0 1)
  have hB := fun m => lk_46_4 i1 i2 r0 M m
  have key : ∀ (n m : Nat) (w4 w5 : Value), m + n = ((M r0 1)).toNatClampNeg → fl_dn fB46 (4, [.ref r0, .int i1, .int ((lq_46_4 i1 i2 r0 M m).1), .int (Int32.ofNat m), w4, w5], [], ((lq_46_4 i1 i2 r0 M m).2), J) r := by
    intro n
    induction n with
    | zero =>
      intro m w4 w5 hm
      have hm : m = ((M r0 1)).toNatClampNeg := by omega
      have hn : ¬ ((Int32.ofNat m) < (((lq_46_4 i1 i2 r0 M m).2) r0 1)) := fun z => by rw [hB m] at z; have z := (fi_lt (by omega)).mp z; omega
      exact ts_46_4 i1 ((lq_46_4 i1 i2 r0 M m).1) (Int32.ofNat m) r0 w4 w5 ((lq_46_4 i1 i2 r0 M m).2) J (fun h1 h2 => absurd h1 hn) (fun h1 h2 h3 => absurd h1 hn) (fun h1 h2 h3 => absurd h1 hn) (fun h1 => (by have e : lr_46_4 i1 i2 r0 M = lq_46_4 i1 i2 r0 M m := (by show lq_46_4 i1 i2 r0 M (((M r0 1)).toNatClampNeg) = _; rw [← hm]); rw [e] at hx; exact hx _ _ _))
    | succ n ih =>
      intro m w4 w5 hm
      have hp : (Int32.ofNat m) < (((lq_46_4 i1 i2 r0 M m).2) r0 1) := by rw [hB m]; exact (fi_lt (by omega)).mpr (by omega)
      refine ts_46_4 i1 ((lq_46_4 i1 i2 r0 M m).1) (Int32.ofNat m) r0 w4 w5 ((lq_46_4 i1 i2 r0 M m).2) J (fun h1 h2 => ?_) (fun h1 h2 h3 => ?_) (fun h1 h2 h3 => ?_) (fun h1 => absurd hp h1)
      · have e : lq_46_4 i1 i2 r0 M (m + 1) = (((lq_46_4 i1 i2 r0 M m).1), ((lq_46_4 i1 i2 r0 M m).2)) := by
          rw [lqs_46_4]
          unfold ls_46_4
          simp only [if_pos h2]
        have q := ih (m + 1) (.int (-9)) w5 (by omega)
        rw [e] at q
        first | (rw [fi_s]; exact q) | (rw [← fi_s] at q; exact q) | (simp only [fi_s] at q ⊢; exact q)
      · have e : lq_46_4 i1 i2 r0 M (m + 1) = (((lq_46_4 i1 i2 r0 M m).1), ((lq_46_4 i1 i2 r0 M m).2)) := by
          rw [lqs_46_4]
          unfold ls_46_4
          simp only [if_neg h2, if_pos h3]
        have q := ih (m + 1) (.int ((lr_28_11 (Int32.ofNat m) (-9) 0 0 r0 ((lq_46_4 i1 i2 r0 M m).2)).1)) w5 (by omega)
        rw [e] at q
        first | (rw [fi_s]; exact q) | (rw [← fi_s] at q; exact q) | (simp only [fi_s] at q ⊢; exact q)
      · have e : lq_46_4 i1 i2 r0 M (m + 1) = ((((lq_46_4 i1 i2 r0 M m).1) + (if v_35 (((lq_46_4 i1 i2 r0 M m).2) (r0 + 5) (Int32.ofNat m).toNatClampNeg) (((lq_46_4 i1 i2 r0 M m).2) (r0 + 6) (Int32.ofNat m).toNatClampNeg) < ((lq_46_4 i1 i2 r0 M m).2) (r0 + 3) ((lr_28_11 (Int32.ofNat m) (-9) 0 0 r0 ((lq_46_4 i1 i2 r0 M m).2)).1).toNatClampNeg then v_35 (((lq_46_4 i1 i2 r0 M m).2) (r0 + 5) (Int32.ofNat m).toNatClampNeg) (((lq_46_4 i1 i2 r0 M m).2) (r0 + 6) (Int32.ofNat m).toNatClampNeg) else ((lq_46_4 i1 i2 r0 M m).2) (r0 + 3) ((lr_28_11 (Int32.ofNat m) (-9) 0 0 r0 ((lq_46_4 i1 i2 r0 M m).2)).1).toNatClampNeg)), (fl_u (fl_u ((lq_46_4 i1 i2 r0 M m).2) (r0 + 8) (Int32.ofNat m).toNatClampNeg ((lr_28_11 (Int32.ofNat m) (-9) 0 0 r0 ((lq_46_4 i1 i2 r0 M m).2)).1)) (r0 + 3) ((lr_28_11 (Int32.ofNat m) (-9) 0 0 r0 ((lq_46_4 i1 i2 r0 M m).2)).1).toNatClampNeg (((fl_u ((lq_46_4 i1 i2 r0 M m).2) (r0 + 8) (Int32.ofNat m).toNatClampNeg ((lr_28_11 (Int32.ofNat m) (-9) 0 0 r0 ((lq_46_4 i1 i2 r0 M m).2)).1)) (r0 + 3) ((lr_28_11 (Int32.ofNat m) (-9) 0 0 r0 ((lq_46_4 i1 i2 r0 M m).2)).1).toNatClampNeg) - (if v_35 (((lq_46_4 i1 i2 r0 M m).2) (r0 + 5) (Int32.ofNat m).toNatClampNeg) (((lq_46_4 i1 i2 r0 M m).2) (r0 + 6) (Int32.ofNat m).toNatClampNeg) < ((lq_46_4 i1 i2 r0 M m).2) (r0 + 3) ((lr_28_11 (Int32.ofNat m) (-9) 0 0 r0 ((lq_46_4 i1 i2 r0 M m).2)).1).toNatClampNeg then v_35 (((lq_46_4 i1 i2 r0 M m).2) (r0 + 5) (Int32.ofNat m).toNatClampNeg) (((lq_46_4 i1 i2 r0 M m).2) (r0 + 6) (Int32.ofNat m).toNatClampNeg) else ((lq_46_4 i1 i2 r0 M m).2) (r0 + 3) ((lr_28_11 (Int32.ofNat m) (-9) 0 0 r0 ((lq_46_4 i1 i2 r0 M m).2)).1).toNatClampNeg)))) := by
          rw [lqs_46_4]
          unfold ls_46_4
          simp only [if_neg h2, if_neg h3]
        have q := ih (m + 1) (.int ((lr_28_11 (Int32.ofNat m) (-9) 0 0 r0 ((lq_46_4 i1 i2 r0 M m).2)).1)) (.int (if v_35 (((lq_46_4 i1 i2 r0 M m).2) (r0 + 5) (Int32.ofNat m).toNatClampNeg) (((lq_46_4 i1 i2 r0 M m).2) (r0 + 6) (Int32.ofNat m).toNatClampNeg) < ((lq_46_4 i1 i2 r0 M m).2) (r0 + 3) ((lr_28_11 (Int32.ofNat m) (-9) 0 0 r0 ((lq_46_4 i1 i2 r0 M m).2)).1).toNatClampNeg then v_35 (((lq_46_4 i1 i2 r0 M m).2) (r0 + 5) (Int32.ofNat m).toNatClampNeg) (((lq_46_4 i1 i2 r0 M m).2) (r0 + 6) (Int32.ofNat m).toNatClampNeg) else ((lq_46_4 i1 i2 r0 M m).2) (r0 + 3) ((lr_28_11 (Int32.ofNat m) (-9) 0 0 r0 ((lq_46_4 i1 i2 r0 M m).2)).1).toNatClampNeg)) (by omega)
        rw [e] at q
        first | (rw [fi_s]; exact q) | (rw [← fi_s] at q; exact q) | (simp only [fi_s] at q ⊢; exact q)
  exact key (((M r0 1)).toNatClampNeg) 0 u4 u5 (Nat.zero_add _)
-- MiceRegisters$Register.passYear 100
def ls_46_100 (r0 : Nat) (m : Nat) (q : fl_M) : fl_M := (fl_u q (r0 + 4) (Int32.ofNat m).toNatClampNeg (if 0 < (q (r0 + 4) (Int32.ofNat m).toNatClampNeg) - 1 then (q (r0 + 4) (Int32.ofNat m).toNatClampNeg) - 1 else 0))
def lq_46_100 (r0 : Nat) (M : fl_M) (m : Nat) : fl_M := fx_it (ls_46_100 r0) m M
theorem lqs_46_100 (r0 : Nat) (M : fl_M) (m : Nat) : lq_46_100 r0 M (m + 1) = (ls_46_100 r0) m (lq_46_100 r0 M m) := by
  unfold lq_46_100
  exact fx_it_s _ _ _
def lr_46_100 (r0 : Nat) (M : fl_M) : fl_M := (lq_46_100 r0 M (((M r0 0)).toNatClampNeg))
