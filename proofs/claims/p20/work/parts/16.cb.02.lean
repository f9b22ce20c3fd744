theorem ts_46_100 {r : fl_Q} (i1 i2 i3 : Int32) (r0 : Nat) (u4 u5 : Value) (M : fl_M) (J : fl_J) (q1 : (i3 < (M r0 0)) → fl_dn fB46 (100, [.ref r0, .int i1, .int i2, .int (i3 + 1), u4, u5], [], (fl_u M (r0 + 4) i3.toNatClampNeg (if 0 < (M (r0 + 4) i3.toNatClampNeg) - 1 then (M (r0 + 4) i3.toNatClampNeg) - 1 else 0)), J) r) (q2 : (¬ (i3 < (M r0 0))) → fl_dn fB46 (132, [.ref r0, .int i1, .int i2, .int i3, u4, u5], [], M, J) r) : fl_dn fB46 (100, [.ref r0, .int i1, .int i2, .int i3, u4, u5], [], M, J) r :=
 fl_td (s' := (105, [.ref r0, .int i1, .int i2, .int i3, u4, u5], [.int (M r0 0), .int i3], M, J)) (fl_n 3 rfl) <|
 fl_dnot (fl_ic (t := 132) rfl rfl) fl_nlt (fun h1 =>
  fl_td (s' := (100, [.ref r0, .int i1, .int i2, .int (i3 + 1), u4, u5], [], (fl_u M (r0 + 4) i3.toNatClampNeg (if 0 < (M (r0 + 4) i3.toNatClampNeg) - 1 then (M (r0 + 4) i3.toNatClampNeg) - 1 else 0)), J)) (fl_n 14 rfl) <|
  (q1 h1)) (fun h1 =>
  (q2 h1))
theorem lk_46_100 (r0 : Nat) (M : fl_M) (m : Nat) : ((lq_46_100 r0 M m) r0 0) = (M r0 0) := by
  induction m with
  | zero => rfl
  | succ m ih =>
    rw [← ih]
    rw [lqs_46_100]
    generalize lq_46_100 r0 M m = q
    unfold ls_46_100
    (repeat' split) <;> first | with_reducible rfl | (simp [fl_u, fr_22_18, fr_22_53, fr_23_42, fr_23_106, fr_23]; done) | rfl
theorem lp_46_100 {r : fl_Q} (i1 i2 : Int32) (r0 : Nat) (u4 u5 : Value) (M : fl_M) (J : fl_J) (hx : ∀ w3 : Value, fl_dn fB46 (132, [.ref r0, .int i1, .int i2, w3, u4, u5], [], (lr_46_100 r0 M), J) r) : fl_dn fB46 (100, [.ref r0, .int i1, .int i2, .int 0, u4, u5], [], M, J) r := by
  have hb := fi_bd (M r0 0)
  have hB := fun m => lk_46_100 r0 M m
  have key : ∀ (n m : Nat), m + n = ((M r0 0)).toNatClampNeg → fl_dn fB46 (100, [.ref r0, .int i1, .int i2, .int (Int32.ofNat m), u4, u5], [], (lq_46_100 r0 M m), J) r := by
    intro n
    induction n with
    | zero =>
      intro m hm
      have hm : m = ((M r0 0)).toNatClampNeg := by omega
      have hn : ¬ ((Int32.ofNat m) < ((lq_46_100 r0 M m) r0 0)) := fun z => by rw [hB m] at z; have z := (fi_lt (by omega)).mp z; omega
      exact ts_46_100 i1 i2 (Int32.ofNat m) r0 u4 u5 (lq_46_100 r0 M m) J (fun h1 => absurd h1 hn) (fun h1 => (by have e : lr_46_100 r0 M = lq_46_100 r0 M m := (by show lq_46_100 r0 M (((M r0 0)).toNatClampNeg) = _; rw [← hm]); rw [e] at hx; exact hx _))
    | succ n ih =>
      intro m hm
      have hp : (Int32.ofNat m) < ((lq_46_100 r0 M m) r0 0) := by rw [hB m]; exact (fi_lt (by omega)).mpr (by omega)
      refine ts_46_100 i1 i2 (Int32.ofNat m) r0 u4 u5 (lq_46_100 r0 M m) J (fun h1 => ?_) (fun h1 => absurd hp h1)
      · have e : lq_46_100 r0 M (m + 1) = (fl_u (lq_46_100 r0 M m) (r0 + 4) (Int32.ofNat m).toNatClampNeg (if 0 < ((lq_46_100 r0 M m) (r0 + 4) (Int32.ofNat m).toNatClampNeg) - 1 then ((lq_46_100 r0 M m) (r0 + 4) (Int32.ofNat m).toNatClampNeg) - 1 else 0)) := by
          rw [lqs_46_100]
          unfold ls_46_100
          rfl
        have q := ih (m + 1) (by omega)
        rw [e] at q
        first | (rw [fi_s]; exact q) | (rw [← fi_s] at q; exact q) | (simp only [fi_s] at q ⊢; exact q)
  exact key (((M r0 0)).toNatClampNeg) 0 (Nat.zero_add _)
def m_46 (s : Int32) (T : Nat) (M : fl_M) : fl_M := (fl_u (lr_46_100 T ((lr_46_4 s 0 T M).2)) T 2 (((lr_46_100 T ((lr_46_4 s 0 T M).2)) T 2) + 1))
theorem cc_46 (M : fl_M) (J : fl_J) (s : Int32) (T : Nat) : fl_C 46 [.ref T, .int s] M J (some (.int ((lr_46_4 s 0 T M).1)), (m_46 s T M), J) :=
 fl_Co (B := fB46) rfl rfl <|
 fl_td (s' := (4, [.ref T, .int s, .int 0, .int 0, .null, .null], [], M, J)) (fl_n 4 rfl) <|
 lp_46_4 s 0 T .null .null M J (fun u33 u34 u35 =>
  fx_gen (p := fun (MM36 : fl_M) => fl_dn fB46 (98, [.ref T, .int s, .int ((lr_46_4 s 0 T M).1), u33, u34, u35], [], MM36, J) (some (.int ((lr_46_4 s 0 T M).1)), (m_46 s T M), J)) ((lr_46_4 s 0 T M).2) (fun MM36 eMM36 =>
   fx_gen (p := fun (II37 : Int32) => fl_dn fB46 (98, [.ref T, .int s, .int II37, u33, u34, u35], [], MM36, J) (some (.int ((lr_46_4 s 0 T M).1)), (m_46 s T M), J)) ((lr_46_4 s 0 T M).1) (fun II37 eII37 =>
    fl_td (s' := (100, [.ref T, .int s, .int II37, .int 0, u34, u35], [], MM36, J)) (fl_n 2 rfl) <|
    lp_46_100 s II37 T u34 u35 MM36 J (fun u38 =>
     fx_gen (p := fun (MM39 : fl_M) => fl_dn fB46 (132, [.ref T, .int s, .int II37, u38, u34, u35], [], MM39, J) (some (.int ((lr_46_4 s 0 T M).1)), (m_46 s T M), J)) (lr_46_100 T MM36) (fun MM39 eMM39 =>
      fl_td (s' := (143, [.ref T, .int s, .int II37, u38, u34, u35], [.int II37], (fl_u MM39 T 2 ((MM39 T 2) + 1)), J)) (fl_n 7 rfl) <|
      fl_rt rfl (fun _ => rfl) (by subst eMM36; subst eII37; subst eMM39; rfl))))))
theorem fr_46_4 {s e : Int32} {T : Nat} {M : fl_M} {c j : Nat} (hc : c < T ∨ T + 9 ≤ c) : (lr_46_4 s e T M).2 c j = M c j := by
  have g0 : ¬ c = T := by omega
  have g1 : ¬ c = T + 1 := by omega
  have g2 : ¬ c = T + 2 := by omega
  have g3 : ¬ c = T + 3 := by omega
  have g4 : ¬ c = T + 4 := by omega
  have g5 : ¬ c = T + 5 := by omega
  have g6 : ¬ c = T + 6 := by omega
  have g7 : ¬ c = T + 7 := by omega
  have g8 : ¬ c = T + 8 := by omega
  unfold lr_46_4 lq_46_4
  refine it_k (fun q : (Int32 × fl_M) => q.2 c j = M c j) rfl (fun m q hq => ?_)
  unfold ls_46_4
  (try repeat' split) <;> first | with_reducible exact hq | (simp [fl_u, g0, g1, g2, g3, g4, g5, g6, g7, g8, hq]; done)
theorem fr_46_100 {T : Nat} {M : fl_M} {c j : Nat} (hc : c < T ∨ T + 9 ≤ c) : (lr_46_100 T M) c j = M c j := by
  have g0 : ¬ c = T := by omega
  have g1 : ¬ c = T + 1 := by omega
  have g2 : ¬ c = T + 2 := by omega
  have g3 : ¬ c = T + 3 := by omega
  have g4 : ¬ c = T + 4 := by omega
  have g5 : ¬ c = T + 5 := by omega
  have g6 : ¬ c = T + 6 := by omega
  have g7 : ¬ c = T + 7 := by omega
  have g8 : ¬ c = T + 8 := by omega
  unfold lr_46_100 lq_46_100
  refine it_k (fun q : fl_M => q c j = M c j) rfl (fun m q hq => ?_)
  unfold ls_46_100
  (try repeat' split) <;> first | with_reducible exact hq | (simp [fl_u, g0, g1, g2, g3, g4, g5, g6, g7, g8, hq]; done)
theorem fr_46 {s : Int32} {T : Nat} {M : fl_M} {c j : Nat} (hc : c < T ∨ T + 9 ≤ c) : (m_46 s T M) c j = M c j := by
  have g0 : ¬ c = T := by omega
  have g1 : ¬ c = T + 1 := by omega
  have g2 : ¬ c = T + 2 := by omega
  have g3 : ¬ c = T + 3 := by omega
  have g4 : ¬ c = T + 4 := by omega
  have g5 : ¬ c = T + 5 := by omega
  have g6 : ¬ c = T + 6 := by omega
  have g7 : ¬ c = T + 7 := by omega
  have g8 : ¬ c = T + 8 := by omega
  unfold m_46
  (try repeat' split) <;> first | with_reducible rfl | (simp [fl_u, g0, g1, g2, g3, g4, g5, g6, g7, g8, fr_46_4 hc, fr_46_100 hc]; done)
def fB45 : sm_P := (fun pc => sm_ch sm_t45 pc, sm_Kn 1 5 none, fun x => sm_lk sm_ca1 x, some .int)
def v_45 (wh li am : Int32) (T : Nat) (M : fl_M) : Int32 := (if wh = 1 then (fl_u M (T + 4) li.toNatClampNeg (if (M (T + 4) li.toNatClampNeg) + am < 20 then (M (T + 4) li.toNatClampNeg) + am else 20)) (T + 4) li.toNatClampNeg else (if wh = 2 then M T 3 else (if wh = 3 then (((fl_u M T 4 ((M T 4) ^^^ ((1 : Int32) <<< (li &&& 31)))) T 4) >>> (li &&& 31)) &&& 1 else ((lr_46_4 0 0 T M).1))))
def m_45 (wh li am : Int32) (T : Nat) (M : fl_M) : fl_M := (if wh = 1 then (fl_u M (T + 4) li.toNatClampNeg (if (M (T + 4) li.toNatClampNeg) + am < 20 then (M (T + 4) li.toNatClampNeg) + am else 20)) else (if wh = 2 then (fl_u M T 3 li) else (if wh = 3 then (fl_u M T 4 ((M T 4) ^^^ ((1 : Int32) <<< (li &&& 31)))) else (m_46 0 T M))))
theorem cc_45 (M : fl_M) (J : fl_J) (wh li am : Int32) (T : Nat) : fl_C 45 [.ref T, .int wh, .int li, .int am] M J (some (.int (v_45 wh li am T M)), (m_45 wh li am T M), J) :=
 fl_Co (B := fB45) rfl rfl <|
 fl_td (s' := (1, [.ref T, .int wh, .int li, .int am, .null], [.int wh], M, J)) (fl_n 1 rfl) <|
 fl_dc (c := wh = 1) (fun h1 =>
  fl_td (s' := (28, [.ref T, .int wh, .int li, .int am, .null], [], M, J)) (fl_sw h1 rfl) <|
  fl_td (s' := (53, [.ref T, .int wh, .int li, .int am, .null], [.int ((fl_u M (T + 4) li.toNatClampNeg (if (M (T + 4) li.toNatClampNeg) + am < 20 then (M (T + 4) li.toNatClampNeg) + am else 20)) (T + 4) li.toNatClampNeg)], (fl_u M (T + 4) li.toNatClampNeg (if (M (T + 4) li.toNatClampNeg) + am < 20 then (M (T + 4) li.toNatClampNeg) + am else 20)), J)) (fl_n 16 rfl) <|
  fl_rt rfl (fun _ => rfl) (by unfold v_45 m_45; first | (simp only [if_pos h1]; done) | rfl)) (fun h1 =>
  fl_dc (c := wh = 2) (fun h2 =>
   fl_td (s' := (54, [.ref T, .int wh, .int li, .int am, .null], [], M, J)) (fl_sw h2 rfl) <|
   fl_td (s' := (67, [.ref T, .int wh, .int li, .int am, .int (M T 3)], [.int (M T 3)], (fl_u M T 3 li), J)) (fl_n 7 rfl) <|
   fl_rt rfl (fun _ => rfl) (by unfold v_45 m_45; first | (simp only [if_neg h1, if_pos h2]; done) | rfl)) (fun h2 =>
   fl_dc (c := wh = 3) (fun h3 =>
    fl_td (s' := (68, [.ref T, .int wh, .int li, .int am, .null], [], M, J)) (fl_sw h3 rfl) <|
    fl_td (s' := (88, [.ref T, .int wh, .int li, .int am, .null], [.int ((((fl_u M T 4 ((M T 4) ^^^ ((1 : Int32) <<< (li &&& 31)))) T 4) >>> (li &&& 31)) &&& 1)], (fl_u M T 4 ((M T 4) ^^^ ((1 : Int32) <<< (li &&& 31)))), J)) (fl_n 14 rfl) <|
    fl_rt rfl (fun _ => rfl) (by unfold v_45 m_45; first | (simp only [if_neg h1, if_neg h2, if_pos h3]; done) | rfl)) (fun h3 =>
    fl_td (s' := (89, [.ref T, .int wh, .int li, .int am, .null], [], M, J)) (fl_swd rfl rfl (by have e0 := fl_ne 1 rfl h1; have e1 := fl_ne 2 rfl h2; have e2 := fl_ne 3 rfl h3; omega)) <|
    fl_td (s' := (91, [.ref T, .int wh, .int li, .int am, .null], [.int 0, .ref T], M, J)) (fl_n 2 rfl) <|
    fl_td (s' := (94, [.ref T, .int wh, .int li, .int am, .null], [.int ((lr_46_4 0 0 T M).1)], (m_46 0 T M), J)) (fl_cv (o := some (.int ((lr_46_4 0 0 T M).1))) rfl rfl rfl rfl (cc_46 M J 0 T) rfl) <|
    fx_gen (p := fun (MM40 : fl_M) => fl_dn fB45 (94, [.ref T, .int wh, .int li, .int am, .null], [.int ((lr_46_4 0 0 T M).1)], MM40, J) (some (.int (v_45 wh li am T M)), (m_45 wh li am T M), J)) (m_46 0 T M) (fun MM40 eMM40 =>
     fx_gen (p := fun (II41 : Int32) => fl_dn fB45 (94, [.ref T, .int wh, .int li, .int am, .null], [.int II41], MM40, J) (some (.int (v_45 wh li am T M)), (m_45 wh li am T M), J)) ((lr_46_4 0 0 T M).1) (fun II41 eII41 =>
      fl_rt rfl (fun _ => rfl) (by subst eMM40; subst eII41; unfold v_45 m_45; first | (simp only [if_neg h1, if_neg h2, if_neg h3]; done) | rfl))))))
theorem fr_45 {wh li am : Int32} {T : Nat} {M : fl_M} {c j : Nat} (hc : c < T ∨ T + 9 ≤ c) : (m_45 wh li am T M) c j = M c j := by
  have g0 : ¬ c = T := by omega
  have g1 : ¬ c = T + 1 := by omega
  have g2 : ¬ c = T + 2 := by omega
  have g3 : ¬ c = T + 3 := by omega
  have g4 : ¬ c = T + 4 := by omega
  have g5 : ¬ c = T + 5 := by omega
  have g6 : ¬ c = T + 6 := by omega
  have g7 : ¬ c = T + 7 := by omega
  have g8 : ¬ c = T + 8 := by omega
  unfold m_45
  (try repeat' split) <;> first | with_reducible rfl | (simp [fl_u, g0, g1, g2, g3, g4, g5, g6, g7, g8, fr_46 hc]; done)
def fB59 : sm_P := (fun pc => sm_ch sm_t59 pc, sm_Kn 1 3 none, fun x => sm_lk sm_ca1 x, none)
-- MiceRegisters$Register.passYears 2
def ls_59_2 (r0 : Nat) (m : Nat) (q : fl_M) : fl_M := (m_46 0 r0 q)
def lq_59_2 (r0 : Nat) (M : fl_M) (m : Nat) : fl_M := fx_it (ls_59_2 r0) m M
theorem lqs_59_2 (r0 : Nat) (M : fl_M) (m : Nat) : lq_59_2 r0 M (m + 1) = (ls_59_2 r0) m (lq_59_2 r0 M m) := by
  unfold lq_59_2
  exact fx_it_s _ _ _
def lr_59_2 (i1 : Int32) (r0 : Nat) (M : fl_M) : fl_M := (lq_59_2 r0 M ((i1).toNatClampNeg))
theorem ts_59_2 {r : fl_Q} (i1 i2 : Int32) (r0 : Nat) (M : fl_M) (J : fl_J) (q1 : (i2 < i1) → fl_dn fB59 (2, [.ref r0, .int i1, .int (i2 + 1)], [], (m_46 0 r0 M), J) r) (q2 : (¬ (i2 < i1)) → fl_dn fB59 (19, [.ref r0, .int i1, .int i2], [], M, J) r) : fl_dn fB59 (2, [.ref r0, .int i1, .int i2], [], M, J) r :=
 fl_td (s' := (4, [.ref r0, .int i1, .int i2], [.int i1, .int i2], M, J)) (fl_n 2 rfl) <|
 fl_dnot (fl_ic (t := 19) rfl rfl) fl_nlt (fun h1 =>
  fl_td (s' := (9, [.ref r0, .int i1, .int i2], [.int 0, .ref r0], M, J)) (fl_n 2 rfl) <|
  fl_td (s' := (12, [.ref r0, .int i1, .int i2], [.int ((lr_46_4 0 0 r0 M).1)], (m_46 0 r0 M), J)) (fl_cv (o := some (.int ((lr_46_4 0 0 r0 M).1))) rfl rfl rfl rfl (cc_46 M J 0 r0) rfl) <|
  fx_gen (p := fun (MM42 : fl_M) => fl_dn fB59 (12, [.ref r0, .int i1, .int i2], [.int ((lr_46_4 0 0 r0 M).1)], MM42, J) r) (m_46 0 r0 M) (fun MM42 eMM42 =>
   fx_gen (p := fun (II43 : Int32) => fl_dn fB59 (12, [.ref r0, .int i1, .int i2], [.int II43], MM42, J) r) ((lr_46_4 0 0 r0 M).1) (fun II43 eII43 =>
    fl_td (s' := (2, [.ref r0, .int i1, .int (i2 + 1)], [], MM42, J)) (fl_n 3 rfl) <|
    (by subst eMM42; subst eII43; exact (q1 h1))))) (fun h1 =>
  (q2 h1))
