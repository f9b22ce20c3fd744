def lq_51_9 (M : fl_M) (m : Nat) : fl_M := fx_it ls_51_9 m M
theorem lqs_51_9 (M : fl_M) (m : Nat) : lq_51_9 M (m + 1) = ls_51_9 m (lq_51_9 M m) := by
  unfold lq_51_9
  exact fx_it_s _ _ _
def lr_51_9 (M : fl_M) : fl_M := (lq_51_9 M (((M 42 0)).toNatClampNeg))
theorem ts_51_9 {r : fl_Q} (i1 : Int32) (M : fl_M) (J : fl_J) (q1 : (i1 < (M 42 0)) → fl_dn fB51 (9, [.ref 0, .int (i1 + 1)], [], (m_45 (M 43 i1.toNatClampNeg) (M 44 i1.toNatClampNeg) (M 45 i1.toNatClampNeg) 15 M), J) r) (q2 : (¬ (i1 < (M 42 0))) → fl_dn fB51 (61, [.ref 0, .int i1], [], M, J) r) : fl_dn fB51 (9, [.ref 0, .int i1], [], M, J) r :=
 fl_td (s' := (17, [.ref 0, .int i1], [.int (M 42 0), .int i1], M, J)) (fl_n 4 rfl) <|
 fl_dnot (fl_ic (t := 61) rfl rfl) fl_nlt (fun h1 =>
  fl_td (s' := (51, [.ref 0, .int i1], [.int (M 45 i1.toNatClampNeg), .int (M 44 i1.toNatClampNeg), .int (M 43 i1.toNatClampNeg), .ref 15], M, J)) (fl_n 17 rfl) <|
  fl_td (s' := (54, [.ref 0, .int i1], [.int (v_45 (M 43 i1.toNatClampNeg) (M 44 i1.toNatClampNeg) (M 45 i1.toNatClampNeg) 15 M)], (m_45 (M 43 i1.toNatClampNeg) (M 44 i1.toNatClampNeg) (M 45 i1.toNatClampNeg) 15 M), J)) (fl_cv (o := some (.int (v_45 (M 43 i1.toNatClampNeg) (M 44 i1.toNatClampNeg) (M 45 i1.toNatClampNeg) 15 M))) rfl rfl rfl rfl (cc_45 M J (M 43 i1.toNatClampNeg) (M 44 i1.toNatClampNeg) (M 45 i1.toNatClampNeg) 15) rfl) <|
  fx_gen (p := fun (MM51 : fl_M) => fl_dn fB51 (54, [.ref 0, .int i1], [.int (v_45 (M 43 i1.toNatClampNeg) (M 44 i1.toNatClampNeg) (M 45 i1.toNatClampNeg) 15 M)], MM51, J) r) (m_45 (M 43 i1.toNatClampNeg) (M 44 i1.toNatClampNeg) (M 45 i1.toNatClampNeg) 15 M) (fun MM51 eMM51 =>
   fl_td (s' := (9, [.ref 0, .int (i1 + 1)], [], MM51, J)) (fl_n 3 rfl) <|
   (by subst eMM51; exact (q1 h1)))) (fun h1 =>
  (q2 h1))
theorem lk_51_9 (M : fl_M) (m : Nat) : ((lq_51_9 M m) 42 0) = (M 42 0) := by
  induction m with
  | zero => rfl
  | succ m ih =>
    rw [← ih]
    rw [lqs_51_9]
    generalize lq_51_9 M m = q
    unfold ls_51_9
    (repeat' split) <;> first | with_reducible rfl | (simp [fl_u, fr_22_18, fr_22_53, fr_23_42, fr_23_106, fr_23, fr_46_4, fr_46_100, fr_46, fr_45, fr_59_2, fr_44, fr_54_10]; done) | rfl
theorem lp_51_9 {r : fl_Q} (M : fl_M) (J : fl_J) (hx : ∀ w1 : Value, fl_dn fB51 (61, [.ref 0, w1], [], (lr_51_9 M), J) r) : fl_dn fB51 (9, [.ref 0, .int 0], [], M, J) r := by
  have hb := fi_bd (M 42 0)
  have hB := fun m => lk_51_9 M m
  have key : ∀ (n m : Nat), m + n = ((M 42 0)).toNatClampNeg → fl_dn fB51 (9, [.ref 0, .int (Int32.ofNat m)], [], (lq_51_9 M m), J) r := by
    intro n
    induction n with
    | zero =>
      intro m hm
      have hm : m = ((M 42 0)).toNatClampNeg := by omega
      have hn : ¬ ((Int32.ofNat m) < ((lq_51_9 M m) 42 0)) := fun z => by rw [hB m] at z; have z := (fi_lt (by omega)).mp z; omega
      exact ts_51_9 (Int32.ofNat m) (lq_51_9 M m) J (fun h1 => absurd h1 hn) (fun h1 => (by have e : lr_51_9 M = lq_51_9 M m := (by show lq_51_9 M (((M 42 0)).toNatClampNeg) = _; rw [← hm]); rw [e] at hx; exact hx _))
    | succ n ih =>
      intro m hm
      have hp : (Int32.ofNat m) < ((lq_51_9 M m) 42 0) := by rw [hB m]; exact (fi_lt (by omega)).mpr (by omega)
      refine ts_51_9 (Int32.ofNat m) (lq_51_9 M m) J (fun h1 => ?_) (fun h1 => absurd hp h1)
      · have e : lq_51_9 M (m + 1) = (m_45 ((lq_51_9 M m) 43 (Int32.ofNat m).toNatClampNeg) ((lq_51_9 M m) 44 (Int32.ofNat m).toNatClampNeg) ((lq_51_9 M m) 45 (Int32.ofNat m).toNatClampNeg) 15 (lq_51_9 M m)) := by
          rw [lqs_51_9]
          unfold ls_51_9
          rfl
        have q := ih (m + 1) (by omega)
        rw [e] at q
        first | (rw [fi_s]; exact q) | (rw [← fi_s] at q; exact q) | (simp only [fi_s] at q ⊢; exact q)
  exact key (((M 42 0)).toNatClampNeg) 0 (Nat.zero_add _)
theorem cc_51 (M : fl_M) (J : fl_J) : fl_C 51 [.ref 0] M J (none, (lr_51_9 (lr_22_53 15 (lr_22_18 15 (fl_u (fl_u (fl_u M 15 2 0) 15 3 (-9)) 15 4 0)))), J) :=
 fl_Co (B := fB51) rfl rfl <|
 fl_td (s' := (4, [.ref 0, .null], [.ref 15], M, J)) (fl_n 2 rfl) <|
 fl_td (s' := (7, [.ref 0, .null], [], (lr_22_53 15 (lr_22_18 15 (fl_u (fl_u (fl_u M 15 2 0) 15 3 (-9)) 15 4 0))), J)) (fl_cv (o := none) rfl rfl rfl rfl (cc_22 M J 15) rfl) <|
 fx_gen (p := fun (MM50 : fl_M) => fl_dn fB51 (7, [.ref 0, .null], [], MM50, J) (none, (lr_51_9 (lr_22_53 15 (lr_22_18 15 (fl_u (fl_u (fl_u M 15 2 0) 15 3 (-9)) 15 4 0)))), J)) (lr_22_53 15 (lr_22_18 15 (fl_u (fl_u (fl_u M 15 2 0) 15 3 (-9)) 15 4 0))) (fun MM50 eMM50 =>
  fl_td (s' := (9, [.ref 0, .int 0], [], MM50, J)) (fl_n 2 rfl) <|
  lp_51_9 MM50 J (fun u52 =>
   fx_gen (p := fun (MM53 : fl_M) => fl_dn fB51 (61, [.ref 0, u52], [], MM53, J) (none, (lr_51_9 (lr_22_53 15 (lr_22_18 15 (fl_u (fl_u (fl_u M 15 2 0) 15 3 (-9)) 15 4 0)))), J)) (lr_51_9 MM50) (fun MM53 eMM53 =>
    fl_rt rfl (fun _ => rfl) (by subst eMM50; subst eMM53; rfl))))
theorem fr_51_9  {M : fl_M} {c j : Nat} (hc : c < 15 ∨ 15 + 9 ≤ c) : (lr_51_9 M) c j = M c j := by
  have g0 : ¬ c = 15 := by omega
  have g1 : ¬ c = 15 + 1 := by omega
  have g2 : ¬ c = 15 + 2 := by omega
  have g3 : ¬ c = 15 + 3 := by omega
  have g4 : ¬ c = 15 + 4 := by omega
  have g5 : ¬ c = 15 + 5 := by omega
  have g6 : ¬ c = 15 + 6 := by omega
  have g7 : ¬ c = 15 + 7 := by omega
  have g8 : ¬ c = 15 + 8 := by omega
  unfold lr_51_9 lq_51_9
  refine it_k (fun q : fl_M => q c j = M c j) rfl (fun m q hq => ?_)
  unfold ls_51_9
  (try repeat' split) <;> first | with_reducible exact hq | (simp [fl_u, g0, g1, g2, g3, g4, g5, g6, g7, g8, fr_45 hc, hq]; done)
def fB25 : sm_P := (fun pc => sm_ch sm_t25 pc, sm_Kn 2 2 none, fun x => sm_lk sm_ca2 x, some .boolean)
theorem cc_25 (M : fl_M) (J : fl_J) (l : Int32) : fl_C 25 [.ref 0, .int l] M J (some (.int (if (l < 0) ∨ (¬ (l < (M 15 0))) then 1 else 0)), M, J) :=
 fl_Co (B := fB25) rfl rfl <|
 fl_td (s' := (1, [.ref 0, .int l], [.int l], M, J)) (fl_n 1 rfl) <|
 fl_dtwo (fl_if (t := 15) rfl rfl) fl_cT (fun h1 =>
  fl_td (s' := (20, [.ref 0, .int l], [.int 1], M, J)) (fl_n 2 rfl) <|
  fl_rt rfl (fun _ => rfl) (by first | (simp [h1]; done) | (simp_all; done))) (fun h1 =>
  fl_td (s' := (12, [.ref 0, .int l], [.int (M 15 0), .int l], M, J)) (fl_n 4 rfl) <|
  fl_dtwo (fl_ic (t := 19) rfl rfl) fl_cT (fun h2 =>
   fl_td (s' := (20, [.ref 0, .int l], [.int 0], M, J)) (fl_n 1 rfl) <|
   fl_rt rfl (fun _ => rfl) (by first | (simp [h1, h2]; done) | (simp_all; done))) (fun h2 =>
   fl_td (s' := (20, [.ref 0, .int l], [.int 1], M, J)) (fl_n 2 rfl) <|
   fl_rt rfl (fun _ => rfl) (by first | (simp [h1, h2]; done) | (simp_all; done))))
def fB33 : sm_P := (fun pc => sm_ch sm_t33 pc, sm_Kn 2 2 none, fun x => sm_lk sm_ca2 x, some .boolean)
theorem cc_33 (M : fl_M) (J : fl_J) (i : Int32) : fl_C 33 [.ref 0, .int i] M J (some (.int (if (i < 0) ∨ (¬ (i < (M 15 1))) then 1 else 0)), M, J) :=
 fl_Co (B := fB33) rfl rfl <|
 fl_td (s' := (1, [.ref 0, .int i], [.int i], M, J)) (fl_n 1 rfl) <|
 fl_dtwo (fl_if (t := 15) rfl rfl) fl_cT (fun h1 =>
  fl_td (s' := (20, [.ref 0, .int i], [.int 1], M, J)) (fl_n 2 rfl) <|
  fl_rt rfl (fun _ => rfl) (by first | (simp [h1]; done) | (simp_all; done))) (fun h1 =>
  fl_td (s' := (12, [.ref 0, .int i], [.int (M 15 1), .int i], M, J)) (fl_n 4 rfl) <|
  fl_dtwo (fl_ic (t := 19) rfl rfl) fl_cT (fun h2 =>
   fl_td (s' := (20, [.ref 0, .int i], [.int 0], M, J)) (fl_n 1 rfl) <|
   fl_rt rfl (fun _ => rfl) (by first | (simp [h1, h2]; done) | (simp_all; done))) (fun h2 =>
   fl_td (s' := (20, [.ref 0, .int i], [.int 1], M, J)) (fl_n 2 rfl) <|
   fl_rt rfl (fun _ => rfl) (by first | (simp [h1, h2]; done) | (simp_all; done))))
def fB26 : sm_P := (fun pc => sm_ch sm_t26 pc, sm_Kn 2 3 none, fun x => sm_lk sm_ca2 x, some .int)
def v_26 (l wh : Int32) (M : fl_M) : Int32 := (if wh = 0 then M 16 l.toNatClampNeg else (if wh = 1 then M 17 l.toNatClampNeg else (if wh = 2 then M 18 l.toNatClampNeg else (if wh = 3 then M 19 l.toNatClampNeg else (if wh = 4 then ((M 15 4) >>> (l &&& 31)) &&& 1 else (lr_27_4 l 0 15 M))))))
theorem cc_26 (M : fl_M) (J : fl_J) (l wh : Int32) : fl_C 26 [.ref 0, .int l, .int wh] M J (some (.int (v_26 l wh M)), M, J) :=
 fl_Co (B := fB26) rfl rfl <|
 fl_td (s' := (1, [.ref 0, .int l, .int wh], [.int wh], M, J)) (fl_n 1 rfl) <|
 fl_dc (c := wh = 0) (fun h1 =>
  fl_td (s' := (36, [.ref 0, .int l, .int wh], [], M, J)) (fl_sw h1 rfl) <|
  fl_td (s' := (45, [.ref 0, .int l, .int wh], [.int (M 16 l.toNatClampNeg)], M, J)) (fl_n 5 rfl) <|
  fl_rt rfl (fun _ => rfl) (by unfold v_26; first | (simp only [if_pos h1]; done) | rfl)) (fun h1 =>
  fl_dc (c := wh = 1) (fun h2 =>
   fl_td (s' := (46, [.ref 0, .int l, .int wh], [], M, J)) (fl_sw h2 rfl) <|
   fl_td (s' := (55, [.ref 0, .int l, .int wh], [.int (M 17 l.toNatClampNeg)], M, J)) (fl_n 5 rfl) <|
   fl_rt rfl (fun _ => rfl) (by unfold v_26; first | (simp only [if_neg h1, if_pos h2]; done) | rfl)) (fun h2 =>
   fl_dc (c := wh = 2) (fun h3 =>
    fl_td (s' := (56, [.ref 0, .int l, .int wh], [], M, J)) (fl_sw h3 rfl) <|
    fl_td (s' := (65, [.ref 0, .int l, .int wh], [.int (M 18 l.toNatClampNeg)], M, J)) (fl_n 5 rfl) <|
    fl_rt rfl (fun _ => rfl) (by unfold v_26; first | (simp only [if_neg h1, if_neg h2, if_pos h3]; done) | rfl)) (fun h3 =>
    fl_dc (c := wh = 3) (fun h4 =>
     fl_td (s' := (66, [.ref 0, .int l, .int wh], [], M, J)) (fl_sw h4 rfl) <|
     fl_td (s' := (75, [.ref 0, .int l, .int wh], [.int (M 19 l.toNatClampNeg)], M, J)) (fl_n 5 rfl) <|
     fl_rt rfl (fun _ => rfl) (by unfold v_26; first | (simp only [if_neg h1, if_neg h2, if_neg h3, if_pos h4]; done) | rfl)) (fun h4 =>
     fl_dc (c := wh = 4) (fun h5 =>
      fl_td (s' := (76, [.ref 0, .int l, .int wh], [], M, J)) (fl_sw h5 rfl) <|
      fl_td (s' := (87, [.ref 0, .int l, .int wh], [.int (((M 15 4) >>> (l &&& 31)) &&& 1)], M, J)) (fl_n 7 rfl) <|
      fl_rt rfl (fun _ => rfl) (by unfold v_26; first | (simp only [if_neg h1, if_neg h2, if_neg h3, if_neg h4, if_pos h5]; done) | rfl)) (fun h5 =>
      fl_td (s' := (88, [.ref 0, .int l, .int wh], [], M, J)) (fl_swd rfl rfl (by have e0 := fl_ne 0 rfl h1; have e1 := fl_ne 1 rfl h2; have e2 := fl_ne 2 rfl h3; have e3 := fl_ne 3 rfl h4; have e4 := fl_ne 4 rfl h5; omega)) <|
      fl_td (s' := (93, [.ref 0, .int l, .int wh], [.int l, .ref 15], M, J)) (fl_n 3 rfl) <|
      fl_td (s' := (96, [.ref 0, .int l, .int wh], [.int (lr_27_4 l 0 15 M)], M, J)) (fl_cv (o := some (.int (lr_27_4 l 0 15 M))) rfl rfl rfl rfl (cc_27 M J l 15) rfl) <|
      fx_gen (p := fun (II54 : Int32) => fl_dn fB26 (96, [.ref 0, .int l, .int wh], [.int II54], M, J) (some (.int (v_26 l wh M)), M, J)) (lr_27_4 l 0 15 M) (fun II54 eII54 =>
       fl_rt rfl (fun _ => rfl) (by subst eII54; unfold v_26; first | (simp only [if_neg h1, if_neg h2, if_neg h3, if_neg h4, if_neg h5]; done) | rfl)))))))
def fB24 : sm_P := (fun pc => sm_ch sm_t24 pc, sm_Kn 2 3 none, fun x => sm_lk sm_ca2 x, some .int)
def v_24 (l wh : Int32) (M : fl_M) : Int32 := (if (l < 0) ∨ (¬ (l < (M 15 0))) then (-1) else (if wh < 0 then (-1) else (if wh < 6 then 1 else (-1))))
def m_24 (l wh : Int32) (M : fl_M) : fl_M := (if (l < 0) ∨ (¬ (l < (M 15 0))) then M else (if wh < 0 then M else (if wh < 6 then (fl_u M 0 12 (v_26 l wh M)) else M)))
theorem cc_24 (M : fl_M) (J : fl_J) (l wh : Int32) : fl_C 24 [.ref 0, .int l, .int wh] M J (some (.int (v_24 l wh M)), (m_24 l wh M), J) :=
 fl_Co (B := fB24) rfl rfl <|
 fl_td (s' := (2, [.ref 0, .int l, .int wh], [.int l, .ref 0], M, J)) (fl_n 2 rfl) <|
 fl_td (s' := (5, [.ref 0, .int l, .int wh], [.int (if (l < 0) ∨ (¬ (l < (M 15 0))) then 1 else 0)], M, J)) (fl_cv (o := some (.int (if (l < 0) ∨ (¬ (l < (M 15 0))) then 1 else 0))) rfl rfl rfl rfl (cc_25 M J l) rfl) <|
 fl_dtwo (fl_if (t := 18) rfl rfl) fl_b1 (fun h1 =>
  fl_td (s' := (19, [.ref 0, .int l, .int wh], [.int (-1)], M, J)) (fl_n 1 rfl) <|
  fl_rt rfl (fun _ => rfl) (by unfold v_24 m_24; first | (simp only [if_pos h1]; done) | rfl)) (fun h1 =>
  fl_td (s' := (9, [.ref 0, .int l, .int wh], [.int wh], M, J)) (fl_n 1 rfl) <|
  fl_dtwo (fl_if (t := 18) rfl rfl) fl_cT (fun h2 =>
   fl_td (s' := (19, [.ref 0, .int l, .int wh], [.int (-1)], M, J)) (fl_n 1 rfl) <|
   fl_rt rfl (fun _ => rfl) (by unfold v_24 m_24; first | (simp only [if_neg h1, if_pos h2]; done) | rfl)) (fun h2 =>
   fl_td (s' := (15, [.ref 0, .int l, .int wh], [.int 6, .int wh], M, J)) (fl_n 2 rfl) <|
   fl_dtwo (fl_ic (t := 20) rfl rfl) fl_cT (fun h3 =>
    fl_td (s' := (24, [.ref 0, .int l, .int wh], [.int wh, .int l, .ref 0, .ref 0], M, J)) (fl_n 4 rfl) <|
    fl_td (s' := (27, [.ref 0, .int l, .int wh], [.int (v_26 l wh M), .ref 0], M, J)) (fl_cv (o := some (.int (v_26 l wh M))) rfl rfl rfl rfl (cc_26 M J l wh) rfl) <|
    fl_td (s' := (30, [.ref 0, .int l, .int wh], [.int 1], (fl_u M 0 12 (v_26 l wh M)), J)) (fl_cv (o := some (.int 1)) rfl rfl rfl rfl (cc_5 M J (v_26 l wh M)) rfl) <|
    fl_rt rfl (fun _ => rfl) (by unfold v_24 m_24; first | (simp only [if_neg h1, if_neg h2, if_pos h3]; done) | rfl)) (fun h3 =>
    fl_td (s' := (19, [.ref 0, .int l, .int wh], [.int (-1)], M, J)) (fl_n 1 rfl) <|
    fl_rt rfl (fun _ => rfl) (by unfold v_24 m_24; first | (simp only [if_neg h1, if_neg h2, if_neg h3]; done) | rfl))))
