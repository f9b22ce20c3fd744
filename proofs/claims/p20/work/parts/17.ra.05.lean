set_option maxRecDepth 8000 in
theorem ts_133_4 {r : fl_Q} (i1 i2 i3 : Int32) (M : fl_M) (J : fl_J) (q1 : (i3 < (M 81 4)) → (((lr_134_9 0 i3 (-9) 0 M).1) = i1) → fl_dn fB133 (4, [.ref 81, .int i1, .int (i2 ||| ((1 : Int32) <<< (i3 &&& 31))), .int (i3 + 1)], [], M, J) r) (q2 : (i3 < (M 81 4)) → (¬ (((lr_134_9 0 i3 (-9) 0 M).1) = i1)) → fl_dn fB133 (4, [.ref 81, .int i1, .int (i2 ||| 0), .int (i3 + 1)], [], M, J) r) (q3 : (¬ (i3 < (M 81 4))) → fl_dn fB133 (38, [.ref 81, .int i1, .int i2, .int i3], [], M, J) r) : fl_dn fB133 (4, [.ref 81, .int i1, .int i2, .int i3], [], M, J) r :=
 fl_td (s' := (9, [.ref 81, .int i1, .int i2, .int i3], [.int (M 81 4), .int i3], M, J)) (fl_n 3 rfl) <|
 fl_dnot (fl_ic (t := 38) rfl rfl) fl_nlt (fun h1 =>
  fl_td (s' := (16, [.ref 81, .int i1, .int i2, .int i3], [.int i3, .int 0, .ref 81, .int i2], M, J)) (fl_n 4 rfl) <|
  fl_td (s' := (19, [.ref 81, .int i1, .int i2, .int i3], [.int ((lr_134_9 0 i3 (-9) 0 M).1), .int i2], M, J)) (fl_cv (o := some (.int ((lr_134_9 0 i3 (-9) 0 M).1))) rfl rfl rfl rfl (cc_134 M J 0 i3) rfl) <|
  fx_gen (p := fun (II15 : Int32) => fl_dn fB133 (19, [.ref 81, .int i1, .int i2, .int i3], [.int II15, .int i2], M, J) r) ((lr_134_9 0 i3 (-9) 0 M).1) (fun II15 eII15 =>
   fl_td (s' := (20, [.ref 81, .int i1, .int i2, .int i3], [.int i1, .int II15, .int i2], M, J)) (fl_n 1 rfl) <|
   fl_dnot (fl_ic (t := 29) rfl rfl) fl_cF (fun h2 =>
    fl_td (s' := (4, [.ref 81, .int i1, .int (i2 ||| ((1 : Int32) <<< (i3 &&& 31))), .int (i3 + 1)], [], M, J)) (fl_n 8 rfl) <|
    (by subst eII15; exact (q1 h1 h2))) (fun h2 =>
    fl_td (s' := (4, [.ref 81, .int i1, .int (i2 ||| 0), .int (i3 + 1)], [], M, J)) (fl_n 5 rfl) <|
    (by subst eII15; exact (q2 h1 h2))))) (fun h1 =>
  (q3 h1))
theorem lp_133_4 {r : fl_Q} (i1 i2 : Int32) (M : fl_M) (J : fl_J) (hx : ∀ w3 : Value, fl_dn fB133 (38, [.ref 81, .int i1, .int (lr_133_4 i1 i2 M), w3], [], M, J) r) : fl_dn fB133 (4, [.ref 81, .int i1, .int i2, .int 0], [], M, J) r := by
  have hb := fi_bd (M 81 4)
  have key : ∀ (n m : Nat), m + n = ((M 81 4)).toNatClampNeg → fl_dn fB133 (4, [.ref 81, .int i1, .int (lq_133_4 i1 i2 M m), .int (Int32.ofNat m)], [], M, J) r := by
    intro n
    induction n with
    | zero =>
      intro m hm
      have hm : m = ((M 81 4)).toNatClampNeg := by omega
      have hn : ¬ ((Int32.ofNat m) < (M 81 4)) := fun z => by have z := (fi_lt (by omega)).mp z; omega
      exact ts_133_4 i1 (lq_133_4 i1 i2 M m) (Int32.ofNat m) M J (fun h1 h2 => absurd h1 hn) (fun h1 h2 => absurd h1 hn) (fun h1 => (by have e : lr_133_4 i1 i2 M = lq_133_4 i1 i2 M m := (by show lq_133_4 i1 i2 M (((M 81 4)).toNatClampNeg) = _; rw [← hm]); rw [e] at hx; exact hx _))
    | succ n ih =>
      intro m hm
      have hp : (Int32.ofNat m) < (M 81 4) := by exact (fi_lt (by omega)).mpr (by omega)
      refine ts_133_4 i1 (lq_133_4 i1 i2 M m) (Int32.ofNat m) M J (fun h1 h2 => ?_) (fun h1 h2 => ?_) (fun h1 => absurd hp h1)
      · have e : lq_133_4 i1 i2 M (m + 1) = ((lq_133_4 i1 i2 M m) ||| ((1 : Int32) <<< ((Int32.ofNat m) &&& 31))) := by
          rw [lqs_133_4]
          unfold ls_133_4
          simp only [if_pos h2]
        have q := ih (m + 1) (by omega)
        rw [e] at q
        first | (rw [fi_s]; exact q) | (rw [← fi_s] at q; exact q) | (simp only [fi_s] at q ⊢; exact q)
      · have e : lq_133_4 i1 i2 M (m + 1) = ((lq_133_4 i1 i2 M m) ||| 0) := by
          rw [lqs_133_4]
          unfold ls_133_4
          simp only [if_neg h2]
        have q := ih (m + 1) (by omega)
        rw [e] at q
        first | (rw [fi_s]; exact q) | (rw [← fi_s] at q; exact q) | (simp only [fi_s] at q ⊢; exact q)
  exact key (((M 81 4)).toNatClampNeg) 0 (Nat.zero_add _)
set_option maxRecDepth 8000 in
theorem cc_133 (M : fl_M) (J : fl_J) (l : Int32) : fl_C 133 [.ref 81, .int l] M J (some (.int (lr_133_4 l 0 M)), M, J) :=
 fl_Co (B := fB133) rfl rfl <|
 fl_td (s' := (4, [.ref 81, .int l, .int 0, .int 0], [], M, J)) (fl_n 4 rfl) <|
 lp_133_4 l 0 M J (fun u16 =>
  fx_gen (p := fun (II17 : Int32) => fl_dn fB133 (38, [.ref 81, .int l, .int II17, u16], [], M, J) (some (.int (lr_133_4 l 0 M)), M, J)) (lr_133_4 l 0 M) (fun II17 eII17 =>
   fl_td (s' := (39, [.ref 81, .int l, .int II17, u16], [.int II17], M, J)) (fl_n 1 rfl) <|
   fl_rt rfl (fun _ => rfl) (by subst eII17; rfl)))
def fB132 : sm_P := (fun pc => sm_ch sm_t132 pc, sm_Kn 3 3 none, fun x => sm_lk sm_ca3 x, some .int)
def v_132 (l wh : Int32) (M : fl_M) : Int32 := (if wh = 0 then M 83 l.toNatClampNeg else (if wh = 1 then M 84 l.toNatClampNeg else (if wh = 2 then M 82 ((4 + l).toNatClampNeg) else (if wh = 3 then M 82 ((12 + l).toNatClampNeg) else (if wh = 4 then ((M 82 3) >>> (l &&& 31)) &&& 1 else (lr_133_4 l 0 M))))))
set_option maxRecDepth 8000 in
theorem cc_132 (M : fl_M) (J : fl_J) (l wh : Int32) : fl_C 132 [.ref 81, .int l, .int wh] M J (some (.int (v_132 l wh M)), M, J) :=
 fl_Co (B := fB132) rfl rfl <|
 fl_td (s' := (1, [.ref 81, .int l, .int wh], [.int wh], M, J)) (fl_n 1 rfl) <|
 fl_dc (c := wh = 0) (fun h1 =>
  fl_td (s' := (36, [.ref 81, .int l, .int wh], [], M, J)) (fl_sw h1 rfl) <|
  fl_td (s' := (42, [.ref 81, .int l, .int wh], [.int (M 83 l.toNatClampNeg)], M, J)) (fl_n 4 rfl) <|
  fl_rt rfl (fun _ => rfl) (by unfold v_132; first | (simp only [if_pos h1]; done) | rfl)) (fun h1 =>
  fl_dc (c := wh = 1) (fun h2 =>
   fl_td (s' := (43, [.ref 81, .int l, .int wh], [], M, J)) (fl_sw h2 rfl) <|
   fl_td (s' := (49, [.ref 81, .int l, .int wh], [.int (M 84 l.toNatClampNeg)], M, J)) (fl_n 4 rfl) <|
   fl_rt rfl (fun _ => rfl) (by unfold v_132; first | (simp only [if_neg h1, if_pos h2]; done) | rfl)) (fun h2 =>
   fl_dc (c := wh = 2) (fun h3 =>
    fl_td (s' := (50, [.ref 81, .int l, .int wh], [], M, J)) (fl_sw h3 rfl) <|
    fl_td (s' := (58, [.ref 81, .int l, .int wh], [.int (M 82 ((4 + l).toNatClampNeg))], M, J)) (fl_n 6 rfl) <|
    fl_rt rfl (fun _ => rfl) (by unfold v_132; first | (simp only [if_neg h1, if_neg h2, if_pos h3]; done) | rfl)) (fun h3 =>
    fl_dc (c := wh = 3) (fun h4 =>
     fl_td (s' := (59, [.ref 81, .int l, .int wh], [], M, J)) (fl_sw h4 rfl) <|
     fl_td (s' := (68, [.ref 81, .int l, .int wh], [.int (M 82 ((12 + l).toNatClampNeg))], M, J)) (fl_n 6 rfl) <|
     fl_rt rfl (fun _ => rfl) (by unfold v_132; first | (simp only [if_neg h1, if_neg h2, if_neg h3, if_pos h4]; done) | rfl)) (fun h4 =>
     fl_dc (c := wh = 4) (fun h5 =>
      fl_td (s' := (69, [.ref 81, .int l, .int wh], [], M, J)) (fl_sw h5 rfl) <|
      fl_td (s' := (79, [.ref 81, .int l, .int wh], [.int (((M 82 3) >>> (l &&& 31)) &&& 1)], M, J)) (fl_n 8 rfl) <|
      fl_rt rfl (fun _ => rfl) (by unfold v_132; first | (simp only [if_neg h1, if_neg h2, if_neg h3, if_neg h4, if_pos h5]; done) | rfl)) (fun h5 =>
      fl_td (s' := (80, [.ref 81, .int l, .int wh], [], M, J)) (fl_swd rfl rfl (by have e0 := fl_ne 0 rfl h1; have e1 := fl_ne 1 rfl h2; have e2 := fl_ne 2 rfl h3; have e3 := fl_ne 3 rfl h4; have e4 := fl_ne 4 rfl h5; omega)) <|
      fl_td (s' := (82, [.ref 81, .int l, .int wh], [.int l, .ref 81], M, J)) (fl_n 2 rfl) <|
      fl_td (s' := (85, [.ref 81, .int l, .int wh], [.int (lr_133_4 l 0 M)], M, J)) (fl_cv (o := some (.int (lr_133_4 l 0 M))) rfl rfl rfl rfl (cc_133 M J l) rfl) <|
      fx_gen (p := fun (II18 : Int32) => fl_dn fB132 (85, [.ref 81, .int l, .int wh], [.int II18], M, J) (some (.int (v_132 l wh M)), M, J)) (lr_133_4 l 0 M) (fun II18 eII18 =>
       fl_rt rfl (fun _ => rfl) (by subst eII18; unfold v_132; first | (simp only [if_neg h1, if_neg h2, if_neg h3, if_neg h4, if_neg h5]; done) | rfl)))))))
def fB130 : sm_P := (fun pc => sm_ch sm_t130 pc, sm_Kn 3 3 none, fun x => sm_lk sm_ca3 x, some .int)
def v_130 (l wh : Int32) (M : fl_M) : Int32 := (if (¬ (l < 0)) ∧ (¬ ((M 81 1) - 1 < l)) then (if (¬ (wh < 0)) ∧ (¬ (5 < wh)) then 1 else (-1)) else (-1))
def m_130 (l wh : Int32) (M : fl_M) : fl_M := (if (¬ (l < 0)) ∧ (¬ ((M 81 1) - 1 < l)) then (if (¬ (wh < 0)) ∧ (¬ (5 < wh)) then (fl_u M 81 11 (v_132 l wh M)) else M) else M)
set_option maxRecDepth 8000 in
theorem cc_130 (M : fl_M) (J : fl_J) (l wh : Int32) : fl_C 130 [.ref 81, .int l, .int wh] M J (some (.int (v_130 l wh M)), (m_130 l wh M), J) :=
 fl_Co (B := fB130) rfl rfl <|
 fl_td (s' := (2, [.ref 81, .int l, .int wh], [.int l, .ref 81], M, J)) (fl_n 2 rfl) <|
 fl_td (s' := (5, [.ref 81, .int l, .int wh], [.int (if (¬ (l < 0)) ∧ (¬ ((M 81 1) - 1 < l)) then 1 else 0)], M, J)) (fl_cv (o := some (.int (if (¬ (l < 0)) ∧ (¬ ((M 81 1) - 1 < l)) then 1 else 0))) rfl rfl rfl rfl (cc_131 M J l) rfl) <|
 fl_dnot (fl_if (t := 33) rfl rfl) fl_b0 (fun h1 =>
  fl_td (s' := (14, [.ref 81, .int l, .int wh], [.long 5, .long 0, .long wh.toInt64], M, J)) (fl_n 4 rfl) <|
  fl_td (s' := (17, [.ref 81, .int l, .int wh], [.int (if (¬ (wh < 0)) ∧ (¬ (5 < wh)) then 1 else 0)], M, J)) (fl_cs (o := some (.int (if (¬ (wh < 0)) ∧ (¬ (5 < wh)) then 1 else 0))) rfl rfl rfl (cc_105i M J wh 0 5) rfl) <|
  fl_dnot (fl_if (t := 33) rfl rfl) fl_b0 (fun h2 =>
   fl_td (s' := (24, [.ref 81, .int l, .int wh], [.int wh, .int l, .ref 81, .ref 81], M, J)) (fl_n 4 rfl) <|
   fl_td (s' := (27, [.ref 81, .int l, .int wh], [.int (v_132 l wh M), .ref 81], M, J)) (fl_cv (o := some (.int (v_132 l wh M))) rfl rfl rfl rfl (cc_132 M J l wh) rfl) <|
   fl_td (s' := (30, [.ref 81, .int l, .int wh], [.int 1], (fl_u M 81 11 (v_132 l wh M)), J)) (fl_cv (o := some (.int 1)) rfl rfl rfl rfl (cc_110 M J (v_132 l wh M)) rfl) <|
   fl_td (s' := (34, [.ref 81, .int l, .int wh], [.int 1], (fl_u M 81 11 (v_132 l wh M)), J)) (fl_n 1 rfl) <|
   fl_rt rfl (fun _ => rfl) (by unfold v_130 m_130; first | (simp only [if_pos h1, if_pos h2]; done) | rfl)) (fun h2 =>
   fl_td (s' := (34, [.ref 81, .int l, .int wh], [.int (-1)], M, J)) (fl_n 1 rfl) <|
   fl_rt rfl (fun _ => rfl) (by unfold v_130 m_130; first | (simp only [if_pos h1, if_neg h2]; done) | rfl))) (fun h1 =>
  fl_td (s' := (34, [.ref 81, .int l, .int wh], [.int (-1)], M, J)) (fl_n 1 rfl) <|
  fl_rt rfl (fun _ => rfl) (by unfold v_130 m_130; first | (simp only [if_neg h1]; done) | rfl))
def fB141 : sm_P := (fun pc => sm_ch sm_t141 pc, sm_Kn 3 3 none, fun x => sm_lk sm_ca3 x, some .int)
def v_141 (i wh : Int32) (M : fl_M) : Int32 := (if wh = 0 then M 85 i.toNatClampNeg else (if wh = 1 then M 82 ((20 + i).toNatClampNeg) else (if wh = 2 then M 86 i.toNatClampNeg else (if wh = 3 then v_142 i M else ((lr_134_9 0 i (-9) 0 M).1)))))
set_option maxRecDepth 8000 in
theorem cc_141 (M : fl_M) (J : fl_J) (i wh : Int32) : fl_C 141 [.ref 81, .int i, .int wh] M J (some (.int (v_141 i wh M)), M, J) :=
 fl_Co (B := fB141) rfl rfl <|
 fl_td (s' := (1, [.ref 81, .int i, .int wh], [.int wh], M, J)) (fl_n 1 rfl) <|
 fl_dc (c := wh = 0) (fun h1 =>
  fl_td (s' := (32, [.ref 81, .int i, .int wh], [], M, J)) (fl_sw h1 rfl) <|
  fl_td (s' := (38, [.ref 81, .int i, .int wh], [.int (M 85 i.toNatClampNeg)], M, J)) (fl_n 4 rfl) <|
  fl_rt rfl (fun _ => rfl) (by unfold v_141; first | (simp only [if_pos h1]; done) | rfl)) (fun h1 =>
  fl_dc (c := wh = 1) (fun h2 =>
   fl_td (s' := (39, [.ref 81, .int i, .int wh], [], M, J)) (fl_sw h2 rfl) <|
   fl_td (s' := (48, [.ref 81, .int i, .int wh], [.int (M 82 ((20 + i).toNatClampNeg))], M, J)) (fl_n 6 rfl) <|
   fl_rt rfl (fun _ => rfl) (by unfold v_141; first | (simp only [if_neg h1, if_pos h2]; done) | rfl)) (fun h2 =>
   fl_dc (c := wh = 2) (fun h3 =>
    fl_td (s' := (49, [.ref 81, .int i, .int wh], [], M, J)) (fl_sw h3 rfl) <|
    fl_td (s' := (55, [.ref 81, .int i, .int wh], [.int (M 86 i.toNatClampNeg)], M, J)) (fl_n 4 rfl) <|
    fl_rt rfl (fun _ => rfl) (by unfold v_141; first | (simp only [if_neg h1, if_neg h2, if_pos h3]; done) | rfl)) (fun h3 =>
    fl_dc (c := wh = 3) (fun h4 =>
     fl_td (s' := (56, [.ref 81, .int i, .int wh], [], M, J)) (fl_sw h4 rfl) <|
     fl_td (s' := (58, [.ref 81, .int i, .int wh], [.int i, .ref 81], M, J)) (fl_n 2 rfl) <|
     fl_td (s' := (61, [.ref 81, .int i, .int wh], [.int (v_142 i M)], M, J)) (fl_cv (o := some (.int (v_142 i M))) rfl rfl rfl rfl (cc_142 M J i) rfl) <|
     fl_rt rfl (fun _ => rfl) (by unfold v_141; first | (simp only [if_neg h1, if_neg h2, if_neg h3, if_pos h4]; done) | rfl)) (fun h4 =>
     fl_td (s' := (62, [.ref 81, .int i, .int wh], [], M, J)) (fl_swd rfl rfl (by have e0 := fl_ne 0 rfl h1; have e1 := fl_ne 1 rfl h2; have e2 := fl_ne 2 rfl h3; have e3 := fl_ne 3 rfl h4; omega)) <|
     fl_td (s' := (65, [.ref 81, .int i, .int wh], [.int i, .int 0, .ref 81], M, J)) (fl_n 3 rfl) <|
     fl_td (s' := (68, [.ref 81, .int i, .int wh], [.int ((lr_134_9 0 i (-9) 0 M).1)], M, J)) (fl_cv (o := some (.int ((lr_134_9 0 i (-9) 0 M).1))) rfl rfl rfl rfl (cc_134 M J 0 i) rfl) <|
     fx_gen (p := fun (II19 : Int32) => fl_dn fB141 (68, [.ref 81, .int i, .int wh], [.int II19], M, J) (some (.int (v_141 i wh M)), M, J)) ((lr_134_9 0 i (-9) 0 M).1) (fun II19 eII19 =>
      fl_rt rfl (fun _ => rfl) (by subst eII19; unfold v_141; first | (simp only [if_neg h1, if_neg h2, if_neg h3, if_neg h4]; done) | rfl))))))
