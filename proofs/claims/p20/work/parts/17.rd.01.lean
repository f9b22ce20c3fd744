theorem lp_196_4 {r : fl_Q} (i1 i2 : Int32) (M : fl_M) (J : fl_J) (hx : ∀ w3 : Value, fl_dn fB196 (97, [.ref 81, .int i1, .int (lr_196_4 i1 i2 M), w3], [], M, J) r) : fl_dn fB196 (4, [.ref 81, .int i1, .int i2, .int 0], [], M, J) r := by
  have hb : (6 : Int32).toNatClampNeg = 6 := rfl
  have key : ∀ (n m : Nat), m + n = 6 → fl_dn fB196 (4, [.ref 81, .int i1, .int (lq_196_4 i1 i2 M m), .int (Int32.ofNat m)], [], M, J) r := by
    intro n
    induction n with
    | zero =>
      intro m hm
      have hm : m = 6 := by omega
      have hn : ¬ ((Int32.ofNat m) < 6) := fun z => by have z := (fi_lt (by omega)).mp z; omega
      exact ts_196_4 i1 (lq_196_4 i1 i2 M m) (Int32.ofNat m) M J (fun h1 h2 h3 => absurd h1 hn) (fun h1 h2 h3 => absurd h1 hn) (fun h1 h2 h4 h5 h6 => absurd h1 hn) (fun h1 h2 h4 h5 h6 => absurd h1 hn) (fun h1 h2 h4 h5 => absurd h1 hn) (fun h1 h2 h4 h7 h8 => absurd h1 hn) (fun h1 h2 h4 h7 h8 => absurd h1 hn) (fun h1 h2 h4 h7 => absurd h1 hn) (fun h1 => (by have e : lr_196_4 i1 i2 M = lq_196_4 i1 i2 M m := (by show lq_196_4 i1 i2 M (6) = _; rw [← hm]); rw [e] at hx; exact hx _))
    | succ n ih =>
      intro m hm
      have hp : (Int32.ofNat m) < 6 := by exact (fi_lt (by omega)).mpr (by omega)
      refine ts_196_4 i1 (lq_196_4 i1 i2 M m) (Int32.ofNat m) M J (fun h1 h2 h3 => ?_) (fun h1 h2 h3 => ?_) (fun h1 h2 h4 h5 h6 => ?_) (fun h1 h2 h4 h5 h6 => ?_) (fun h1 h2 h4 h5 => ?_) (fun h1 h2 h4 h7 h8 => ?_) (fun h1 h2 h4 h7 h8 => ?_) (fun h1 h2 h4 h7 => ?_) (fun h1 => absurd hp h1)
      · have e : lq_196_4 i1 i2 M (m + 1) = ((lq_196_4 i1 i2 M m) + 0) := by
          rw [lqs_196_4]
          unfold ls_196_4
          simp only [if_pos h2, if_pos h3]
        have q := ih (m + 1) (by omega)
        rw [e] at q
        first | (rw [fi_s]; exact q) | (rw [← fi_s] at q; exact q) | (simp only [fi_s] at q ⊢; exact q)
      · have e : lq_196_4 i1 i2 M (m + 1) = ((lq_196_4 i1 i2 M m) + 1) := by
          rw [lqs_196_4]
          unfold ls_196_4
          simp only [if_pos h2, if_neg h3]
        have q := ih (m + 1) (by omega)
        rw [e] at q
        first | (rw [fi_s]; exact q) | (rw [← fi_s] at q; exact q) | (simp only [fi_s] at q ⊢; exact q)
      · have e : lq_196_4 i1 i2 M (m + 1) = ((lq_196_4 i1 i2 M m) + 0) := by
          rw [lqs_196_4]
          unfold ls_196_4
          simp only [if_neg h2, if_pos h4, if_pos h5, if_pos h6]
        have q := ih (m + 1) (by omega)
        rw [e] at q
        first | (rw [fi_s]; exact q) | (rw [← fi_s] at q; exact q) | (simp only [fi_s] at q ⊢; exact q)
      · have e : lq_196_4 i1 i2 M (m + 1) = ((lq_196_4 i1 i2 M m) + 1) := by
          rw [lqs_196_4]
          unfold ls_196_4
          simp only [if_neg h2, if_pos h4, if_pos h5, if_neg h6]
        have q := ih (m + 1) (by omega)
        rw [e] at q
        first | (rw [fi_s]; exact q) | (rw [← fi_s] at q; exact q) | (simp only [fi_s] at q ⊢; exact q)
      · have e : lq_196_4 i1 i2 M (m + 1) = ((lq_196_4 i1 i2 M m) + 0) := by
          rw [lqs_196_4]
          unfold ls_196_4
          simp only [if_neg h2, if_pos h4, if_neg h5]
        have q := ih (m + 1) (by omega)
        rw [e] at q
        first | (rw [fi_s]; exact q) | (rw [← fi_s] at q; exact q) | (simp only [fi_s] at q ⊢; exact q)
      · have e : lq_196_4 i1 i2 M (m + 1) = ((lq_196_4 i1 i2 M m) + 0) := by
          rw [lqs_196_4]
          unfold ls_196_4
          simp only [if_neg h2, if_neg h4, if_pos h7, if_pos h8]
        have q := ih (m + 1) (by omega)
        rw [e] at q
        first | (rw [fi_s]; exact q) | (rw [← fi_s] at q; exact q) | (simp only [fi_s] at q ⊢; exact q)
      · have e : lq_196_4 i1 i2 M (m + 1) = ((lq_196_4 i1 i2 M m) + 1) := by
          rw [lqs_196_4]
          unfold ls_196_4
          simp only [if_neg h2, if_neg h4, if_pos h7, if_neg h8]
        have q := ih (m + 1) (by omega)
        rw [e] at q
        first | (rw [fi_s]; exact q) | (rw [← fi_s] at q; exact q) | (simp only [fi_s] at q ⊢; exact q)
      · have e : lq_196_4 i1 i2 M (m + 1) = ((lq_196_4 i1 i2 M m) + 0) := by
          rw [lqs_196_4]
          unfold ls_196_4
          simp only [if_neg h2, if_neg h4, if_neg h7]
        have q := ih (m + 1) (by omega)
        rw [e] at q
        first | (rw [fi_s]; exact q) | (rw [← fi_s] at q; exact q) | (simp only [fi_s] at q ⊢; exact q)
  exact key (6) 0 (Nat.zero_add _)
set_option maxRecDepth 8000 in
theorem cc_196 (M : fl_M) (J : fl_J) (wh : Int32) : fl_C 196 [.ref 81, .int wh] M J (some (.int (lr_196_4 wh 0 M)), M, J) :=
 fl_Co (B := fB196) rfl rfl <|
 fl_td (s' := (4, [.ref 81, .int wh, .int 0, .int 0], [], M, J)) (fl_n 4 rfl) <|
 lp_196_4 wh 0 M J (fun u137 =>
  fx_gen (p := fun (II138 : Int32) => fl_dn fB196 (97, [.ref 81, .int wh, .int II138, u137], [], M, J) (some (.int (lr_196_4 wh 0 M)), M, J)) (lr_196_4 wh 0 M) (fun II138 eII138 =>
   fl_td (s' := (98, [.ref 81, .int wh, .int II138, u137], [.int II138], M, J)) (fl_n 1 rfl) <|
   fl_rt rfl (fun _ => rfl) (by subst eII138; rfl)))
def fB194 : sm_P := (fun pc => sm_ch sm_t194 pc, sm_Kn 3 2 none, fun x => sm_lk sm_ca3 x, some .int)
def v_194 (wh : Int32) (M : fl_M) : Int32 := (if wh = 0 then M 81 1 else (if wh = 1 then M 81 4 else (if wh = 2 then M 82 1 else (if wh = 3 then M 82 0 else (if wh = 4 then (lr_168_4 0 0 M) else (if wh = 5 then (lr_163_4 0 0 M) else (if wh = 6 then M 82 3 else (if wh = 7 then M 82 2 else (if wh = 8 then (lr_147_4 0 M) else (if wh = 9 then (lr_195_4 2 0 M) else (if wh = 10 then (lr_195_4 3 0 M) else (lr_196_4 wh 0 M))))))))))))
set_option maxRecDepth 8000 in
theorem cc_194 (M : fl_M) (J : fl_J) (wh : Int32) : fl_C 194 [.ref 81, .int wh] M J (some (.int (v_194 wh M)), M, J) :=
 fl_Co (B := fB194) rfl rfl <|
 fl_td (s' := (1, [.ref 81, .int wh], [.int wh], M, J)) (fl_n 1 rfl) <|
 fl_dc (c := wh = 0) (fun h1 =>
  fl_td (s' := (60, [.ref 81, .int wh], [], M, J)) (fl_sw h1 rfl) <|
  fl_td (s' := (64, [.ref 81, .int wh], [.int (M 81 1)], M, J)) (fl_n 2 rfl) <|
  fl_rt rfl (fun _ => rfl) (by unfold v_194; first | (simp only [if_pos h1]; done) | rfl)) (fun h1 =>
  fl_dc (c := wh = 1) (fun h2 =>
   fl_td (s' := (65, [.ref 81, .int wh], [], M, J)) (fl_sw h2 rfl) <|
   fl_td (s' := (69, [.ref 81, .int wh], [.int (M 81 4)], M, J)) (fl_n 2 rfl) <|
   fl_rt rfl (fun _ => rfl) (by unfold v_194; first | (simp only [if_neg h1, if_pos h2]; done) | rfl)) (fun h2 =>
   fl_dc (c := wh = 2) (fun h3 =>
    fl_td (s' := (70, [.ref 81, .int wh], [], M, J)) (fl_sw h3 rfl) <|
    fl_td (s' := (76, [.ref 81, .int wh], [.int (M 82 1)], M, J)) (fl_n 4 rfl) <|
    fl_rt rfl (fun _ => rfl) (by unfold v_194; first | (simp only [if_neg h1, if_neg h2, if_pos h3]; done) | rfl)) (fun h3 =>
    fl_dc (c := wh = 3) (fun h4 =>
     fl_td (s' := (77, [.ref 81, .int wh], [], M, J)) (fl_sw h4 rfl) <|
     fl_td (s' := (83, [.ref 81, .int wh], [.int (M 82 0)], M, J)) (fl_n 4 rfl) <|
     fl_rt rfl (fun _ => rfl) (by unfold v_194; first | (simp only [if_neg h1, if_neg h2, if_neg h3, if_pos h4]; done) | rfl)) (fun h4 =>
     fl_dc (c := wh = 4) (fun h5 =>
      fl_td (s' := (84, [.ref 81, .int wh], [], M, J)) (fl_sw h5 rfl) <|
      fl_td (s' := (86, [.ref 81, .int wh], [.int 0, .ref 81], M, J)) (fl_n 2 rfl) <|
      fl_td (s' := (89, [.ref 81, .int wh], [.int (lr_168_4 0 0 M)], M, J)) (fl_cv (o := some (.int (lr_168_4 0 0 M))) rfl rfl rfl rfl (cc_168 M J 0) rfl) <|
      fx_gen (p := fun (II139 : Int32) => fl_dn fB194 (89, [.ref 81, .int wh], [.int II139], M, J) (some (.int (v_194 wh M)), M, J)) (lr_168_4 0 0 M) (fun II139 eII139 =>
       fl_rt rfl (fun _ => rfl) (by subst eII139; unfold v_194; first | (simp only [if_neg h1, if_neg h2, if_neg h3, if_neg h4, if_pos h5]; done) | rfl))) (fun h5 =>
      fl_dc (c := wh = 5) (fun h6 =>
       fl_td (s' := (90, [.ref 81, .int wh], [], M, J)) (fl_sw h6 rfl) <|
       fl_td (s' := (92, [.ref 81, .int wh], [.int 0, .ref 81], M, J)) (fl_n 2 rfl) <|
       fl_td (s' := (95, [.ref 81, .int wh], [.int (lr_163_4 0 0 M)], M, J)) (fl_cv (o := some (.int (lr_163_4 0 0 M))) rfl rfl rfl rfl (cc_163 M J 0) rfl) <|
       fx_gen (p := fun (II140 : Int32) => fl_dn fB194 (95, [.ref 81, .int wh], [.int II140], M, J) (some (.int (v_194 wh M)), M, J)) (lr_163_4 0 0 M) (fun II140 eII140 =>
        fl_rt rfl (fun _ => rfl) (by subst eII140; unfold v_194; first | (simp only [if_neg h1, if_neg h2, if_neg h3, if_neg h4, if_neg h5, if_pos h6]; done) | rfl))) (fun h6 =>
       fl_dc (c := wh = 6) (fun h7 =>
        fl_td (s' := (96, [.ref 81, .int wh], [], M, J)) (fl_sw h7 rfl) <|
        fl_td (s' := (102, [.ref 81, .int wh], [.int (M 82 3)], M, J)) (fl_n 4 rfl) <|
        fl_rt rfl (fun _ => rfl) (by unfold v_194; first | (simp only [if_neg h1, if_neg h2, if_neg h3, if_neg h4, if_neg h5, if_neg h6, if_pos h7]; done) | rfl)) (fun h7 =>
        fl_dc (c := wh = 7) (fun h8 =>
         fl_td (s' := (103, [.ref 81, .int wh], [], M, J)) (fl_sw h8 rfl) <|
         fl_td (s' := (109, [.ref 81, .int wh], [.int (M 82 2)], M, J)) (fl_n 4 rfl) <|
         fl_rt rfl (fun _ => rfl) (by unfold v_194; first | (simp only [if_neg h1, if_neg h2, if_neg h3, if_neg h4, if_neg h5, if_neg h6, if_neg h7, if_pos h8]; done) | rfl)) (fun h8 =>
         fl_dc (c := wh = 8) (fun h9 =>
          fl_td (s' := (110, [.ref 81, .int wh], [], M, J)) (fl_sw h9 rfl) <|
          fl_td (s' := (111, [.ref 81, .int wh], [.ref 81], M, J)) (fl_n 1 rfl) <|
          fl_td (s' := (114, [.ref 81, .int wh], [.int (lr_147_4 0 M)], M, J)) (fl_cv (o := some (.int (lr_147_4 0 M))) rfl rfl rfl rfl (cc_147 M J) rfl) <|
          fx_gen (p := fun (II141 : Int32) => fl_dn fB194 (114, [.ref 81, .int wh], [.int II141], M, J) (some (.int (v_194 wh M)), M, J)) (lr_147_4 0 M) (fun II141 eII141 =>
           fl_rt rfl (fun _ => rfl) (by subst eII141; unfold v_194; first | (simp only [if_neg h1, if_neg h2, if_neg h3, if_neg h4, if_neg h5, if_neg h6, if_neg h7, if_neg h8, if_pos h9]; done) | rfl))) (fun h9 =>
          fl_dc (c := wh = 9) (fun h10 =>
           fl_td (s' := (115, [.ref 81, .int wh], [], M, J)) (fl_sw h10 rfl) <|
           fl_td (s' := (117, [.ref 81, .int wh], [.int 2, .ref 81], M, J)) (fl_n 2 rfl) <|
           fl_td (s' := (120, [.ref 81, .int wh], [.int (lr_195_4 2 0 M)], M, J)) (fl_cv (o := some (.int (lr_195_4 2 0 M))) rfl rfl rfl rfl (cc_195 M J 2) rfl) <|
           fx_gen (p := fun (II142 : Int32) => fl_dn fB194 (120, [.ref 81, .int wh], [.int II142], M, J) (some (.int (v_194 wh M)), M, J)) (lr_195_4 2 0 M) (fun II142 eII142 =>
            fl_rt rfl (fun _ => rfl) (by subst eII142; unfold v_194; first | (simp only [if_neg h1, if_neg h2, if_neg h3, if_neg h4, if_neg h5, if_neg h6, if_neg h7, if_neg h8, if_neg h9, if_pos h10]; done) | rfl))) (fun h10 =>
           fl_dc (c := wh = 10) (fun h11 =>
            fl_td (s' := (121, [.ref 81, .int wh], [], M, J)) (fl_sw h11 rfl) <|
            fl_td (s' := (123, [.ref 81, .int wh], [.int 3, .ref 81], M, J)) (fl_n 2 rfl) <|
            fl_td (s' := (126, [.ref 81, .int wh], [.int (lr_195_4 3 0 M)], M, J)) (fl_cv (o := some (.int (lr_195_4 3 0 M))) rfl rfl rfl rfl (cc_195 M J 3) rfl) <|
            fx_gen (p := fun (II143 : Int32) => fl_dn fB194 (126, [.ref 81, .int wh], [.int II143], M, J) (some (.int (v_194 wh M)), M, J)) (lr_195_4 3 0 M) (fun II143 eII143 =>
             fl_rt rfl (fun _ => rfl) (by subst eII143; unfold v_194; first | (simp only [if_neg h1, if_neg h2, if_neg h3, if_neg h4, if_neg h5, if_neg h6, if_neg h7, if_neg h8, if_neg h9, if_neg h10, if_pos h11]; done) | rfl))) (fun h11 =>
            fl_td (s' := (127, [.ref 81, .int wh], [], M, J)) (fl_swd rfl rfl (by have e0 := fl_ne 0 rfl h1; have e1 := fl_ne 1 rfl h2; have e2 := fl_ne 2 rfl h3; have e3 := fl_ne 3 rfl h4; have e4 := fl_ne 4 rfl h5; have e5 := fl_ne 5 rfl h6; have e6 := fl_ne 6 rfl h7; have e7 := fl_ne 7 rfl h8; have e8 := fl_ne 8 rfl h9; have e9 := fl_ne 9 rfl h10; have e10 := fl_ne 10 rfl h11; omega)) <|
            fl_td (s' := (129, [.ref 81, .int wh], [.int wh, .ref 81], M, J)) (fl_n 2 rfl) <|
            fl_td (s' := (132, [.ref 81, .int wh], [.int (lr_196_4 wh 0 M)], M, J)) (fl_cv (o := some (.int (lr_196_4 wh 0 M))) rfl rfl rfl rfl (cc_196 M J wh) rfl) <|
            fx_gen (p := fun (II144 : Int32) => fl_dn fB194 (132, [.ref 81, .int wh], [.int II144], M, J) (some (.int (v_194 wh M)), M, J)) (lr_196_4 wh 0 M) (fun II144 eII144 =>
             fl_rt rfl (fun _ => rfl) (by subst eII144; unfold v_194; first | (simp only [if_neg h1, if_neg h2, if_neg h3, if_neg h4, if_neg h5, if_neg h6, if_neg h7, if_neg h8, if_neg h9, if_neg h10, if_neg h11]; done) | rfl)))))))))))))
def fB193 : sm_P := (fun pc => sm_ch sm_t193 pc, sm_Kn 3 2 none, fun x => sm_lk sm_ca3 x, some .int)
set_option maxRecDepth 8000 in
theorem cc_193 (M : fl_M) (J : fl_J) (wh : Int32) : fl_C 193 [.ref 81, .int wh] M J (some (.int (if (¬ (wh < 0)) ∧ (¬ (13 < wh)) then v_194 wh M else (-1))), M, J) :=
 fl_Co (B := fB193) rfl rfl <|
 fl_td (s' := (6, [.ref 81, .int wh], [.long 13, .long 0, .long wh.toInt64], M, J)) (fl_n 4 rfl) <|
 fl_td (s' := (9, [.ref 81, .int wh], [.int (if (¬ (wh < 0)) ∧ (¬ (13 < wh)) then 1 else 0)], M, J)) (fl_cs (o := some (.int (if (¬ (wh < 0)) ∧ (¬ (13 < wh)) then 1 else 0))) rfl rfl rfl (cc_105i M J wh 0 13) rfl) <|
 fl_dnot (fl_if (t := 20) rfl rfl) fl_b0 (fun h1 =>
  fl_td (s' := (14, [.ref 81, .int wh], [.int wh, .ref 81], M, J)) (fl_n 2 rfl) <|
  fl_td (s' := (17, [.ref 81, .int wh], [.int (v_194 wh M)], M, J)) (fl_cv (o := some (.int (v_194 wh M))) rfl rfl rfl rfl (cc_194 M J wh) rfl) <|
  fl_td (s' := (21, [.ref 81, .int wh], [.int (v_194 wh M)], M, J)) (fl_n 1 rfl) <|
  fl_rt rfl (fun _ => rfl) (by skip; first | (simp only [if_pos h1]; done) | rfl)) (fun h1 =>
  fl_td (s' := (21, [.ref 81, .int wh], [.int (-1)], M, J)) (fl_n 1 rfl) <|
  fl_rt rfl (fun _ => rfl) (by skip; first | (simp only [if_neg h1]; done) | rfl))
def fB199 : sm_P := (fun pc => sm_ch sm_t199 pc, sm_Kn 3 5 none, fun x => sm_lk sm_ca3 x, some .long)
-- MiceRegistersModel.digest 6
