def fB179 : sm_P := (fun pc => sm_ch sm_t179 pc, sm_Kn 3 8 none, fun x => sm_lk sm_ca3 x, some .int)
-- MiceRegistersModel.sure 33
def ls_179_33 (i1 : Int32) (M : fl_M) (m : Nat) (q : (Int32 × Int32 × Int32)) : (Int32 × Int32 × Int32) := (if (lr_178_4 (Int32.ofNat m) 0 M) = i1 then ((q.1 &&& (Int32.ofNat m)), (q.2.1 ||| (Int32.ofNat m)), 1) else (q.1, q.2.1, q.2.2))
def lq_179_33 (i1 i4 i5 i6 : Int32) (M : fl_M) (m : Nat) : (Int32 × Int32 × Int32) := fx_it (ls_179_33 i1 M) m (i4, i5, i6)
theorem lqs_179_33 (i1 i4 i5 i6 : Int32) (M : fl_M) (m : Nat) : lq_179_33 i1 i4 i5 i6 M (m + 1) = (ls_179_33 i1 M) m (lq_179_33 i1 i4 i5 i6 M m) := by
  unfold lq_179_33
  exact fx_it_s _ _ _
def lr_179_33 (i1 i3 i4 i5 i6 : Int32) (M : fl_M) : (Int32 × Int32 × Int32) := (lq_179_33 i1 i4 i5 i6 M ((i3).toNatClampNeg + 1))
set_option maxRecDepth 8000 in
theorem ts_179_33 {r : fl_Q} (i1 i2 i3 i4 i5 i6 i7 : Int32) (M : fl_M) (J : fl_J) (q1 : (i3 < i7) → fl_dn fB179 (72, [.ref 81, .int i1, .int i2, .int i3, .int i4, .int i5, .int i6, .int i7], [], M, J) r) (q2 : (¬ (i3 < i7)) → ((lr_178_4 i7 0 M) = i1) → fl_dn fB179 (33, [.ref 81, .int i1, .int i2, .int i3, .int (i4 &&& i7), .int (i5 ||| i7), .int 1, .int (i7 + 1)], [], M, J) r) (q3 : (¬ (i3 < i7)) → (¬ ((lr_178_4 i7 0 M) = i1)) → fl_dn fB179 (33, [.ref 81, .int i1, .int i2, .int i3, .int i4, .int i5, .int i6, .int (i7 + 1)], [], M, J) r) : fl_dn fB179 (33, [.ref 81, .int i1, .int i2, .int i3, .int i4, .int i5, .int i6, .int i7], [], M, J) r :=
 fl_td (s' := (36, [.ref 81, .int i1, .int i2, .int i3, .int i4, .int i5, .int i6, .int i7], [.int i3, .int i7], M, J)) (fl_n 2 rfl) <|
 fl_dtwo (fl_ic (t := 72) rfl rfl) fl_cT (fun h1 =>
  (q1 h1)) (fun h1 =>
  fl_td (s' := (42, [.ref 81, .int i1, .int i2, .int i3, .int i4, .int i5, .int i6, .int i7], [.int i7, .ref 81], M, J)) (fl_n 2 rfl) <|
  fl_td (s' := (45, [.ref 81, .int i1, .int i2, .int i3, .int i4, .int i5, .int i6, .int i7], [.int (lr_178_4 i7 0 M)], M, J)) (fl_cv (o := some (.int (lr_178_4 i7 0 M))) rfl rfl rfl rfl (cc_178 M J i7) rfl) <|
  fx_gen (p := fun (II191 : Int32) => fl_dn fB179 (45, [.ref 81, .int i1, .int i2, .int i3, .int i4, .int i5, .int i6, .int i7], [.int II191], M, J) r) (lr_178_4 i7 0 M) (fun II191 eII191 =>
   fl_td (s' := (46, [.ref 81, .int i1, .int i2, .int i3, .int i4, .int i5, .int i6, .int i7], [.int i1, .int II191], M, J)) (fl_n 1 rfl) <|
   fl_dnot (fl_ic (t := 66) rfl rfl) fl_cF (fun h2 =>
    fl_td (s' := (33, [.ref 81, .int i1, .int i2, .int i3, .int (i4 &&& i7), .int (i5 ||| i7), .int 1, .int (i7 + 1)], [], M, J)) (fl_n 12 rfl) <|
    (by subst eII191; exact (q2 h1 h2))) (fun h2 =>
    fl_td (s' := (33, [.ref 81, .int i1, .int i2, .int i3, .int i4, .int i5, .int i6, .int (i7 + 1)], [], M, J)) (fl_n 2 rfl) <|
    (by subst eII191; exact (q3 h1 h2)))))
theorem lp_179_33 {r : fl_Q} (i1 i2 i3 i4 i5 i6 : Int32) (M : fl_M) (J : fl_J) (hi0 : 0 ≤ i3.toInt) (hbig : i3.toNatClampNeg < 2147483647) (hx : ∀ w7 : Value, fl_dn fB179 (72, [.ref 81, .int i1, .int i2, .int i3, .int ((lr_179_33 i1 i3 i4 i5 i6 M).1), .int ((lr_179_33 i1 i3 i4 i5 i6 M).2.1), .int ((lr_179_33 i1 i3 i4 i5 i6 M).2.2), w7], [], M, J) r) : fl_dn fB179 (33, [.ref 81, .int i1, .int i2, .int i3, .int i4, .int i5, .int i6, .int 0], [], M, J) r := by
  have hb := fi_bd i3
  have key : ∀ (n m : Nat), m + n = (i3).toNatClampNeg + 1 → fl_dn fB179 (33, [.ref 81, .int i1, .int i2, .int i3, .int ((lq_179_33 i1 i4 i5 i6 M m).1), .int ((lq_179_33 i1 i4 i5 i6 M m).2.1), .int ((lq_179_33 i1 i4 i5 i6 M m).2.2), .int (Int32.ofNat m)], [], M, J) r := by
    intro n
    induction n with
    | zero =>
      intro m hm
      have hm : m = (i3).toNatClampNeg + 1 := by omega
      have hn : i3 < (Int32.ofNat m) := by exact (fi_gt hi0 (by omega)).mpr (by omega)
      exact ts_179_33 i1 i2 i3 ((lq_179_33 i1 i4 i5 i6 M m).1) ((lq_179_33 i1 i4 i5 i6 M m).2.1) ((lq_179_33 i1 i4 i5 i6 M m).2.2) (Int32.ofNat m) M J (fun h1 => (by have e : lr_179_33 i1 i3 i4 i5 i6 M = lq_179_33 i1 i4 i5 i6 M m := (by show lq_179_33 i1 i4 i5 i6 M ((i3).toNatClampNeg + 1) = _; rw [← hm]); rw [e] at hx; exact hx _)) (fun h1 h2 => absurd hn h1) (fun h1 h2 => absurd hn h1)
    | succ n ih =>
      intro m hm
      have hp : ¬ (i3 < (Int32.ofNat m)) := fun z => by have z := (fi_gt hi0 (by omega)).mp z; omega
      refine ts_179_33 i1 i2 i3 ((lq_179_33 i1 i4 i5 i6 M m).1) ((lq_179_33 i1 i4 i5 i6 M m).2.1) ((lq_179_33 i1 i4 i5 i6 M m).2.2) (Int32.ofNat m) M J (fun h1 => absurd h1 hp) (fun h1 h2 => ?_) (fun h1 h2 => ?_)
      · have e : lq_179_33 i1 i4 i5 i6 M (m + 1) = ((((lq_179_33 i1 i4 i5 i6 M m).1) &&& (Int32.ofNat m)), (((lq_179_33 i1 i4 i5 i6 M m).2.1) ||| (Int32.ofNat m)), 1) := by
          rw [lqs_179_33]
          unfold ls_179_33
          simp only [if_pos h2]
        have q := ih (m + 1) (by omega)
        rw [e] at q
        first | (rw [fi_s]; exact q) | (rw [← fi_s] at q; exact q) | (simp only [fi_s] at q ⊢; exact q)
      · have e : lq_179_33 i1 i4 i5 i6 M (m + 1) = (((lq_179_33 i1 i4 i5 i6 M m).1), ((lq_179_33 i1 i4 i5 i6 M m).2.1), ((lq_179_33 i1 i4 i5 i6 M m).2.2)) := by
          rw [lqs_179_33]
          unfold ls_179_33
          simp only [if_neg h2]
        have q := ih (m + 1) (by omega)
        rw [e] at q
        first | (rw [fi_s]; exact q) | (rw [← fi_s] at q; exact q) | (simp only [fi_s] at q ⊢; exact q)
  exact key ((i3).toNatClampNeg + 1) 0 (Nat.zero_add _)
def v_179 (v : Int32) (M : fl_M) : Int32 := (if (v_177 v M) = 0 then (if ((lr_179_33 v (((1 : Int32) <<< ((M 81 1) &&& 31)) - 1) (((1 : Int32) <<< ((M 81 1) &&& 31)) - 1) 0 0 M).2.2) = 0 then (-3) else ((lr_179_33 v (((1 : Int32) <<< ((M 81 1) &&& 31)) - 1) (((1 : Int32) <<< ((M 81 1) &&& 31)) - 1) 0 0 M).1)) else v_177 v M)
def m_179 (v : Int32) (M : fl_M) : fl_M := (if (v_177 v M) = 0 then (if ((lr_179_33 v (((1 : Int32) <<< ((M 81 1) &&& 31)) - 1) (((1 : Int32) <<< ((M 81 1) &&& 31)) - 1) 0 0 M).2.2) = 0 then (fl_u (fl_u M 81 14 4) 91 4 ((M 91 4) + 1)) else (fl_u M 81 11 ((((1 : Int32) <<< ((M 81 1) &&& 31)) - 1) &&& (((lr_179_33 v (((1 : Int32) <<< ((M 81 1) &&& 31)) - 1) (((1 : Int32) <<< ((M 81 1) &&& 31)) - 1) 0 0 M).2.1) ^^^ (-1))))) else M)
set_option maxRecDepth 8000 in
theorem cc_179 (M : fl_M) (J : fl_J) (v : Int32) (h0 : 0 ≤ (((1 : Int32) <<< ((M 81 1) &&& 31)) - 1).toInt) (hbig : (((1 : Int32) <<< ((M 81 1) &&& 31)) - 1).toNatClampNeg < 2147483647) : fl_C 179 [.ref 81, .int v] M J (some (.int (v_179 v M)), (m_179 v M), J) :=
 fl_Co (B := fB179) rfl rfl <|
 fl_td (s' := (2, [.ref 81, .int v, .null, .null, .null, .null, .null, .null], [.int v, .ref 81], M, J)) (fl_n 2 rfl) <|
 fl_td (s' := (5, [.ref 81, .int v, .null, .null, .null, .null, .null, .null], [.int (v_177 v M)], M, J)) (fl_cv (o := some (.int (v_177 v M))) rfl rfl rfl rfl (cc_177 M J v) rfl) <|
 fl_td (s' := (7, [.ref 81, .int v, .int (v_177 v M), .null, .null, .null, .null, .null], [.int (v_177 v M)], M, J)) (fl_n 2 rfl) <|
 fl_dtwo (fl_if (t := 12) rfl rfl) fl_cT (fun h1 =>
  fl_td (s' := (33, [.ref 81, .int v, .int (v_177 v M), .int (((1 : Int32) <<< ((M 81 1) &&& 31)) - 1), .int (((1 : Int32) <<< ((M 81 1) &&& 31)) - 1), .int 0, .int 0, .int 0], [], M, J)) (fl_n 15 rfl) <|
  lp_179_33 v (v_177 v M) (((1 : Int32) <<< ((M 81 1) &&& 31)) - 1) (((1 : Int32) <<< ((M 81 1) &&& 31)) - 1) 0 0 M J h0 hbig (fun u192 =>
   fx_gen (p := fun (II193 : Int32) => fl_dn fB179 (72, [.ref 81, .int v, .int (v_177 v M), .int (((1 : Int32) <<< ((M 81 1) &&& 31)) - 1), .int II193, .int ((lr_179_33 v (((1 : Int32) <<< ((M 81 1) &&& 31)) - 1) (((1 : Int32) <<< ((M 81 1) &&& 31)) - 1) 0 0 M).2.1), .int ((lr_179_33 v (((1 : Int32) <<< ((M 81 1) &&& 31)) - 1) (((1 : Int32) <<< ((M 81 1) &&& 31)) - 1) 0 0 M).2.2), u192], [], M, J) (some (.int (v_179 v M)), (m_179 v M), J)) ((lr_179_33 v (((1 : Int32) <<< ((M 81 1) &&& 31)) - 1) (((1 : Int32) <<< ((M 81 1) &&& 31)) - 1) 0 0 M).1) (fun II193 eII193 =>
    fx_gen (p := fun (II194 : Int32) => fl_dn fB179 (72, [.ref 81, .int v, .int (v_177 v M), .int (((1 : Int32) <<< ((M 81 1) &&& 31)) - 1), .int II193, .int II194, .int ((lr_179_33 v (((1 : Int32) <<< ((M 81 1) &&& 31)) - 1) (((1 : Int32) <<< ((M 81 1) &&& 31)) - 1) 0 0 M).2.2), u192], [], M, J) (some (.int (v_179 v M)), (m_179 v M), J)) ((lr_179_33 v (((1 : Int32) <<< ((M 81 1) &&& 31)) - 1) (((1 : Int32) <<< ((M 81 1) &&& 31)) - 1) 0 0 M).2.1) (fun II194 eII194 =>
     fx_gen (p := fun (II195 : Int32) => fl_dn fB179 (72, [.ref 81, .int v, .int (v_177 v M), .int (((1 : Int32) <<< ((M 81 1) &&& 31)) - 1), .int II193, .int II194, .int II195, u192], [], M, J) (some (.int (v_179 v M)), (m_179 v M), J)) ((lr_179_33 v (((1 : Int32) <<< ((M 81 1) &&& 31)) - 1) (((1 : Int32) <<< ((M 81 1) &&& 31)) - 1) 0 0 M).2.2) (fun II195 eII195 =>
      fl_td (s' := (74, [.ref 81, .int v, .int (v_177 v M), .int (((1 : Int32) <<< ((M 81 1) &&& 31)) - 1), .int II193, .int II194, .int II195, u192], [.int II195], M, J)) (fl_n 1 rfl) <|
      fl_dnot (fl_if (t := 83) rfl rfl) fl_cF (fun h2 =>
       fl_td (s' := (79, [.ref 81, .int v, .int (v_177 v M), .int (((1 : Int32) <<< ((M 81 1) &&& 31)) - 1), .int II193, .int II194, .int II195, u192], [.int 4, .ref 81], M, J)) (fl_n 2 rfl) <|
       fl_td (s' := (82, [.ref 81, .int v, .int (v_177 v M), .int (((1 : Int32) <<< ((M 81 1) &&& 31)) - 1), .int II193, .int II194, .int II195, u192], [.int (-3)], (fl_u (fl_u M 81 14 4) 91 4 ((M 91 4) + 1)), J)) (fl_cv (o := some (.int (-3))) rfl rfl rfl rfl (cc_106 M J 4) rfl) <|
       fl_rt rfl (fun _ => rfl) (by subst eII193; subst eII194; subst eII195; unfold v_179 m_179; first | (simp only [if_pos h1, if_pos h2]; done) | rfl)) (fun h2 =>
       fl_td (s' := (95, [.ref 81, .int v, .int (v_177 v M), .int (((1 : Int32) <<< ((M 81 1) &&& 31)) - 1), .int II193, .int II194, .int II195, u192], [.int II193], (fl_u M 81 11 ((((1 : Int32) <<< ((M 81 1) &&& 31)) - 1) &&& (II194 ^^^ (-1)))), J)) (fl_n 8 rfl) <|
       fl_rt rfl (fun _ => rfl) (by subst eII193; subst eII194; subst eII195; unfold v_179 m_179; first | (simp only [if_pos h1, if_neg h2]; done) | rfl))))))) (fun h1 =>
  fl_td (s' := (11, [.ref 81, .int v, .int (v_177 v M), .null, .null, .null, .null, .null], [.int (v_177 v M)], M, J)) (fl_n 1 rfl) <|
  fl_rt rfl (fun _ => rfl) (by unfold v_179 m_179; first | (simp only [if_neg h1]; done) | rfl))
def fB189 : sm_P := (fun pc => sm_ch sm_t189 pc, sm_Kn 3 6 none, fun x => sm_lk sm_ca3 x, none)
def m_189 (lot : Int64) (M : fl_M) : fl_M := (if (((lot / 8) - (lot / 8) / 8 * 8).toInt32) < 2 then (if 20 < (((M 82 ((12 + ((lot - lot / ((M 81 1).toInt64) * ((M 81 1).toInt64)).toInt32)).toNatClampNeg)) + 1) + (((lot / 64) - (lot / 64) / 5 * 5).toInt32)) then (fl_u M 82 ((12 + ((lot - lot / ((M 81 1).toInt64) * ((M 81 1).toInt64)).toInt32)).toNatClampNeg) 20) else (fl_u M 82 ((12 + ((lot - lot / ((M 81 1).toInt64) * ((M 81 1).toInt64)).toInt32)).toNatClampNeg) (((M 82 ((12 + ((lot - lot / ((M 81 1).toInt64) * ((M 81 1).toInt64)).toInt32)).toNatClampNeg)) + 1) + (((lot / 64) - (lot / 64) / 5 * 5).toInt32)))) else (if (((lot / 8) - (lot / 8) / 8 * 8).toInt32) = 2 then (fl_u M 82 2 ((lot - lot / ((M 81 1).toInt64) * ((M 81 1).toInt64)).toInt32)) else (if (((lot / 8) - (lot / 8) / 8 * 8).toInt32) = 3 then (fl_u M 82 3 ((M 82 3) ^^^ ((1 : Int32) <<< (((lot - lot / ((M 81 1).toInt64) * ((M 81 1).toInt64)).toInt32) &&& 31)))) else (m_150 0 0 M))))
set_option maxRecDepth 8000 in
theorem cc_189 (M : fl_M) (J : fl_J) (lot : Int64) : fl_C 189 [.ref 81, .long lot] M J (none, (m_189 lot M), J) :=
 fl_Co (B := fB189) rfl rfl <|
 fl_td (s' := (24, [.ref 81, .long lot, .null, .int ((lot - lot / ((M 81 1).toInt64) * ((M 81 1).toInt64)).toInt32), .int (((lot / 8) - (lot / 8) / 8 * 8).toInt32), .null], [.int 2, .int (((lot / 8) - (lot / 8) / 8 * 8).toInt32)], M, J)) (fl_n 16 rfl) <|
 fl_dnot (fl_ic (t := 77) rfl rfl) fl_nlt (fun h1 =>
  fl_td (s' := (63, [.ref 81, .long lot, .null, .int ((lot - lot / ((M 81 1).toInt64) * ((M 81 1).toInt64)).toInt32), .int (((lot / 8) - (lot / 8) / 8 * 8).toInt32), .int (((M 82 ((12 + ((lot - lot / ((M 81 1).toInt64) * ((M 81 1).toInt64)).toInt32)).toNatClampNeg)) + 1) + (((lot / 64) - (lot / 64) / 5 * 5).toInt32))], [.int 20, .int (((M 82 ((12 + ((lot - lot / ((M 81 1).toInt64) * ((M 81 1).toInt64)).toInt32)).toNatClampNeg)) + 1) + (((lot / 64) - (lot / 64) / 5 * 5).toInt32)), .int (12 + ((lot - lot / ((M 81 1).toInt64) * ((M 81 1).toInt64)).toInt32)), .ref 82], M, J)) (fl_n 23 rfl) <|
  fl_dnot (fl_ic (t := 71) rfl rfl) fl_nle (fun h2 =>
   fl_td (s' := (121, [.ref 81, .long lot, .null, .int ((lot - lot / ((M 81 1).toInt64) * ((M 81 1).toInt64)).toInt32), .int (((lot / 8) - (lot / 8) / 8 * 8).toInt32), .int (((M 82 ((12 + ((lot - lot / ((M 81 1).toInt64) * ((M 81 1).toInt64)).toInt32)).toNatClampNeg)) + 1) + (((lot / 64) - (lot / 64) / 5 * 5).toInt32))], [], (fl_u M 82 ((12 + ((lot - lot / ((M 81 1).toInt64) * ((M 81 1).toInt64)).toInt32)).toNatClampNeg) 20), J)) (fl_n 4 rfl) <|
   fl_rt rfl (fun _ => rfl) (by unfold m_189; first | (simp only [if_pos h1, if_pos h2]; done) | rfl)) (fun h2 =>
   fl_td (s' := (121, [.ref 81, .long lot, .null, .int ((lot - lot / ((M 81 1).toInt64) * ((M 81 1).toInt64)).toInt32), .int (((lot / 8) - (lot / 8) / 8 * 8).toInt32), .int (((M 82 ((12 + ((lot - lot / ((M 81 1).toInt64) * ((M 81 1).toInt64)).toInt32)).toNatClampNeg)) + 1) + (((lot / 64) - (lot / 64) / 5 * 5).toInt32))], [], (fl_u M 82 ((12 + ((lot - lot / ((M 81 1).toInt64) * ((M 81 1).toInt64)).toInt32)).toNatClampNeg) (((M 82 ((12 + ((lot - lot / ((M 81 1).toInt64) * ((M 81 1).toInt64)).toInt32)).toNatClampNeg)) + 1) + (((lot / 64) - (lot / 64) / 5 * 5).toInt32))), J)) (fl_n 3 rfl) <|
   fl_rt rfl (fun _ => rfl) (by unfold m_189; first | (simp only [if_pos h1, if_neg h2]; done) | rfl))) (fun h1 =>
  fl_td (s' := (80, [.ref 81, .long lot, .null, .int ((lot - lot / ((M 81 1).toInt64) * ((M 81 1).toInt64)).toInt32), .int (((lot / 8) - (lot / 8) / 8 * 8).toInt32), .null], [.int 2, .int (((lot / 8) - (lot / 8) / 8 * 8).toInt32)], M, J)) (fl_n 2 rfl) <|
  fl_dnot (fl_ic (t := 93) rfl rfl) fl_cF (fun h3 =>
   fl_td (s' := (121, [.ref 81, .long lot, .null, .int ((lot - lot / ((M 81 1).toInt64) * ((M 81 1).toInt64)).toInt32), .int (((lot / 8) - (lot / 8) / 8 * 8).toInt32), .null], [], (fl_u M 82 2 ((lot - lot / ((M 81 1).toInt64) * ((M 81 1).toInt64)).toInt32)), J)) (fl_n 6 rfl) <|
   fl_rt rfl (fun _ => rfl) (by unfold m_189; first | (simp only [if_neg h1, if_pos h3]; done) | rfl)) (fun h3 =>
   fl_td (s' := (96, [.ref 81, .long lot, .null, .int ((lot - lot / ((M 81 1).toInt64) * ((M 81 1).toInt64)).toInt32), .int (((lot / 8) - (lot / 8) / 8 * 8).toInt32), .null], [.int 3, .int (((lot / 8) - (lot / 8) / 8 * 8).toInt32)], M, J)) (fl_n 2 rfl) <|
   fl_dnot (fl_ic (t := 114) rfl rfl) fl_cF (fun h4 =>
    fl_td (s' := (121, [.ref 81, .long lot, .null, .int ((lot - lot / ((M 81 1).toInt64) * ((M 81 1).toInt64)).toInt32), .int (((lot / 8) - (lot / 8) / 8 * 8).toInt32), .null], [], (fl_u M 82 3 ((M 82 3) ^^^ ((1 : Int32) <<< (((lot - lot / ((M 81 1).toInt64) * ((M 81 1).toInt64)).toInt32) &&& 31)))), J)) (fl_n 11 rfl) <|
    fl_rt rfl (fun _ => rfl) (by unfold m_189; first | (simp only [if_neg h1, if_neg h3, if_pos h4]; done) | rfl)) (fun h4 =>
    fl_td (s' := (117, [.ref 81, .long lot, .null, .int ((lot - lot / ((M 81 1).toInt64) * ((M 81 1).toInt64)).toInt32), .int (((lot / 8) - (lot / 8) / 8 * 8).toInt32), .null], [.int 0, .int 0, .ref 81], M, J)) (fl_n 3 rfl) <|
    fl_td (s' := (120, [.ref 81, .long lot, .null, .int ((lot - lot / ((M 81 1).toInt64) * ((M 81 1).toInt64)).toInt32), .int (((lot / 8) - (lot / 8) / 8 * 8).toInt32), .null], [.int ((lr_150_5 0 0 0 M).1)], (m_150 0 0 M), J)) (fl_cv (o := some (.int ((lr_150_5 0 0 0 M).1))) rfl rfl rfl rfl (cc_150 M J 0 0) rfl) <|
    fx_gen (p := fun (MM206 : fl_M) => fl_dn fB189 (120, [.ref 81, .long lot, .null, .int ((lot - lot / ((M 81 1).toInt64) * ((M 81 1).toInt64)).toInt32), .int (((lot / 8) - (lot / 8) / 8 * 8).toInt32), .null], [.int ((lr_150_5 0 0 0 M).1)], MM206, J) (none, (m_189 lot M), J)) (m_150 0 0 M) (fun MM206 eMM206 =>
     fx_gen (p := fun (II207 : Int32) => fl_dn fB189 (120, [.ref 81, .long lot, .null, .int ((lot - lot / ((M 81 1).toInt64) * ((M 81 1).toInt64)).toInt32), .int (((lot / 8) - (lot / 8) / 8 * 8).toInt32), .null], [.int II207], MM206, J) (none, (m_189 lot M), J)) ((lr_150_5 0 0 0 M).1) (fun II207 eII207 =>
      fl_td (s' := (121, [.ref 81, .long lot, .null, .int ((lot - lot / ((M 81 1).toInt64) * ((M 81 1).toInt64)).toInt32), .int (((lot / 8) - (lot / 8) / 8 * 8).toInt32), .null], [], MM206, J)) (fl_n 1 rfl) <|
      fl_rt rfl (fun _ => rfl) (by subst eMM206; subst eII207; unfold m_189; first | (simp only [if_neg h1, if_neg h3, if_neg h4]; done) | rfl))))))
def fB188 : sm_P := (fun pc => sm_ch sm_t188 pc, sm_Kn 3 6 none, fun x => sm_lk sm_ca3 x, some .int)
-- MiceRegistersModel.lots 58
def ls_188_58 (m : Nat) (q : (Int64 × fl_M)) : (Int64 × fl_M) := (((q.1 * 48271) - (q.1 * 48271) / 2147483647 * 2147483647), (m_189 ((q.1 * 48271) - (q.1 * 48271) / 2147483647 * 2147483647) (fl_u (lr_149_2 q.2) 82 0 (((lr_149_2 q.2) 82 0) + 1))))
def lq_188_58 (l3 : Int64) (M : fl_M) (m : Nat) : (Int64 × fl_M) := fx_it ls_188_58 m (l3, M)
theorem lqs_188_58 (l3 : Int64) (M : fl_M) (m : Nat) : lq_188_58 l3 M (m + 1) = ls_188_58 m (lq_188_58 l3 M m) := by
  unfold lq_188_58
  exact fx_it_s _ _ _
def lr_188_58 (i1 : Int32) (l3 : Int64) (M : fl_M) : (Int64 × fl_M) := (lq_188_58 l3 M ((i1).toNatClampNeg))
set_option maxRecDepth 8000 in
theorem ts_188_58 {r : fl_Q} (i1 i2 i5 : Int32) (l3 : Int64) (M : fl_M) (J : fl_J) (q1 : (i5 < i1) → fl_dn fB188 (58, [.ref 81, .int i1, .int i2, .long ((l3 * 48271) - (l3 * 48271) / 2147483647 * 2147483647), .null, .int (i5 + 1)], [], (m_189 ((l3 * 48271) - (l3 * 48271) / 2147483647 * 2147483647) (fl_u (lr_149_2 M) 82 0 (((lr_149_2 M) 82 0) + 1))), J) r) (q2 : (¬ (i5 < i1)) → fl_dn fB188 (89, [.ref 81, .int i1, .int i2, .long l3, .null, .int i5], [], M, J) r) : fl_dn fB188 (58, [.ref 81, .int i1, .int i2, .long l3, .null, .int i5], [], M, J) r :=
 fl_td (s' := (61, [.ref 81, .int i1, .int i2, .long l3, .null, .int i5], [.int i1, .int i5], M, J)) (fl_n 2 rfl) <|
 fl_dnot (fl_ic (t := 89) rfl rfl) fl_nlt (fun h1 =>
  fl_td (s' := (75, [.ref 81, .int i1, .int i2, .long ((l3 * 48271) - (l3 * 48271) / 2147483647 * 2147483647), .null, .int i5], [.ref 81], M, J)) (fl_n 7 rfl) <|
  fl_td (s' := (78, [.ref 81, .int i1, .int i2, .long ((l3 * 48271) - (l3 * 48271) / 2147483647 * 2147483647), .null, .int i5], [], (fl_u (lr_149_2 M) 82 0 (((lr_149_2 M) 82 0) + 1)), J)) (fl_cv (o := none) rfl rfl rfl rfl (cc_149 M J) rfl) <|
  fx_gen (p := fun (MM208 : fl_M) => fl_dn fB188 (78, [.ref 81, .int i1, .int i2, .long ((l3 * 48271) - (l3 * 48271) / 2147483647 * 2147483647), .null, .int i5], [], MM208, J) r) (fl_u (lr_149_2 M) 82 0 (((lr_149_2 M) 82 0) + 1)) (fun MM208 eMM208 =>
   fl_td (s' := (80, [.ref 81, .int i1, .int i2, .long ((l3 * 48271) - (l3 * 48271) / 2147483647 * 2147483647), .null, .int i5], [.long ((l3 * 48271) - (l3 * 48271) / 2147483647 * 2147483647), .ref 81], MM208, J)) (fl_n 2 rfl) <|
   fl_td (s' := (83, [.ref 81, .int i1, .int i2, .long ((l3 * 48271) - (l3 * 48271) / 2147483647 * 2147483647), .null, .int i5], [], (m_189 ((l3 * 48271) - (l3 * 48271) / 2147483647 * 2147483647) MM208), J)) (fl_cv (o := none) rfl rfl rfl rfl (cc_189 MM208 J ((l3 * 48271) - (l3 * 48271) / 2147483647 * 2147483647)) rfl) <|
   fx_gen (p := fun (MM209 : fl_M) => fl_dn fB188 (83, [.ref 81, .int i1, .int i2, .long ((l3 * 48271) - (l3 * 48271) / 2147483647 * 2147483647), .null, .int i5], [], MM209, J) r) (m_189 ((l3 * 48271) - (l3 * 48271) / 2147483647 * 2147483647) MM208) (fun MM209 eMM209 =>
    fl_td (s' := (58, [.ref 81, .int i1, .int i2, .long ((l3 * 48271) - (l3 * 48271) / 2147483647 * 2147483647), .null, .int (i5 + 1)], [], MM209, J)) (fl_n 2 rfl) <|
    (by subst eMM208; subst eMM209; exact (q1 h1))))) (fun h1 =>
  (q2 h1))
theorem lp_188_58 {r : fl_Q} (i1 i2 : Int32) (l3 : Int64) (M : fl_M) (J : fl_J) (hx : ∀ w5 : Value, fl_dn fB188 (89, [.ref 81, .int i1, .int i2, .long ((lr_188_58 i1 l3 M).1), .null, w5], [], ((lr_188_58 i1 l3 M).2), J) r) : fl_dn fB188 (58, [.ref 81, .int i1, .int i2, .long l3, .null, .int 0], [], M, J) r := by
  have hb := fi_bd i1
  have key : ∀ (n m : Nat), m + n = (i1).toNatClampNeg → fl_dn fB188 (58, [.ref 81, .int i1, .int i2, .long ((lq_188_58 l3 M m).1), .null, .int (Int32.ofNat m)], [], ((lq_188_58 l3 M m).2), J) r := by
    intro n
    induction n with
    | zero =>
      intro m hm
      have hm : m = (i1).toNatClampNeg := by omega
      have hn : ¬ ((Int32.ofNat m) < i1) := fun z => by have z := (fi_lt (by omega)).mp z; omega
      exact ts_188_58 i1 i2 (Int32.ofNat m) ((lq_188_58 l3 M m).1) ((lq_188_58 l3 M m).2) J (fun h1 => absurd h1 hn) (fun h1 => (by have e : lr_188_58 i1 l3 M = lq_188_58 l3 M m := (by show lq_188_58 l3 M ((i1).toNatClampNeg) = _; rw [← hm]); rw [e] at hx; exact hx _))
    | succ n ih =>
      intro m hm
      have hp : (Int32.ofNat m) < i1 := by exact (fi_lt (by omega)).mpr (by omega)
      refine ts_188_58 i1 i2 (Int32.ofNat m) ((lq_188_58 l3 M m).1) ((lq_188_58 l3 M m).2) J (fun h1 => ?_) (fun h1 => absurd hp h1)
      · have e : lq_188_58 l3 M (m + 1) = (((((lq_188_58 l3 M m).1) * 48271) - (((lq_188_58 l3 M m).1) * 48271) / 2147483647 * 2147483647), (m_189 ((((lq_188_58 l3 M m).1) * 48271) - (((lq_188_58 l3 M m).1) * 48271) / 2147483647 * 2147483647) (fl_u (lr_149_2 ((lq_188_58 l3 M m).2)) 82 0 (((lr_149_2 ((lq_188_58 l3 M m).2)) 82 0) + 1)))) := by
          rw [lqs_188_58]
          unfold ls_188_58
          rfl
        have q := ih (m + 1) (by omega)
        rw [e] at q
        first | (rw [fi_s]; exact q) | (rw [← fi_s] at q; exact q) | (simp only [fi_s] at q ⊢; exact q)
  exact key ((i1).toNatClampNeg) 0 (Nat.zero_add _)
def v_188 (n seed : Int32) (M : fl_M) : Int32 := (if (¬ (n < 1)) ∧ (¬ (20 < n)) then (if (¬ (seed < 1)) ∧ (¬ (2147483646 < seed)) then (if (M 81 4) = 0 then (-4) else (if 40 < ((M 82 0) + n) then (-2) else (lr_168_4 0 0 ((lr_188_58 n seed.toInt64 M).2)))) else (-1)) else (-1))
def m_188 (n seed : Int32) (M : fl_M) : fl_M := (if (¬ (n < 1)) ∧ (¬ (20 < n)) then (if (¬ (seed < 1)) ∧ (¬ (2147483646 < seed)) then (if (M 81 4) = 0 then M else (if 40 < ((M 82 0) + n) then M else ((lr_188_58 n seed.toInt64 M).2))) else M) else M)
set_option maxRecDepth 8000 in
theorem cc_188 (M : fl_M) (J : fl_J) (n seed : Int32) : fl_C 188 [.ref 81, .int n, .int seed] M J (some (.int (v_188 n seed M)), (m_188 n seed M), J) :=
 fl_Co (B := fB188) rfl rfl <|
 fl_td (s' := (6, [.ref 81, .int n, .int seed, .null, .null, .null], [.long 20, .long 1, .long n.toInt64], M, J)) (fl_n 4 rfl) <|
 fl_td (s' := (9, [.ref 81, .int n, .int seed, .null, .null, .null], [.int (if (¬ (n < 1)) ∧ (¬ (20 < n)) then 1 else 0)], M, J)) (fl_cs (o := some (.int (if (¬ (n < 1)) ∧ (¬ (20 < n)) then 1 else 0))) rfl rfl rfl (cc_105i M J n 1 20) rfl) <|
 fl_dnot (fl_if (t := 24) rfl rfl) fl_b0 (fun h1 =>
  fl_td (s' := (18, [.ref 81, .int n, .int seed, .null, .null, .null], [.long 2147483646, .long 1, .long seed.toInt64], M, J)) (fl_n 4 rfl) <|
  fl_td (s' := (21, [.ref 81, .int n, .int seed, .null, .null, .null], [.int (if (¬ (seed < 1)) ∧ (¬ (2147483646 < seed)) then 1 else 0)], M, J)) (fl_cs (o := some (.int (if (¬ (seed < 1)) ∧ (¬ (2147483646 < seed)) then 1 else 0))) rfl rfl rfl (cc_105i M J seed 1 2147483646) rfl) <|
  fl_dtwo (fl_if (t := 26) rfl rfl) fl_b1 (fun h2 =>
   fl_td (s' := (30, [.ref 81, .int n, .int seed, .null, .null, .null], [.int (M 81 4)], M, J)) (fl_n 2 rfl) <|
   fl_dnot (fl_if (t := 36) rfl rfl) fl_cF (fun h3 =>
    fl_td (s' := (35, [.ref 81, .int n, .int seed, .null, .null, .null], [.int (-4)], M, J)) (fl_n 1 rfl) <|
    fl_rt rfl (fun _ => rfl) (by unfold v_188 m_188; first | (simp only [if_pos h1, if_pos h2, if_pos h3]; done) | rfl)) (fun h3 =>
    fl_td (s' := (46, [.ref 81, .int n, .int seed, .null, .null, .null], [.int 40, .int ((M 82 0) + n)], M, J)) (fl_n 7 rfl) <|
    fl_dnot (fl_ic (t := 52) rfl rfl) fl_nle (fun h4 =>
     fl_td (s' := (51, [.ref 81, .int n, .int seed, .null, .null, .null], [.int (-2)], M, J)) (fl_n 1 rfl) <|
     fl_rt rfl (fun _ => rfl) (by unfold v_188 m_188; first | (simp only [if_pos h1, if_pos h2, if_neg h3, if_pos h4]; done) | rfl)) (fun h4 =>
     fl_td (s' := (58, [.ref 81, .int n, .int seed, .long seed.toInt64, .null, .int 0], [], M, J)) (fl_n 5 rfl) <|
     lp_188_58 n seed seed.toInt64 M J (fun u210 =>
      fx_gen (p := fun (MM211 : fl_M) => fl_dn fB188 (89, [.ref 81, .int n, .int seed, .long ((lr_188_58 n seed.toInt64 M).1), .null, u210], [], MM211, J) (some (.int (v_188 n seed M)), (m_188 n seed M), J)) ((lr_188_58 n seed.toInt64 M).2) (fun MM211 eMM211 =>
       fx_gen (p := fun (LL212 : Int64) => fl_dn fB188 (89, [.ref 81, .int n, .int seed, .long LL212, .null, u210], [], MM211, J) (some (.int (v_188 n seed M)), (m_188 n seed M), J)) ((lr_188_58 n seed.toInt64 M).1) (fun LL212 eLL212 =>
        fl_td (s' := (91, [.ref 81, .int n, .int seed, .long LL212, .null, u210], [.int 0, .ref 81], MM211, J)) (fl_n 2 rfl) <|
        fl_td (s' := (94, [.ref 81, .int n, .int seed, .long LL212, .null, u210], [.int (lr_168_4 0 0 MM211)], MM211, J)) (fl_cv (o := some (.int (lr_168_4 0 0 MM211))) rfl rfl rfl rfl (cc_168 MM211 J 0) rfl) <|
        fx_gen (p := fun (II213 : Int32) => fl_dn fB188 (94, [.ref 81, .int n, .int seed, .long LL212, .null, u210], [.int II213], MM211, J) (some (.int (v_188 n seed M)), (m_188 n seed M), J)) (lr_168_4 0 0 MM211) (fun II213 eII213 =>
         fl_rt rfl (fun _ => rfl) (by subst eMM211; subst eLL212; subst eII213; unfold v_188 m_188; first | (simp only [if_pos h1, if_pos h2, if_neg h3, if_neg h4]; done) | rfl)))))))) (fun h2 =>
   fl_td (s' := (25, [.ref 81, .int n, .int seed, .null, .null, .null], [.int (-1)], M, J)) (fl_n 1 rfl) <|
   fl_rt rfl (fun _ => rfl) (by unfold v_188 m_188; first | (simp only [if_pos h1, if_neg h2]; done) | rfl))) (fun h1 =>
  fl_td (s' := (25, [.ref 81, .int n, .int seed, .null, .null, .null], [.int (-1)], M, J)) (fl_n 1 rfl) <|
  fl_rt rfl (fun _ => rfl) (by unfold v_188 m_188; first | (simp only [if_neg h1]; done) | rfl))
