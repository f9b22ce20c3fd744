def fB179 : sm_P := (fun pc => sm_ch sm_t179 pc, sm_Kn 3 8 none, fun x => sm_lk sm_ca3 x, some .int)
-- MiceRegistersModel.sure 33
def ls_179_33 (i1 : Int32) (M : fl_M) (m : Nat) (q : (Int32 × Int32 × Int32)) : (Int32 × Int32 × Int32) := (if (lr_178_4 (Int32.ofNat m) 0 M) = i1 then ((q.1 &&& (Int32.ofNat m)), (q.2.1 ||| (Int32.ofNat m)), 1) else (q.1, q.2.1, q.2.2))
def lq_179_33 (i1 i4 i5 i6 : Int32) (M : fl_M) (m : Nat) : (Int32 × Int32 × Int32) := fx_it (ls_179_33 i1 M) m (i4, i5, i6)
theorem lqs_179_33 (i1 i4 i5 i6 : Int32) (M : fl_M) (m : Nat) : lq_179_33 i1 i4 i5 i6 M (m + 1) = (ls_179_33 i1 M) m (lq_179_33 i1 i4 i5 i6 M m) := by
  unfold lq_179_33
  exact fx_it_s _ _ _
def lr_179_33 (i1 i3 i4 i5 i6 : Int32) (M : fl_M) : (Int32 × Int32 × Int32) := (lq_179_33 i1 i4 i5 i6 M ((i3).toNatClampNeg + 1))
set_option maxRecDepth 8000 in
theorem ts_179_33 {r : fl_Q} (i1 i2 i3 i4 i5 i6 i7 : Int32) (M : fl_M) (J : fl_J) (q1 : (i3 < i7) → fl_dn fB179 (72, [.ref 81, .int i1, .int i2, .int i3, .int i4, .int i5, .int i6, .int i7], [], M, J) r) (q2 : (¬ (i3 < i7)) → ((lr_178_4 i7 0 M) = i1) → fl_dn fB179 (33, [.ref 81, .int i1, .int i2, .int i3, .int (i4 &&& i7), .int (i5 ||| i7), .int 1, .int (i7 + 1)], [], M, J) r) (q3 : (¬ (i3 < i7)) → (¬ ((lr_178_4 i7 0 M) = i1)) → fl_dn fB179 (33, [.ref 81, .int i1, .int i2, .int i3, .int i4, .int i5, .int i6, .int (i7 + 1)], [], M, J) r) : fl_dn fB179 (33, [.ref 81, .int i1, .int i2, .int i3, .int i4, .int i5, .int i6, .int i7], [], M, J) r :=
 fl_td (s' := (36, [.ref 81, .int i1, .int i2, .int i3, .int i4, .int i5, .int i6, .int i7], [.int i3, .int i7], M, J)) (fl_n 2 rfl) <|
 fl_dtwo (fl_ic (t := 72) rfl rfl) fl_cT (fun h1 =>
  (q1 h1)) (fun h1 =>
  fl_td (s' := (42, [.ref 81, .int i1, .int i2, .int i3, .int i4, .int i5, .int i6, .int i7], [.int i7, .ref 81], M, J)) (fl_n 2 rfl) <|
  fl_td (s' := (45, [.ref 81, .int i1, .int i2, .int i3, .int i4, .int i5, .int i6, .int i7], [.int (lr_178_4 i7 0 M)], M, J)) (fl_cv (o := some (.int (lr_178_4 i7 0 M))) rfl rfl rfl rfl (cc_178 M J i7) rfl) <|
  fx_gen (p := fun (II191 : Int32) => fl_dn fB179 (45, [.ref 81, .int i1, .int i2, .int i3, .int i4, .int i5, .int i6, .int i7], [.int II191], M, J) r) (lr_178_4 i7 0 M) (fun II191 eII191 =>
   fl_td (s' := (46, [.ref 81, .int i1, .int i2, .int i3, .int i4, .int i5, .int i6, .int i7], [.int i1, .int II191], M, J)) (fl_n 1 rfl) <|
   fl_dnot (fl_ic (t := 66) rfl rfl) fl_cF (fun h2 =>
    fl_td (s' := (33, [.ref 81, .int i1, .int i2, .int i3, .int (i4 &&& i7), .int (i5 ||| i7), .int 1, .int (i7 + 1)], [], M, J)) (fl_n 12 rfl) <|
    (by subst eII191; exact (q2 h1 h2))) (fun h2 =>
    fl_td (s' := (33, [.ref 81, .int i1, .int i2, .int i3, .int i4, .int i5, .int i6, .int (i7 + 1)], [], M, J)) (fl_n 2 rfl) <|
    (by subst eII191; exact (q3 h1 h2)))))
theorem lp_179_33 {r : fl_Q} (i1 i2 i3 i4 i5 i6 : Int32) (M : fl_M) (J : fl_J) (hi0 : 0 ≤ i3.toInt) (hbig : i3.toNatClampNeg < 2147483647) (hx : ∀ w7 : Value, fl_dn fB179 (72, [.ref 81, .int i1, .int i2, .int i3, .int ((lr_179_33 i1 i3 i4 i5 i6 M).1), .int ((lr_179_33 i1 i3 i4 i5 i6 M).2.1), .int ((lr_179_33 i1 i3 i4 i5 i6 M).2.2), w7], [], M, J) r) : fl_dn fB179 (33, [.ref 81, .int i1, .int i2, .int i3, .int i4, .int i5, .int i6, .int 0], [], M, J) r := by
  have hb := fi_bd i3
  have key : ∀ (n m : Nat), m + n = (i3).toNatClampNeg + 1 → fl_dn fB179 (33, [.ref 81, .int i1, .int i2, .int i3, .int ((lq_179_33 i1 i4 i5 i6 M m).1), .int ((lq_179_33 i1 i4 i5 i6 M m).2.1), .int ((lq_179_33 i1 i4 i5 i6 M m).2.2), .int (Int32.ofNat m)], [], M, J) r := by
    intro n
    induction n with
    | zero =>
      intro m hm
      have hm : m = (i3).toNatClampNeg + 1 := by omega
      have hn : i3 < (Int32.ofNat m) := by exact (fi_gt hi0 (by omega)).mpr (by omega)
      exact ts_179_33 i1 i2 i3 ((lq_179_33 i1 i4 i5 i6 M m).1) ((lq_179_33 i1 i4 i5 i6 M m).2.1) ((lq_179_33 i1 i4 i5 i6 M m).2.2) (Int32.ofNat m) M J (fun h1 => (by have e : lr_179_33 i1 i3 i4 i5 i6 M = lq_179_33 i1 i4 i5 i6 M m := (by show lq_179_33 i1 i4 i5 i6 M ((i3).toNatClampNeg + 1) = _; rw [← hm]); rw [e] at hx; exact hx _)) (fun h1 h2 => absurd hn h1) (fun h1 h2 => absurd hn h1)
    | succ n ih =>
      intro m hm
      have hp : ¬ (i3 < (Int32.ofNat m)) := fun z => by have z := (fi_gt hi0 (by omega)).mp z; omega
      refine ts_179_33 i1 i2 i3 ((lq_179_33 i1 i4 i5 i6 M m).1) ((lq_179_33 i1 i4 i5 i6 M m).2.1) ((lq_179_33 i1 i4 i5 i6 M m).2.2) (Int32.ofNat m) M J (fun h1 => absurd h1 hp) (fun h1 h2 => ?_) (fun h1 h2 => ?_)
      · have e : lq_179_33 i1 i4 i5 i6 M (m + 1) = ((((lq_179_33 i1 i4 i5 i6 M m).1) &&& (Int32.ofNat m)), (((lq_179_33 i1 i4 i5 i6 M m).2.1) ||| (Int32.ofNat m)), 1) := by
          rw [lqs_179_33]
          unfold ls_179_33
          simp only [if_pos h2]
        have q := ih (m + 1) (by omega)
        rw [e] at q
        first | (rw [fi_s]; exact q) | (rw [← fi_s] at q; exact q) | (simp only [fi_s] at q ⊢; exact q)
      · have e : lq_179_33 i1 i4 i5 i6 M (m + 1) = (((lq_179_33 i1 i4 i5 i6 M m).1), ((lq_179_33 i1 i4 i5 i6 M m).2.1), ((lq_179_33 i1 i4 i5 i6 M m).2.2)) := by
          rw [lqs_179_33]
          unfold ls_179_33
          simp only [if_neg h2]
        have q := ih (m + 1) (by omega)
        rw [e] at q
        first | (rw [fi_s]; exact q) | (rw [← fi_s] at q; exact q) | (simp only [fi_s] at q ⊢; exact q)
  exact key ((i3).toNatClampNeg + 1) 0 (Nat.zero_add _)
def v_179 (v : Int32) (M : fl_M) : Int32 := (if (v_177 v M) = 0 then (if ((lr_179_33 v (((1 : Int32) <<< ((M 81 1) &&& 31)) - 1) (((1 : Int32) <<< ((M 81 1) &&& 31)) - 1) 0 0 M).2.2) = 0 then (-3) else ((lr_179_33 v (((1 : Int32) <<< ((M 81 1) &&& 31)) - 1) (((1 : Int32) <<< ((M 81 1) &&& 31)) - 1) 0 0 M).1)) else v_177 v M)
def m_179 (v : Int32) (M : fl_M) : fl_M := (if (v_177 v M) = 0 then (if ((lr_179_33 v (((1 : Int32) <<< ((M 81 1) &&& 31)) - 1) (((1 : Int32) <<< ((M 81 1) &&& 31)) - 1) 0 0 M).2.2) = 0 then (fl_u (fl_u M 81 14 4) 91 4 ((M 91 4) + 1)) else (fl_u M 81 11 ((((1 : Int32) <<< ((M 81 1) &&& 31)) - 1) &&& (((lr_179_33 v (((1 : Int32) <<< ((M 81 1) &&& 31)) - 1) (((1 : Int32) <<< ((M 81 1) &&& 31)) - 1) 0 0 M).2.1) ^^^ (-1))))) else M)
set_option maxRecDepth 8000 in
theorem cc_179 (M : fl_M) (J : fl_J) (v : Int32) (h0 : 0 ≤ (((1 : Int32) <<< ((M 81 1) &&& 31)) - 1).toInt) (hbig : (((1 : Int32) <<< ((M 81 1) &&& 31)) - 1).toNatClampNeg < 2147483647) : fl_C 179 [.ref 81, .int v] M J (some (.int (v_179 v M)), (m_179 v M), J) :=
 fl_Co (B := fB179) rfl rfl <|
 fl_td (s' := (2, [.ref 81, .int v, .null, .null, .null, .null, .null, .null], [.int v, .ref 81], M, J)) (fl_n 2 rfl) <|
 fl_td (s' := (5, [.ref 81, .int v, .null, .null, .null, .null, .null, .null], [.int (v_177 v M)], M, J)) (fl_cv (o := some (.int (v_177 v M))) rfl rfl rfl rfl (cc_177 M J v) rfl) <|
 fl_td (s' := (7, [.ref 81, .int v, .int (v_177 v M), .null, .null, .null, .null, .null], [.int (v_177 v M)], M, J)) (fl_n 2 rfl) <|
 fl_dtwo (fl_if (t := 12) rfl rfl) fl_cT (fun h1 =>
  fl_td (s' := (33, [.ref 81, .int v, .int (v_177 v M), .int (((1 : Int32) <<< ((M 81 1) &&& 31)) - 1), .int (((1 : Int32) <<< ((M 81 1) &&& 31)) - 1), .int 0, .int 0, .int 0], [], M, J)) (fl_n 15 rfl) <|
  lp_179_33 v (v_177 v M) (((1 : Int32) <<< ((M 81 1) &&& 31)) - 1) (((1 : Int32) <<< ((M 81 1) &&& 31)) - 1) 0 0 M J h0 hbig (fun u192 =>
   fx_gen (p := fun (II193 : Int32) => fl_dn fB179 (72, [.ref 81, .int v, .int (v_177 v M), .int (((1 : Int32) <<< ((M 81 1) &&& 31)) - 1), .int II193, .int ((lr_179_33 v (((1 : Int32) <<< ((M 81 1) &&& 31)) - 1) (((1 : Int32) <<< ((M 81 1) &&& 31)) - 1) 0 0 M).2.1), .int ((lr_179_33 v (((1 : Int32) <<< ((M 81 1) &&& 31)) - 1) (((1 : Int32) <<< ((M 81 1) &&& 31)) - 1) 0 0 M).2.2), u192], [], M, J) (some (.int (v_179 v M)), (m_179 v M), J)) ((lr_179_33 v (((1 : Int32) <<< ((M 81 1) &&& 31)) - 1) (((1 : Int32) <<< ((M 81 1) &&& 31)) - 1) 0 0 M).1) (fun II193 eII193 =>
    fx_gen (p := fun (II194 : Int32) => fl_dn fB179 (72, [.ref 81, .int v, .int (v_177 v M), .int (((1 : Int32) <<< ((M 81 1) &&& 31)) - 1), .int II193, .int II194, .int ((lr_179_33 v (((1 : Int32) <<< ((M 81 1) &&& 31)) - 1) (((1 : Int32) <<< ((M 81 1) &&& 31)) - 1) 0 0 M).2.2), u192], [], M, J) (some (.int (v_179 v M)), (m_179 v M), J)) ((lr_179_33 v (((1 : Int32) <<< ((M 81 1) &&& 31)) - 1) (((1 : Int32) <<< ((M 81 1) &&& 31)) - 1) 0 0 M).2.1) (fun II194 eII194 =>
     fx_gen (p := fun (II195 : Int32) => fl_dn fB179 (72, [.ref 81, .int v, .int (v_177 v M), .int (((1 : Int32) <<< ((M 81 1) &&& 31)) - 1), .int II193, .int II194, .int II195, u192], [], M, J) (some (.int (v_179 v M)), (m_179 v M), J)) ((lr_179_33 v (((1 : Int32) <<< ((M 81 1) &&& 31)) - 1) (((1 : Int32) <<< ((M 81 1) &&& 31)) - 1) 0 0 M).2.2) (fun II195 eII195 =>
      fl_td (s' := (74, [.ref 81, .int v, .int (v_177 v M), .int (((1 : Int32) <<< ((M 81 1) &&& 31)) - 1), .int II193, .int II194, .int II195, u192], [.int II195], M, J)) (fl_n 1 rfl) <|
      fl_dnot (fl_if (t := 83) rfl rfl) fl_cF (fun h2 =>
       fl_td (s' := (79, [.ref 81, .int v, .int (v_177 v M), .int (((1 : Int32) <<< ((M 81 1) &&& 31)) - 1), .int II193, .int II194, .int II195, u192], [.int 4, .ref 81], M, J)) (fl_n 2 rfl) <|
       fl_td (s' := (82, [.ref 81, .int v, .int (v_177 v M), .int (((1 : Int32) <<< ((M 81 1) &&& 31)) - 1), .int II193, .int II194, .int II195, u192], [.int (-3)], (fl_u (fl_u M 81 14 4) 91 4 ((M 91 4) + 1)), J)) (fl_cv (o := some (.int (-3))) rfl rfl rfl rfl (cc_106 M J 4) rfl) <|
       fl_rt rfl (fun _ => rfl) (by subst eII193; subst eII194; subst eII195; unfold v_179 m_179; first | (simp only [if_pos h1, if_pos h2]; done) | rfl)) (fun h2 =>
       fl_td (s' := (95, [.ref 81, .int v, .int (v_177 v M), .int (((1 : Int32) <<< ((M 81 1) &&& 31)) - 1), .int II193, .int II194, .int II195, u192], [.int II193], (fl_u M 81 11 ((((1 : Int32) <<< ((M 81 1) &&& 31)) - 1) &&& (II194 ^^^ (-1)))), J)) (fl_n 8 rfl) <|
       fl_rt rfl (fun _ => rfl) (by subst eII193; subst eII194; subst eII195; unfold v_179 m_179; first | (simp only [if_pos h1, if_neg h2]; done) | rfl))))))) (fun h1 =>
  fl_td (s' := (11, [.ref 81, .int v, .int (v_177 v M), .null, .null, .null, .null, .null], [.int (v_177 v M)], M, J)) (fl_n 1 rfl) <|
  fl_rt rfl (fun _ => rfl) (by unfold v_179 m_179; first | (simp only [if_neg h1]; done) | rfl))
def fB189 : sm_P := (fun pc => sm_ch sm_t189 pc, sm_Kn 3 6 none, fun x => sm_lk sm_ca3 x, none)
def m_189 (lot : Int64) (M : fl_M) : fl_M := (if (((lot / 8) - (lot / 8) / 8 * 8).toInt32) < 2 then (if 20 < (((M 82 ((12 + ((lot - lot / ((M 81 1).toInt64) * ((M 81 1).toInt64)).toInt32)).toNatClampNeg)) + 1) + (((lot / 64) - (lot / 64) / 5 * 5).toInt32)) then (fl_u M 82 ((12 + ((lot - lot / ((M 81 1).toInt64) * ((M 81 1).toInt64)).toInt32)).toNatClampNeg) 20) else (fl_u M 82 ((12 + ((lot - lot / ((M 81 1).toInt64) * ((M 81 1).toInt64)).toInt32)).toNatClampNeg) (((M 82 ((12 + ((lot - lot / ((M 81 1).toInt64) * ((M 81 1).toInt64)).toInt32)).toNatClampNeg)) + 1) + (((lot / 64) - (lot / 64) / 5 * 5).toInt32)))) else (if (((lot / 8) - (lot / 8) / 8 * 8).toInt32) = 2 then (fl_u M 82 2 ((lot - lot / ((M 81 1).toInt64) * ((M 81 1).toInt64)).toInt32)) else (if (((lot / 8) - (lot / 8) / 8 * 8).toInt32) = 3 then (fl_u M 82 3 ((M 82 3) ^^^ ((1 : Int32) <<< (((lot - lot / ((M 81 1).toInt64) * ((M 81 1).toInt64)).toInt32) &&& 31)))) else (m_150 0 0 M))))
set_option maxRecDepth 8000 in
theorem cc_189 (M : fl_M) (J : fl_J) (lot : Int64) : fl_C 189 [.ref 81, .long lot] M J (none, (m_189 lot M), J) :=
 fl_Co (B := fB189) rfl rfl <|
 fl_td (s' := (24, [.ref 81, .long lot, .null, .int ((lot - lot / ((M 81 1).toInt64) * ((M 81 1).toInt64)).toInt32), .int (((lot / 8) - (lot / 8) / 8 * 8).toInt32), .null], [.int 2, .int (((lot / 8) - (lot / 8) / 8 * 8).toInt32)], M, J)) (fl_n 16 rfl) <|
 fl_dnot (fl_ic (t := 77) rfl rfl) fl_nlt (fun h1 =>
  fl_td (s' := (63, [.ref 81, .long lot, .null, .int ((lot - lot / ((M 81 1).toInt64) * ((M 81 1).toInt64)).toInt32), .int (((lot / 8) - (lot / 8) / 8 * 8).toInt32), .int (((M 82 ((12 + ((lot - lot / ((M 81 1).toInt64) * ((M 81 1).toInt64)).toInt32)).toNatClampNeg)) + 1) + (((lot / 64) - (lot / 64) / 5 * 5).toInt32))], [.int 20, .int (((M 82 ((12 + ((lot - lot / ((M 81 1).toInt64) * ((M 81 1).toInt64)).toInt32)).toNatClampNeg)) + 1) + (((lot / 64) - (lot / 64) / 5 * 5).toInt32)), .int (12 + ((lot - lot / ((M 81 1).toInt64) * ((M 81 1).toInt64)).toInt32)), .ref 82], M, J)) (fl_n 23 rfl) <|
  fl_dnot (fl_ic (t := 71) rfl rfl) fl_nle (fun h2 =>
   fl_td (s' := (121, [.ref 81, .long lot, .null, .int ((lot - lot / ((M 81 1).toInt64) * ((M 81 1).toInt64)).toInt32), .int (((lot / 8) - (lot / 8) / 8 * 8).toInt32), .int (((M 82 ((12 + ((lot - lot / ((M 81 1).toInt64) * ((M 81 1).toInt64)).toInt32)).toNatClampNeg)) + 1) + (((lot / 64) - (lot / 64) / 5 * 5).toInt32))], [], (fl_u M 82 ((12 + ((lot - lot / ((M 81 1).toInt64) * ((M 81 1).toInt64)).toInt32)).toNatClampNeg) 20), J)) (fl_n 4 rfl) <|
   fl_rt rfl (fun _ => rfl) (by unfold m_189; first | (simp only [if_pos h1, if_pos h2]; done) | rfl)) (fun h2 =>
   fl_td (s' := (121, [.ref 81, .long lot, .null, .int ((lot - lot / ((M 81 1).toInt64) * ((M 81 1).toInt64)).toInt32), .int (((lot / 8) - (lot / 8) / 8 * 8).toInt32), .int (((M 82 ((12 + ((lot - lot / ((M 81 1).toInt64) * ((M 81 1).toInt64)).toInt32)).toNatClampNeg)) + 1) + (((lot / 64) - (lot / 64) / 5 * 5).toInt32))], [], (fl_u M 82 ((12 + ((lot - lot / ((M 81 1).toInt64) * ((M 81 1).toInt64)).toInt32)).toNatClampNeg) (((M 82 ((12 + ((lot - lot / ((M 81 1).toInt64) * ((M 81 1).toInt64)).toInt32)).toNatClampNeg)) + 1) + (((lot / 64) - (lot / 64) / 5 * 5).toInt32))), J)) (fl_n 3 rfl) <|
   fl_rt rfl (fun _ => rfl) (by unfold m_189; first | (simp only [if_pos h1, if_neg h2]; done) | rfl))) (fun h1 =>
  fl_td (s' := (80, [.ref 81, .long lot, .null, .int ((lot - lot / ((M 81 1).toInt64) * ((M 81 1).toInt64)).toInt32), .int (((lot / 8) - (lot / 8) / 8 * 8).toInt32), .null], [.int 2, .int (((lot / 8) - (lot / 8) / 8 * 8).toInt32)], M, J)) (fl_n 2 rfl) <|
  fl_dnot (fl_ic (t := 93) rfl rfl) fl_cF (fun h3 =>
   fl_td (s' := (121, [.ref 81, .long lot, .null, .int ((lot - lot / ((M 81 1).toInt64) * ((M 81 1).toInt64)).toInt32), .int (((lot / 8) - (lot / 8) / 8 * 8).toInt32), .null], [], (fl_u M 82 2 ((lot - lot / ((M 81 1).toInt64) * ((M 81 1).toInt64)).toInt32)), J)) (fl_n 6 rfl) <|
   fl_rt rfl (fun _ => rfl) (by unfold m_189; first | (simp only [if_neg h1, if_pos h3]; done) | rfl)) (fun h3 =>
   fl_td (s' := (96, [.ref 81, .long lot, .null, .int ((lot - lot / ((M 81 1).toInt64) * ((M 81 1).toInt64)).toInt32), .int (((lot / 8) - (lot / 8) / 8 * 8).toInt32), .null], [.int 3, .int (((lot / 8) - (lot / 8) / 8 * 8).toInt32)], M, J)) (fl_n 2 rfl) <|
   fl_dnot (fl_ic (t := 114) rfl rfl) fl_cF (fun h4 =>
    fl_td (s' := (121, [.ref 81, .long lot, .null, .int ((lot - lot / ((M 81 1).toInt64) * ((M 81 1).toInt64)).toInt32), .int (((lot / 8) - (lot / 8) / 8 * 8).toInt32), .null], [], (fl_u M 82 3 ((M 82 3) ^^^ ((1 : Int32) <<< (((lot - lot / ((M 81 1).toInt64) * ((M 81 1).toInt64)).toInt32) &&& 31)))), J)) (fl_n 11 rfl) <|
    fl_rt rfl (fun _ => rfl) (by unfold m_189; first | (simp only [if_neg h1, if_neg h3, if_pos h4]; done) | rfl)) (fun h4 =>
    fl_td (s' := (117, [.ref 81, .long lot, .null, .int ((lot - lot / ((M 81 1).toInt64) * ((M 81 1).toInt64)).toInt32), .int (((lot / 8) - (lot / 8) / 8 * 8).toInt32), .null], [.int 0, .int 0, .ref 81], M, J)) (fl_n 3 rfl) <|
    fl_td (s' := (120, [.ref 81, .long lot, .null, .int ((lot - lot / ((M 81 1).toInt64) * ((M 81 1).toInt64)).toInt32), .int (((lot / 8) - (lot / 8) / 8 * 8).toInt32), .null], [.int ((lr_150_5 0 0 0 M).1)], (m_150 0 0 M), J)) (fl_cv (o := some (.int ((lr_150_5 0 0 0 M).1))) rfl rfl rfl rfl (cc_150 M J 0 0) rfl) <|
    fx_gen (p := fun (MM206 : fl_M) => fl_dn fB189 (120, [.ref 81, .long lot, .null, .int ((lot - lot / ((M 81 1).toInt64) * ((M 81 1).toInt64)).toInt32), .int (((lot / 8) - (lot / 8) / 8 * 8).toInt32), .null], [.int ((lr_150_5 0 0 0 M).1)], MM206, J) (none, (m_189 lot M), J)) (m_150 0 0 M) (fun MM206 eMM206 =>
     fx_gen (p := fun (II207 : Int32) => fl_dn fB189 (120, [.ref 81, .long lot, .null, .int ((lot - lot / ((M 81 1).toInt64) * ((M 81 1).toInt64)).toInt32), .int (((lot / 8) - (lot / 8) / 8 * 8).toInt32), .null], [.int II207], MM206, J) (none, (m_189 lot M), J)) ((lr_150_5 0 0 0 M).1) (fun II207 eII207 =>
      fl_td (s' := (121, [.ref 81, .long lot, .null, .int ((lot - lot / ((M 81 1).toInt64) * ((M 81 1).toInt64)).toInt32), .int (((lot / 8) - (lot / 8) / 8 * 8).toInt32), .null], [], MM206, J)) (fl_n 1 rfl) <|
      fl_rt rfl (fun _ => rfl) (by subst eMM206; subst eII207; unfold m_189; first | (simp only [if_neg h1, if_neg h3, if_neg h4]; done) | rfl))))))
def fB188 : sm_P := (fun pc => sm_ch sm_t188 pc, sm_Kn 3 6 none, fun x => sm_lk sm_ca3 x, some .int)
-- MiceRegistersModel.lots 58
def ls_188_58 (m : Nat) (q : (Int64 × fl_M)) : (Int64 × fl_M) := (((q.1 * 48271) - (q.1 * 48271) / 2147483647 * 2147483647), (m_189 ((q.1 * 48271) - (q.1 * 48271) / 2147483647 * 2147483647) (fl_u (lr_149_2 q.2) 82 0 (((lr_149_2 q.2) 82 0) + 1))))
def lq_188_58 (l3 : Int64) (M : fl_M) (m : Nat) : (Int64 × fl_M) := fx_it ls_188_58 m (l3, M)
theorem lqs_188_58 (l3 : Int64) (M : fl_M) (m : Nat) : lq_188_58 l3 M (m + 1) = ls_188_58 m (lq_188_58 l3 M m) := by
  unfold lq_188_58
  exact fx_it_s _ _ _
def lr_188_58 (i1 : Int32) (l3 : Int64) (M : fl_M) : (Int64 × fl_M) := (lq_188_58 l3 M ((i1).toNatClampNeg))
set_option maxRecDepth 8000 in
theorem ts_188_58 {r : fl_Q} (i1 i2 i5 : Int32) (l3 : Int64) (M : fl_M) (J : fl_J) (q1 : (i5 < i1) → fl_dn fB188 (58, [.ref 81, .int i1, .int i2, .long ((l3 * 48271) - (l3 * 48271) / 2147483647 * 2147483647), .null, .int (i5 + 1)], [], (m_189 ((l3 * 48271) - (l3 * 48271) / 2147483647 * 2147483647) (fl_u (lr_149_2 M) 82 0 (((lr_149_2 M) 82 0) + 1))), J) r) (q2 : (¬ (i5 < i1)) → fl_dn fB188 (89, [.ref 81, .int i1, .int i2, .long l3, .null, .int i5], [], M, J) r) : fl_dn fB188 (58, [.ref 81, .int i1, .int i2, .long l3, .null, .int i5], [], M, J) r :=
 fl_td (s' := (61, [.ref 81, .int i1, .int i2, .long l3, .null, .int i5], [.int i1, .int i5], M, J)) (fl_n 2 rfl) <|
 fl_dnot (fl_ic (t := 89) rfl rfl) fl_nlt (fun h1 =>
  fl_td (s' := (75, [.ref 81, .int i1, .int i2, .long ((l3 * 48271) - (l3 * 48271) / 2147483647 * 2147483647), .null, .int i5], [.ref 81], M, J)) (fl_n 7 rfl) <|
  fl_td (s' := (78, [.ref 81, .int i1, .int i2, .long ((l3 * 48271) - (l3 * 48271) / 2147483647 * 2147483647), .null, .int i5], [], (fl_u (lr_149_2 M) 82 0 (((lr_149_2 M) 82 0) + 1)), J)) (fl_cv (o := none) rfl rfl rfl rfl (cc_149 M J) rfl) <|
  fx_gen (p := fun (MM208 : fl_M) => fl_dn fB188 (78, [.ref 81, .int i1, .int i2, .long ((l3 * 48271) - (l3 * 48271) / 2147483647 * 2147483647), .null, .int i5], [], MM208, J) r) (fl_u (lr_149_2 M) 82 0 (((lr_149_2 M) 82 0) + 1)) (fun MM208 eMM208 =>
   fl_td (s' := (80, [.ref 81, .int i1, .int i2, .long ((l3 * 48271) - (l3 * 48271) / 2147483647 * 2147483647), .null, .int i5], [.long ((l3 * 48271) - (l3 * 48271) / 2147483647 * 2147483647), .ref 81], MM208, J)) (fl_n 2 rfl) <|
   fl_td (s' := (83, [.ref 81, .int i1, .int i2, .long ((l3 * 48271) - (l3 * 48271) / 2147483647 * 2147483647), .null, .int i5], [], (m_189 ((l3 * 48271) - (l3 * 48271) / 2147483647 * 2147483647) MM208), J)) (fl_cv (o := none) rfl rfl rfl rfl (cc_189 MM208 J ((l3 * 48271) - (l3 * 48271) / 2147483647 * 2147483647)) rfl) <|
   fx_gen (p := fun (MM209 : fl_M) => fl_dn fB188 (83, [.ref 81, .int i1, .int i2, .long ((l3 * 48271) - (l3 * 48271) / 2147483647 * 2147483647), .null, .int i5], [], MM209, J) r) (m_189 ((l3 * 48271) - (l3 * 48271) / 2147483647 * 2147483647) MM208) (fun MM209 eMM209 =>
    fl_td (s' := (58, [.ref 81, .int i1, .int i2, .long ((l3 * 48271) - (l3 * 48271) / 2147483647 * 2147483647), .null, .int (i5 + 1)], [], MM209, J)) (fl_n 2 rfl) <|
    (by subst eMM208; subst eMM209; exact (q1 h1))))) (fun h1 =>
  (q2 h1))
theorem lp_188_58 {r : fl_Q} (i1 i2 : Int32) (l3 : Int64) (M : fl_M) (J : fl_J) (hx : ∀ w5 : Value, fl_dn fB188 (89, [.ref 81, .int i1, .int i2, .long ((lr_188_58 i1 l3 M).1), .null, w5], [], ((lr_188_58 i1 l3 M).2), J) r) : fl_dn fB188 (58, [.ref 81, .int i1, .int i2, .long l3, .null, .int 0], [], M, J) r := by
  have hb := fi_bd i1
  have key : ∀ (n m : Nat), m + n = (i1).toNatClampNeg → fl_dn fB188 (58, [.ref 81, .int i1, .int i2, .long ((lq_188_58 l3 M m).1), .null, .int (Int32.ofNat m)], [], ((lq_188_58 l3 M m).2), J) r := by
    intro n
    induction n with
    | zero =>
      intro m hm
      have hm : m = (i1).toNatClampNeg := by omega
      have hn : ¬ ((Int32.ofNat m) < i1) := fun z => by have z := (fi_lt (by omega)).mp z; omega
      exact ts_188_58 i1 i2 (Int32.ofNat m) ((lq_188_58 l3 M m).1) ((lq_188_58 l3 M m).2) J (fun h1 => absurd h1 hn) (fun h1 => (by have e : lr_188_58 i1 l3 M = lq_188_58 l3 M m := (by show lq_188_58 l3 M ((i1).toNatClampNeg) = _; rw [← hm]); rw [e] at hx; exact hx _))
    | succ n ih =>
      intro m hm
      have hp : (Int32.ofNat m) < i1 := by exact (fi_lt (by omega)).mpr (by omega)
      refine ts_188_58 i1 i2 (Int32.ofNat m) ((lq_188_58 l3 M m).1) ((lq_188_58 l3 M m).2) J (fun h1 => ?_) (fun h1 => absurd hp h1)
      · have e : lq_188_58 l3 M (m + 1) = (((((lq_188_58 l3 M m).1) * 48271) - (((lq_188_58 l3 M m).1) * 48271) / 2147483647 * 2147483647), (m_189 ((((lq_188_58 l3 M m).1) * 48271) - (((lq_188_58 l3 M m).1) * 48271) / 2147483647 * 2147483647) (fl_u (lr_149_2 ((lq_188_58 l3 M m).2)) 82 0 (((lr_149_2 ((lq_188_58 l3 M m).2)) 82 0) + 1)))) := by
          rw [lqs_188_58]
          unfold ls_188_58
          rfl
        have q := ih (m + 1) (by omega)
        rw [e] at q
        first | (rw [fi_s]; exact q) | (rw [← fi_s] at q; exact q) | (simp only [fi_s] at q ⊢; exact q)
  exact key ((i1).toNatClampNeg) 0 (Nat.zero_add _)
def v_188 (n seed : Int32) (M : fl_M) : Int32 := (if (¬ (n < 1)) ∧ (¬ (20 < n)) then (if (¬ (seed < 1)) ∧ (¬ (2147483646 < seed)) then (if (M 81 4) = 0 then (-4) else (if 40 < ((M 82 0) + n) then (-2) else (lr_168_4 0 0 ((lr_188_58 n seed.toInt64 M).2)))) else (-1)) else (-1))
def m_188 (n seed : Int32) (M : fl_M) : fl_M := (if (¬ (n < 1)) ∧ (¬ (20 < n)) then (if (¬ (seed < 1)) ∧ (¬ (2147483646 < seed)) then (if (M 81 4) = 0 then M else (if 40 < ((M 82 0) + n) then M else ((lr_188_58 n seed.toInt64 M).2))) else M) else M)
set_option maxRecDepth 8000 in
theorem cc_188 (M : fl_M) (J : fl_J) (n seed : Int32) : fl_C 188 [.ref 81, .int n, .int seed] M J (some (.int (v_188 n seed M)), (m_188 n seed M), J) :=
 fl_Co (B := fB188) rfl rfl <|
 fl_td (s' := (6, [.ref 81, .int n, .int seed, .null, .null, .null], [.long 20, .long 1, .long n.toInt64], M, J)) (fl_n 4 rfl) <|
 fl_td (s' := (9, [.ref 81, .int n, .int seed, .null, .null, .null], [.int (if (¬ (n < 1)) ∧ (¬ (20 < n)) then 1 else 0)], M, J)) (fl_cs (o := some (.int (if (¬ (n < 1)) ∧ (¬ (20 < n)) then 1 else 0))) rfl rfl rfl (cc_105i M J n 1 20) rfl) <|
 fl_dnot (fl_if (t := 24) rfl rfl) fl_b0 (fun h1 =>
  fl_td (s' := (18, [.ref 81, .int n, .int seed, .null, .null, .null], [.long 2147483646, .long 1, .long seed.toInt64], M, J)) (fl_n 4 rfl) <|
  fl_td (s' := (21, [.ref 81, .int n, .int seed, .null, .null, .null], [.int (if (¬ (seed < 1)) ∧ (¬ (2147483646 < seed)) then 1 else 0)], M, J)) (fl_cs (o := some (.int (if (¬ (seed < 1)) ∧ (¬ (2147483646 < seed)) then 1 else 0))) rfl rfl rfl (cc_105i M J seed 1 2147483646) rfl) <|
  fl_dtwo (fl_if (t := 26) rfl rfl) fl_b1 (fun h2 =>
   fl_td (s' := (30, [.ref 81, .int n, .int seed, .null, .null, .null], [.int (M 81 4)], M, J)) (fl_n 2 rfl) <|
   fl_dnot (fl_if (t := 36) rfl rfl) fl_cF (fun h3 =>
    fl_td (s' := (35, [.ref 81, .int n, .int seed, .null, .null, .null], [.int (-4)], M, J)) (fl_n 1 rfl) <|
    fl_rt rfl (fun _ => rfl) (by unfold v_188 m_188; first | (simp only [if_pos h1, if_pos h2, if_pos h3]; done) | rfl)) (fun h3 =>
    fl_td (s' := (46, [.ref 81, .int n, .int seed, .null, .null, .null], [.int 40, .int ((M 82 0) + n)], M, J)) (fl_n 7 rfl) <|
    fl_dnot (fl_ic (t := 52) rfl rfl) fl_nle (fun h4 =>
     fl_td (s' := (51, [.ref 81, .int n, .int seed, .null, .null, .null], [.int (-2)], M, J)) (fl_n 1 rfl) <|
     fl_rt rfl (fun _ => rfl) (by unfold v_188 m_188; first | (simp only [if_pos h1, if_pos h2, if_neg h3, if_pos h4]; done) | rfl)) (fun h4 =>
     fl_td (s' := (58, [.ref 81, .int n, .int seed, .long seed.toInt64, .null, .int 0], [], M, J)) (fl_n 5 rfl) <|
     lp_188_58 n seed seed.toInt64 M J (fun u210 =>
      fx_gen (p := fun (MM211 : fl_M) => fl_dn fB188 (89, [.ref 81, .int n, .int seed, .long ((lr_188_58 n seed.toInt64 M).1), .null, u210], [], MM211, J) (some (.int (v_188 n seed M)), (m_188 n seed M), J)) ((lr_188_58 n seed.toInt64 M).2) (fun MM211 eMM211 =>
       fx_gen (p := fun (LL212 : Int64) => fl_dn fB188 (89, [.ref 81, .int n, .int seed, .long LL212, .null, u210], [], MM211, J) (some (.int (v_188 n seed M)), (m_188 n seed M), J)) ((lr_188_58 n seed.toInt64 M).1) (fun LL212 eLL212 =>
        fl_td (s' := (91, [.ref 81, .int n, .int seed, .long LL212, .null, u210], [.int 0, .ref 81], MM211, J)) (fl_n 2 rfl) <|
        fl_td (s' := (94, [.ref 81, .int n, .int seed, .long LL212, .null, u210], [.int (lr_168_4 0 0 MM211)], MM211, J)) (fl_cv (o := some (.int (lr_168_4 0 0 MM211))) rfl rfl rfl rfl (cc_168 MM211 J 0) rfl) <|
        fx_gen (p := fun (II213 : Int32) => fl_dn fB188 (94, [.ref 81, .int n, .int seed, .long LL212, .null, u210], [.int II213], MM211, J) (some (.int (v_188 n seed M)), (m_188 n seed M), J)) (lr_168_4 0 0 MM211) (fun II213 eII213 =>
         fl_rt rfl (fun _ => rfl) (by subst eMM211; subst eLL212; subst eII213; unfold v_188 m_188; first | (simp only [if_pos h1, if_pos h2, if_neg h3, if_neg h4]; done) | rfl)))))))) (fun h2 =>
   fl_td (s' := (25, [.ref 81, .int n, .int seed, .null, .null, .null], [.int (-1)], M, J)) (fl_n 1 rfl) <|
   fl_rt rfl (fun _ => rfl) (by unfold v_188 m_188; first | (simp only [if_pos h1, if_neg h2]; done) | rfl))) (fun h1 =>
  fl_td (s' := (25, [.ref 81, .int n, .int seed, .null, .null, .null], [.int (-1)], M, J)) (fl_n 1 rfl) <|
  fl_rt rfl (fun _ => rfl) (by unfold v_188 m_188; first | (simp only [if_neg h1]; done) | rfl))
/-! Both sides tied: rows and texts, sizes and places. -/
def ft_r (M : fl_M) : Prop := ∀ j, j < 6 → M 1 j = M 87 j ∧ ∀ i : Nat, (i : Int) < (M 1 j).toInt → M (3 + j) i = M 88 (40 * j + i)
def ft_t (M : fl_M) : Prop := ∀ j, j < 4 → M 9 j = M 89 j ∧ ∀ i : Nat, (i : Int) < (M 9 j).toInt → M (11 + j) i = M 90 (60 * j + i) ∧ -128 ≤ (M (11 + j) i).toInt ∧ (M (11 + j) i).toInt ≤ 127
def ft (M : fl_M) : Prop := ft_r M ∧ ft_t M
def ft_g (M : fl_M) : Prop := (∀ j, j < 6 → -1 ≤ (M 1 j).toInt ∧ (M 1 j).toInt ≤ 40) ∧ (∀ j, j < 4 → -1 ≤ (M 9 j).toInt ∧ (M 9 j).toInt ≤ 60) ∧ (∀ j, j < 6 → -1 ≤ (M 87 j).toInt ∧ (M 87 j).toInt ≤ 40) ∧ (∀ j, j < 4 → -1 ≤ (M 89 j).toInt ∧ (M 89 j).toInt ≤ 60) ∧ M 999 = sm_kl
def ft_d (a : Nat) : Prop := a = 1 ∨ (3 ≤ a ∧ a ≤ 9) ∨ (11 ≤ a ∧ a ≤ 14) ∨ (87 ≤ a ∧ a ≤ 90)
theorem ft_cong {M M' : fl_M} (h : ∀ a, ft_d a → M' a = M a) (hT : ft M) : ft M' := by
  refine ⟨fun j hj => ?_, fun j hj => ?_⟩
  · rw [h 1 (by unfold ft_d; omega), h 87 (by unfold ft_d; omega), h (3 + j) (by unfold ft_d; omega), h 88 (by unfold ft_d; omega)]
    exact hT.1 j hj
  · rw [h 9 (by unfold ft_d; omega), h 89 (by unfold ft_d; omega), h (11 + j) (by unfold ft_d; omega), h 90 (by unfold ft_d; omega)]
    exact hT.2 j hj
theorem fl_un {M : fl_M} {a i c : Nat} {v : Int32} (h : c ≠ a) : fl_u M a i v c = M c := by
  funext j
  unfold fl_u
  rw [if_neg (fun z => h z.1)]
theorem fl_fn {M : fl_M} {a n c : Nat} {v : Int32} (h : c ≠ a) : fl_f M a n v c = M c := by
  funext j
  unfold fl_f
  rw [if_neg (fun z => h z.1)]
theorem fl_gn {M : fl_M} {a lo n c : Nat} {v : Int32} (h : c ≠ a) : fl_g M a lo n v c = M c := by
  funext j
  unfold fl_g
  rw [if_neg (fun z => h z.1)]
theorem fl_ar2 (j : Nat) : fl_ar 2 j = 3 + j := by
  unfold fl_ar
  rw [if_neg (by decide)]
theorem fl_ar10 (j : Nat) : fl_ar 10 j = 11 + j := by
  unfold fl_ar
  rw [if_neg (by decide)]
/-- refusals change nothing of it -/
theorem ft_ref {M M1 M2 : fl_M} {f g : Nat} {v w x y : Int32} (e1 : M1 = fl_u (fl_u M 0 11 v) 80 f w) (e2 : M2 = fl_u (fl_u M1 81 14 x) 91 g y) (hT : ft M) : ft M2 := by
  refine ft_cong (fun a ha => ?_) hT
  unfold ft_d at ha
  rw [e2, fl_un (by omega), fl_un (by omega), e1, fl_un (by omega), fl_un (by omega)]
theorem ft_A {r : Int32} : ((¬ (r < 0)) ∧ (¬ (5 < r))) ↔ ¬ ((r < 0) ∨ (¬ (r < 6))) := by
  rw [fi_l, fi_l, fi_l, fi_i0, fi_i5, fi_i6]
  omega
theorem ft_A3 {r : Int32} : ((¬ (r < 0)) ∧ (¬ (3 < r))) ↔ ¬ ((r < 0) ∨ (¬ (r < 4))) := by
  rw [fi_l, fi_l, fi_l, fi_i0, fi_i3, fi_i4]
  omega
theorem ft_B {s : Int32} (h : -1 ≤ s.toInt) : s < 0 ↔ s = -1 := by
  rw [fi_l, fi_e, fi_i0, fi_m1]
  omega
theorem ft_D {i s : Int32} (h : -1 ≤ s.toInt) (h2 : s.toInt ≤ 60) : ((¬ (i < 0)) ∧ (¬ (s - 1 < i))) ↔ (¬ i < 0 ∧ i < s) := by
  rw [fi_l, fi_l, fi_l, fi_sub (by rw [fi_i1]; omega) (by rw [fi_i1]; omega), fi_i0, fi_i1]
  omega
theorem ft_R {r : Int32} (h : ¬ ((r < 0) ∨ (¬ (r < 6)))) : 0 ≤ r.toInt ∧ r.toInt ≤ 5 ∧ r.toNatClampNeg < 6 := by
  rw [fi_l, fi_l, fi_i0, fi_i6] at h
  rw [fi_cl]
  omega
theorem ft_R4 {r : Int32} (h : ¬ ((r < 0) ∨ (¬ (r < 4)))) : 0 ≤ r.toInt ∧ r.toInt ≤ 3 ∧ r.toNatClampNeg < 4 := by
  rw [fi_l, fi_l, fi_i0, fi_i4] at h
  rw [fi_cl]
  omega
/-- what is asked of a pair: the class' answer and memory, the reference's -/
def ft_P (fa : fl_M → Int32) (fM : fl_M → fl_M) (ga : fl_M → Int32) (gM : fl_M → fl_M) : Prop := ∀ M M1 M2 : fl_M, ft M → ft_g M → M1 = fM M → M2 = gM M1 → (∀ a, 81 ≤ a → M1 a = M a) → (∀ a, a < 81 → M2 a = M1 a) → fa M = ga M1 ∧ ft M2
/-- a place of a row: refused by both, or by none -/
theorem ft_place {r i : Int32} {x y : fl_M → Int32} {F G : fl_M → fl_M} (hx : ∀ M M1 M2 : fl_M, ft M → ft_g M → ¬ ((r < 0) ∨ (¬ (r < 6))) → ¬ i < 0 → i < M 1 r.toNatClampNeg → M1 = F M → M2 = G M1 → (∀ a, 81 ≤ a → M1 a = M a) → (∀ a, a < 81 → M2 a = M1 a) → x M = y M1 ∧ ft M2) :
    ft_P (fun M => if (r < 0) ∨ (¬ (r < 6)) then (-1) else (if (M 1 r.toNatClampNeg) = (-1) then (-3) else (if i < 0 then (-3) else (if i < (M 1 r.toNatClampNeg) then x M else (-3)))))
      (fun M => if (r < 0) ∨ (¬ (r < 6)) then M else (if (M 1 r.toNatClampNeg) = (-1) then (fl_u (fl_u M 0 11 1) 80 1 ((M 80 1) + 1)) else (if i < 0 then (fl_u (fl_u M 0 11 2) 80 2 ((M 80 2) + 1)) else (if i < (M 1 r.toNatClampNeg) then F M else (fl_u (fl_u M 0 11 2) 80 2 ((M 80 2) + 1))))))
      (fun M => if (¬ (r < 0)) ∧ (¬ (5 < r)) then (if (M 87 r.toNatClampNeg) < 0 then (-3) else (if (¬ (i < 0)) ∧ (¬ ((M 87 r.toNatClampNeg) - 1 < i)) then y M else (-3))) else (-1))
      (fun M => if (¬ (r < 0)) ∧ (¬ (5 < r)) then (if (M 87 r.toNatClampNeg) < 0 then (fl_u (fl_u M 81 14 1) 91 1 ((M 91 1) + 1)) else (if (¬ (i < 0)) ∧ (¬ ((M 87 r.toNatClampNeg) - 1 < i)) then G M else (fl_u (fl_u M 81 14 2) 91 2 ((M 91 2) + 1)))) else M) := by
  intro M M1 M2 hT hg e1 e2 lo hi
  dsimp only at e1 e2 ⊢
  by_cases hA : (r < 0) ∨ (¬ (r < 6))
  · rw [if_pos hA] at e1
    rw [if_neg (fun z => ft_A.mp z hA)] at e2
    rw [if_pos hA, if_neg (fun z => ft_A.mp z hA)]
    exact ⟨rfl, by rw [e2, e1]; exact hT⟩
  · obtain ⟨r1, r2, r3⟩ := ft_R hA
    have g1 := hg.1 _ r3
    have es : M1 87 r.toNatClampNeg = M 1 r.toNatClampNeg := by rw [lo 87 (by decide), (hT.1 _ r3).1]
    rw [if_neg hA] at e1
    rw [if_pos (ft_A.mpr hA), es] at e2
    rw [if_neg hA, if_pos (ft_A.mpr hA), es]
    by_cases hB : M 1 r.toNatClampNeg = -1
    · rw [if_pos hB] at e1
      rw [if_pos ((ft_B g1.1).mpr hB)] at e2
      rw [if_pos hB, if_pos ((ft_B g1.1).mpr hB)]
      exact ⟨rfl, ft_ref e1 e2 hT⟩
    · rw [if_neg hB] at e1
      rw [if_neg (fun z => hB ((ft_B g1.1).mp z))] at e2
      rw [if_neg hB, if_neg (fun z => hB ((ft_B g1.1).mp z))]
      have hD := ft_D (i := i) g1.1 (by omega)
      by_cases hC : i < 0
      · rw [if_pos hC] at e1
        rw [if_neg (fun z => z.1 hC)] at e2
        rw [if_pos hC, if_neg (fun z => z.1 hC)]
        exact ⟨rfl, ft_ref e1 e2 hT⟩
      · rw [if_neg hC] at e1
        rw [if_neg hC]
        by_cases hE : i < M 1 r.toNatClampNeg
        · rw [if_pos hE] at e1
          rw [if_pos (hD.mpr ⟨hC, hE⟩)] at e2
          rw [if_pos hE, if_pos (hD.mpr ⟨hC, hE⟩)]
          exact hx M M1 M2 hT hg hA hC hE e1 e2 lo hi
        · rw [if_neg hE] at e1
          rw [if_neg (fun z => hE (hD.mp z).2)] at e2
          rw [if_neg hE, if_neg (fun z => hE (hD.mp z).2)]
          exact ⟨rfl, ft_ref e1 e2 hT⟩
/-- a place written on both sides -/
theorem ft_lay {M M1 M2 : fl_M} {R I : Nat} {v x y : Int32} (hT : ft M) (hg : ft_g M) (hR : R < 6) (hI : (I : Int) < (M 1 R).toInt) (e1 : M1 = fl_u (fl_u M (3 + R) I v) 0 12 x) (e2 : M2 = fl_u (fl_u M1 88 (40 * R + I) v) 81 11 y) (lo : ∀ a, 81 ≤ a → M1 a = M a) (hi : ∀ a, a < 81 → M2 a = M1 a) : ft M2 := by
  refine ⟨fun j hj => ?_, ?_⟩
  · have g1 := hg.1 j hj
    have g2 := hg.1 R hR
    have c1 : M1 1 = M 1 := by rw [e1, fl_un (by decide), fl_un (by omega)]
    have c87 : M2 87 = M 87 := by rw [e2, fl_un (by decide), fl_un (by decide), lo 87 (by decide)]
    rw [hi 1 (by decide), c1, c87]
    refine ⟨(hT.1 j hj).1, fun q hq => ?_⟩
    have h2 := (hT.1 j hj).2 q hq
    have a1 : M1 (3 + j) = fl_u M (3 + R) I v (3 + j) := by rw [e1, fl_un (by omega)]
    have a2 : M2 88 = fl_u M1 88 (40 * R + I) v 88 := by rw [e2, fl_un (by decide)]
    rw [hi (3 + j) (by omega), a1, a2]
    unfold fl_u
    rw [lo 88 (by decide), ← h2]
    by_cases h : j = R ∧ q = I
    · rw [if_pos ⟨by omega, h.2⟩, if_pos ⟨rfl, by omega⟩]
    · rw [if_neg (by omega), if_neg (by omega)]
  · have k : ∀ a, (a = 9 ∨ (11 ≤ a ∧ a ≤ 14) ∨ (89 ≤ a ∧ a ≤ 90)) → M2 a = M a := by
      intro a ha
      rcases Nat.lt_or_ge a 81 with h | h
      · rw [hi a h, e1, fl_un (by omega), fl_un (by omega)]
      · rw [e2, fl_un (by omega), fl_un (by omega), lo a h]
    intro j hj
    rw [k 9 (by omega), k 89 (by omega), k (11 + j) (by omega), k 90 (by omega)]
    exact hT.2 j hj
theorem ft_layP (r i v : Int32) : ft_P (fun M => if (r < 0) ∨ (¬ (r < 6)) then (-1) else (if (M 1 r.toNatClampNeg) = (-1) then (-3) else (if i < 0 then (-3) else (if i < (M 1 r.toNatClampNeg) then 1 else (-3)))))
      (fun M => if (r < 0) ∨ (¬ (r < 6)) then M else (if (M 1 r.toNatClampNeg) = (-1) then (fl_u (fl_u M 0 11 1) 80 1 ((M 80 1) + 1)) else (if i < 0 then (fl_u (fl_u M 0 11 2) 80 2 ((M 80 2) + 1)) else (if i < (M 1 r.toNatClampNeg) then (fl_u (fl_u M (fl_ar 2 r.toNatClampNeg) i.toNatClampNeg v) 0 12 (M (fl_ar 2 r.toNatClampNeg) i.toNatClampNeg)) else (fl_u (fl_u M 0 11 2) 80 2 ((M 80 2) + 1))))))
      (fun M => if (¬ (r < 0)) ∧ (¬ (5 < r)) then (if (M 87 r.toNatClampNeg) < 0 then (-3) else (if (¬ (i < 0)) ∧ (¬ ((M 87 r.toNatClampNeg) - 1 < i)) then 1 else (-3))) else (-1))
      (fun M => if (¬ (r < 0)) ∧ (¬ (5 < r)) then (if (M 87 r.toNatClampNeg) < 0 then (fl_u (fl_u M 81 14 1) 91 1 ((M 91 1) + 1)) else (if (¬ (i < 0)) ∧ (¬ ((M 87 r.toNatClampNeg) - 1 < i)) then (fl_u (fl_u M 88 (((40 * r) + i).toNatClampNeg) v) 81 11 (M 88 (((40 * r) + i).toNatClampNeg))) else (fl_u (fl_u M 81 14 2) 91 2 ((M 91 2) + 1)))) else M) := by
  refine ft_place (x := fun _ => 1) (y := fun _ => 1) (fun M M1 M2 hT hg hA hC hE e1 e2 lo hi => ⟨rfl, ?_⟩)
  obtain ⟨r1, r2, r3⟩ := ft_R hA
  have g1 := hg.1 _ r3
  have c1 := fi_ge.mp hC
  have c2 := fi_l.mp hE
  rw [fi_i0] at c1
  have c3 := fi_cl i
  rw [fi_40 r1 r2 c1 (by omega)] at e2
  rw [fl_ar2] at e1
  exact ft_lay hT hg r3 (by omega) e1 e2 lo hi
theorem ft_atP (r i : Int32) : ft_P (fun M => if (r < 0) ∨ (¬ (r < 6)) then (-1) else (if (M 1 r.toNatClampNeg) = (-1) then (-3) else (if i < 0 then (-3) else (if i < (M 1 r.toNatClampNeg) then 1 else (-3)))))
      (fun M => if (r < 0) ∨ (¬ (r < 6)) then M else (if (M 1 r.toNatClampNeg) = (-1) then (fl_u (fl_u M 0 11 1) 80 1 ((M 80 1) + 1)) else (if i < 0 then (fl_u (fl_u M 0 11 2) 80 2 ((M 80 2) + 1)) else (if i < (M 1 r.toNatClampNeg) then (fl_u M 0 12 (M (fl_ar 2 r.toNatClampNeg) i.toNatClampNeg)) else (fl_u (fl_u M 0 11 2) 80 2 ((M 80 2) + 1))))))
      (fun M => if (¬ (r < 0)) ∧ (¬ (5 < r)) then (if (M 87 r.toNatClampNeg) < 0 then (-3) else (if (¬ (i < 0)) ∧ (¬ ((M 87 r.toNatClampNeg) - 1 < i)) then 1 else (-3))) else (-1))
      (fun M => if (¬ (r < 0)) ∧ (¬ (5 < r)) then (if (M 87 r.toNatClampNeg) < 0 then (fl_u (fl_u M 81 14 1) 91 1 ((M 91 1) + 1)) else (if (¬ (i < 0)) ∧ (¬ ((M 87 r.toNatClampNeg) - 1 < i)) then (fl_u M 81 11 (M 88 (((40 * r) + i).toNatClampNeg))) else (fl_u (fl_u M 81 14 2) 91 2 ((M 91 2) + 1)))) else M) := by
  refine ft_place (x := fun _ => 1) (y := fun _ => 1) (fun M M1 M2 hT hg hA hC hE e1 e2 lo hi => ⟨rfl, ?_⟩)
  refine ft_cong (fun a ha => ?_) hT
  unfold ft_d at ha
  rw [e2, fl_un (by omega), e1, fl_un (by omega)]
/-- a row's size written on both sides; the row is filled with v as far as n -/
theorem ft_size {M M1 M2 : fl_M} {R : Nat} {n v : Int32} (hT : ft M) (hR : R < 6) (h1 : n.toInt ≤ 40) (e1 : ∀ a, a ≠ 1 → a ≠ 3 + R → M1 a = M a) (s1 : ∀ j, M1 1 j = if j = R then n else M 1 j) (f1 : ∀ q : Nat, (q : Int) < n.toInt → M1 (3 + R) q = v)
    (e2 : ∀ a, 81 ≤ a → a ≠ 87 → a ≠ 88 → M2 a = M1 a) (s2 : ∀ j, M2 87 j = if j = R then n else M1 87 j) (f2 : ∀ q : Nat, (q : Int) < n.toInt → M2 88 (40 * R + q) = v) (g2 : ∀ q, ¬ (40 * R ≤ q ∧ q < 40 * R + 40) → M2 88 q = M1 88 q) (lo : ∀ a, 81 ≤ a → M1 a = M a) (hi : ∀ a, a < 81 → M2 a = M1 a) (hg : ft_g M) : ft M2 := by
  refine ⟨fun j hj => ?_, fun j hj => ?_⟩
  · have hs := hT.1 j hj
    have g1 := hg.1 j hj
    rw [hi 1 (by decide), s1, s2, lo 87 (by decide)]
    by_cases hjR : j = R
    · subst hjR
      rw [if_pos rfl, if_pos rfl]
      refine ⟨rfl, fun q hq => ?_⟩
      rw [hi (3 + j) (by omega), f1 q hq, f2 q hq]
    · rw [if_neg hjR, if_neg hjR]
      refine ⟨hs.1, fun q hq => ?_⟩
      rw [hi (3 + j) (by omega), e1 (3 + j) (by omega) (by omega), g2 _ (by omega), lo 88 (by decide)]
      exact hs.2 q hq
  · rw [hi 9 (by decide), e1 9 (by decide) (by omega), e2 89 (by decide) (by decide) (by decide), lo 89 (by decide), hi (11 + j) (by omega), e1 (11 + j) (by omega) (by omega), e2 90 (by decide) (by decide) (by decide), lo 90 (by decide)]
    exact hT.2 j hj
theorem ft_tearP (r : Int32) : ft_P (fun M => if (r < 0) ∨ (¬ (r < 6)) then (-1) else (if (M 1 r.toNatClampNeg) = (-1) then (-3) else 1))
      (fun M => if (r < 0) ∨ (¬ (r < 6)) then M else (if (M 1 r.toNatClampNeg) = (-1) then (fl_u (fl_u M 0 11 1) 80 1 ((M 80 1) + 1)) else (fl_u M 1 r.toNatClampNeg (-1))))
      (fun M => if (¬ (r < 0)) ∧ (¬ (5 < r)) then (if (M 87 r.toNatClampNeg) < 0 then (-3) else 1) else (-1))
      (fun M => if (¬ (r < 0)) ∧ (¬ (5 < r)) then (if (M 87 r.toNatClampNeg) < 0 then (fl_u (fl_u M 81 14 1) 91 1 ((M 91 1) + 1)) else (fl_u M 87 r.toNatClampNeg (-1))) else M) := by
  intro M M1 M2 hT hg e1 e2 lo hi
  dsimp only at e1 e2 ⊢
  by_cases hA : (r < 0) ∨ (¬ (r < 6))
  · rw [if_pos hA] at e1
    rw [if_neg (fun z => ft_A.mp z hA)] at e2
    rw [if_pos hA, if_neg (fun z => ft_A.mp z hA)]
    exact ⟨rfl, by rw [e2, e1]; exact hT⟩
  · obtain ⟨r1, r2, r3⟩ := ft_R hA
    have g1 := hg.1 _ r3
    have es : M1 87 r.toNatClampNeg = M 1 r.toNatClampNeg := by rw [lo 87 (by decide), (hT.1 _ r3).1]
    rw [if_neg hA] at e1
    rw [if_pos (ft_A.mpr hA), es] at e2
    rw [if_neg hA, if_pos (ft_A.mpr hA), es]
    by_cases hB : M 1 r.toNatClampNeg = -1
    · rw [if_pos hB] at e1
      rw [if_pos ((ft_B g1.1).mpr hB)] at e2
      rw [if_pos hB, if_pos ((ft_B g1.1).mpr hB)]
      exact ⟨rfl, ft_ref e1 e2 hT⟩
    · rw [if_neg hB] at e1
      rw [if_neg (fun z => hB ((ft_B g1.1).mp z))] at e2
      rw [if_neg hB, if_neg (fun z => hB ((ft_B g1.1).mp z))]
      refine ⟨rfl, ft_size (n := -1) (v := 0) hT r3 (by rw [fi_m1]; decide) (fun a h1 _ => by rw [e1, fl_un h1]) (fun j => by rw [e1]; unfold fl_u; simp) (fun q hq => by rw [fi_m1] at hq; omega) (fun a _ h1 _ => by rw [e2, fl_un h1]) (fun j => by rw [e2]; unfold fl_u; simp) (fun q hq => by rw [fi_m1] at hq; omega) (fun q _ => by rw [e2, fl_un (by decide)]) lo hi hg⟩
theorem ft_rowP (r n : Int32) : ft_P (fun M => if (r < 0) ∨ (¬ (r < 6)) then (-1) else (if 40 < n then (-1) else (if n < 0 then (-3) else n)))
      (fun M => if (r < 0) ∨ (¬ (r < 6)) then M else (if 40 < n then M else (if n < 0 then (fl_u (fl_u M 0 11 5) 80 5 ((M 80 5) + 1)) else (fl_u (fl_f M (fl_ar 2 r.toNatClampNeg) n.toNatClampNeg 0) 1 r.toNatClampNeg n))))
      (fun M => if (¬ (r < 0)) ∧ (¬ (5 < r)) then (if 40 < n then (-1) else (if n < 0 then (-3) else n)) else (-1))
      (fun M => if (¬ (r < 0)) ∧ (¬ (5 < r)) then (if 40 < n then M else (if n < 0 then (fl_u (fl_u M 81 14 5) 91 5 ((M 91 5) + 1)) else (fl_g (fl_u M 87 r.toNatClampNeg n) 88 (40 * r.toNatClampNeg) 40 0))) else M) := by
  intro M M1 M2 hT hg e1 e2 lo hi
  dsimp only at e1 e2 ⊢
  by_cases hA : (r < 0) ∨ (¬ (r < 6))
  · rw [if_pos hA] at e1
    rw [if_neg (fun z => ft_A.mp z hA)] at e2
    rw [if_pos hA, if_neg (fun z => ft_A.mp z hA)]
    exact ⟨rfl, by rw [e2, e1]; exact hT⟩
  · obtain ⟨r1, r2, r3⟩ := ft_R hA
    rw [if_neg hA] at e1
    rw [if_pos (ft_A.mpr hA)] at e2
    rw [if_neg hA, if_pos (ft_A.mpr hA)]
    refine ⟨rfl, ?_⟩
    by_cases hB : 40 < n
    · rw [if_pos hB] at e1 e2
      rw [e2, e1]
      exact hT
    · rw [if_neg hB] at e1 e2
      by_cases hC : n < 0
      · rw [if_pos hC] at e1 e2
        exact ft_ref e1 e2 hT
      · rw [if_neg hC] at e1 e2
        have b1 := fi_ge.mp hB
        have b2 := fi_ge.mp hC
        rw [fi_i40] at b1
        rw [fi_i0] at b2
        have b3 := fi_cl n
        rw [fl_ar2] at e1
        refine ft_size (n := n) (v := 0) hT r3 b1 (fun a h1 h2 => by rw [e1, fl_un h1, fl_fn h2]) (fun j => by rw [e1]; unfold fl_u; rw [fl_fn (show 1 ≠ 3 + r.toNatClampNeg by omega)]; simp) (fun q hq => by rw [e1, fl_un (by omega)]; unfold fl_f; rw [if_pos ⟨rfl, by omega⟩]) (fun a _ h1 h2 => by rw [e2, fl_gn h2, fl_un h1]) (fun j => by rw [e2, fl_gn (by decide)]; unfold fl_u; simp) (fun q hq => by rw [e2]; unfold fl_g; rw [if_pos ⟨rfl, by omega⟩]) (fun q hq => by rw [e2]; unfold fl_g; rw [if_neg (fun z => hq z.2), fl_un (by decide)]) lo hi hg
/-- a text's size written on both sides; the row is filled with v as far as n -/
theorem ft_sizeT {M M1 M2 : fl_M} {R : Nat} {n v : Int32} (hv : -128 ≤ v.toInt ∧ v.toInt ≤ 127) (hT : ft M) (hR : R < 4) (h1 : n.toInt ≤ 60) (e1 : ∀ a, a ≠ 9 → a ≠ 11 + R → M1 a = M a) (s1 : ∀ j, M1 9 j = if j = R then n else M 9 j) (f1 : ∀ q : Nat, (q : Int) < n.toInt → M1 (11 + R) q = v)
    (e2 : ∀ a, 81 ≤ a → a ≠ 89 → a ≠ 90 → M2 a = M1 a) (s2 : ∀ j, M2 89 j = if j = R then n else M1 89 j) (f2 : ∀ q : Nat, (q : Int) < n.toInt → M2 90 (60 * R + q) = v) (g2 : ∀ q, ¬ (60 * R ≤ q ∧ q < 60 * R + 60) → M2 90 q = M1 90 q) (lo : ∀ a, 81 ≤ a → M1 a = M a) (hi : ∀ a, a < 81 → M2 a = M1 a) (hg : ft_g M) : ft M2 := by
  refine ⟨fun j hj => ?_, fun j hj => ?_⟩
  · rw [hi 1 (by decide), e1 1 (by decide) (by omega), e2 87 (by decide) (by decide) (by decide), lo 87 (by decide), hi (3 + j) (by omega), e1 (3 + j) (by omega) (by omega), e2 88 (by decide) (by decide) (by decide), lo 88 (by decide)]
    exact hT.1 j hj
  · have hs := hT.2 j hj
    have g1 := hg.2.1 j hj
    rw [hi 9 (by decide), s1, s2, lo 89 (by decide)]
    by_cases hjR : j = R
    · subst hjR
      rw [if_pos rfl, if_pos rfl]
      refine ⟨rfl, fun q hq => ?_⟩
      rw [hi (11 + j) (by omega), f1 q hq, f2 q hq]
      exact ⟨rfl, hv⟩
    · rw [if_neg hjR, if_neg hjR]
      refine ⟨hs.1, fun q hq => ?_⟩
      rw [hi (11 + j) (by omega), e1 (11 + j) (by omega) (by omega), g2 _ (by omega), lo 90 (by decide)]
      exact hs.2 q hq
theorem ft_textP (r n : Int32) : ft_P (fun M => if (r < 0) ∨ (¬ (r < 4)) then (-1) else (if 60 < n then (-1) else (if n < 0 then (-3) else n)))
      (fun M => if (r < 0) ∨ (¬ (r < 4)) then M else (if 60 < n then M else (if n < 0 then (fl_u (fl_u M 0 11 5) 80 5 ((M 80 5) + 1)) else (fl_u (fl_f M (fl_ar 10 r.toNatClampNeg) n.toNatClampNeg 32) 9 r.toNatClampNeg n))))
      (fun M => if (¬ (r < 0)) ∧ (¬ (3 < r)) then (if 60 < n then (-1) else (if n < 0 then (-3) else n)) else (-1))
      (fun M => if (¬ (r < 0)) ∧ (¬ (3 < r)) then (if 60 < n then M else (if n < 0 then (fl_u (fl_u M 81 14 5) 91 5 ((M 91 5) + 1)) else (fl_g (fl_u M 89 r.toNatClampNeg n) 90 (60 * r.toNatClampNeg) 60 32))) else M) := by
  intro M M1 M2 hT hg e1 e2 lo hi
  dsimp only at e1 e2 ⊢
  by_cases hA : (r < 0) ∨ (¬ (r < 4))
  · rw [if_pos hA] at e1
    rw [if_neg (fun z => ft_A3.mp z hA)] at e2
    rw [if_pos hA, if_neg (fun z => ft_A3.mp z hA)]
    exact ⟨rfl, by rw [e2, e1]; exact hT⟩
  · obtain ⟨r1, r2, r3⟩ := ft_R4 hA
    rw [if_neg hA] at e1
    rw [if_pos (ft_A3.mpr hA)] at e2
    rw [if_neg hA, if_pos (ft_A3.mpr hA)]
    refine ⟨rfl, ?_⟩
    by_cases hB : 60 < n
    · rw [if_pos hB] at e1 e2
      rw [e2, e1]
      exact hT
    · rw [if_neg hB] at e1 e2
      by_cases hC : n < 0
      · rw [if_pos hC] at e1 e2
        exact ft_ref e1 e2 hT
      · rw [if_neg hC] at e1 e2
        have b1 := fi_ge.mp hB
        have b2 := fi_ge.mp hC
        rw [fi_i60] at b1
        rw [fi_i0] at b2
        have b3 := fi_cl n
        rw [fl_ar10] at e1
        refine ft_sizeT (n := n) (v := 32) (by decide) hT r3 b1 (fun a h1 h2 => by rw [e1, fl_un h1, fl_fn h2]) (fun j => by rw [e1]; unfold fl_u; rw [fl_fn (show 9 ≠ 11 + r.toNatClampNeg by omega)]; simp) (fun q hq => by rw [e1, fl_un (by omega)]; unfold fl_f; rw [if_pos ⟨rfl, by omega⟩]) (fun a _ h1 h2 => by rw [e2, fl_gn h2, fl_un h1]) (fun j => by rw [e2, fl_gn (by decide)]; unfold fl_u; simp) (fun q hq => by rw [e2]; unfold fl_g; rw [if_pos ⟨rfl, by omega⟩]) (fun q hq => by rw [e2]; unfold fl_g; rw [if_neg (fun z => hq z.2), fl_un (by decide)]) lo hi hg
theorem ft_nar (v : Int32) : vp_nar .byte v.toInt8.toInt32 = v.toInt8.toInt32 := by
  show v.toInt8.toInt32.toInt8.toInt32 = _
  rw [Int8.toInt8_toInt32]
/-- put -/
theorem ft_putP (t i v : Int32) : ft_P (fun M => if (t < 0) ∨ (¬ (t < 4)) then (-1) else (if (M 9 t.toNatClampNeg) = (-1) then (-3) else (if i < 0 then (-3) else (if i < (M 9 t.toNatClampNeg) then (M (fl_ar 10 t.toNatClampNeg) i.toNatClampNeg) + 1000 else (-3)))))
      (fun M => if (t < 0) ∨ (¬ (t < 4)) then M else (if (M 9 t.toNatClampNeg) = (-1) then (fl_u (fl_u M 0 11 1) 80 1 ((M 80 1) + 1)) else (if i < 0 then (fl_u (fl_u M 0 11 2) 80 2 ((M 80 2) + 1)) else (if i < (M 9 t.toNatClampNeg) then (fl_u M (fl_ar 10 t.toNatClampNeg) i.toNatClampNeg (vp_nar .byte v.toInt8.toInt32)) else (fl_u (fl_u M 0 11 2) 80 2 ((M 80 2) + 1))))))
      (fun M => if (¬ (t < 0)) ∧ (¬ (3 < t)) then (if (M 89 t.toNatClampNeg) < 0 then (-3) else (if (¬ (i < 0)) ∧ (¬ ((M 89 t.toNatClampNeg) - 1 < i)) then (M 90 (((60 * t) + i).toNatClampNeg)) + 1000 else (-3))) else (-1))
      (fun M => if (¬ (t < 0)) ∧ (¬ (3 < t)) then (if (M 89 t.toNatClampNeg) < 0 then (fl_u (fl_u M 81 14 1) 91 1 ((M 91 1) + 1)) else (if (¬ (i < 0)) ∧ (¬ ((M 89 t.toNatClampNeg) - 1 < i)) then (fl_u M 90 (((60 * t) + i).toNatClampNeg) v.toInt8.toInt32) else (fl_u (fl_u M 81 14 2) 91 2 ((M 91 2) + 1)))) else M) := by
  intro M M1 M2 hT hg e1 e2 lo hi
  dsimp only at e1 e2 ⊢
  by_cases hA : (t < 0) ∨ (¬ (t < 4))
  · rw [if_pos hA] at e1
    rw [if_neg (fun z => ft_A3.mp z hA)] at e2
    rw [if_pos hA, if_neg (fun z => ft_A3.mp z hA)]
    exact ⟨rfl, by rw [e2, e1]; exact hT⟩
  · obtain ⟨r1, r2, r3⟩ := ft_R4 hA
    have g1 := hg.2.1 _ r3
    have es : M1 89 t.toNatClampNeg = M 9 t.toNatClampNeg := by rw [lo 89 (by decide), (hT.2 _ r3).1]
    rw [if_neg hA] at e1
    rw [if_pos (ft_A3.mpr hA), es] at e2
    rw [if_neg hA, if_pos (ft_A3.mpr hA), es]
    by_cases hB : M 9 t.toNatClampNeg = -1
    · rw [if_pos hB] at e1
      rw [if_pos ((ft_B g1.1).mpr hB)] at e2
      rw [if_pos hB, if_pos ((ft_B g1.1).mpr hB)]
      exact ⟨rfl, ft_ref e1 e2 hT⟩
    · rw [if_neg hB] at e1
      rw [if_neg (fun z => hB ((ft_B g1.1).mp z))] at e2
      rw [if_neg hB, if_neg (fun z => hB ((ft_B g1.1).mp z))]
      have hD := ft_D (i := i) g1.1 (by omega)
      by_cases hC : i < 0
      · rw [if_pos hC] at e1
        rw [if_neg (fun z => z.1 hC)] at e2
        rw [if_pos hC, if_neg (fun z => z.1 hC)]
        exact ⟨rfl, ft_ref e1 e2 hT⟩
      · rw [if_neg hC] at e1
        rw [if_neg hC]
        by_cases hE : i < M 9 t.toNatClampNeg
        · rw [if_pos hE] at e1
          rw [if_pos (hD.mpr ⟨hC, hE⟩)] at e2
          rw [if_pos hE, if_pos (hD.mpr ⟨hC, hE⟩)]
          have c1 := fi_ge.mp hC
          have c2 := fi_l.mp hE
          rw [fi_i0] at c1
          have c3 := fi_cl i
          have ix := fi_60 (k := i) r1 r2 c1 (by omega)
          rw [ix] at e2 ⊢
          rw [fl_ar10] at e1 ⊢
          rw [ft_nar] at e1
          refine ⟨by rw [lo 90 (by decide), ((hT.2 _ r3).2 i.toNatClampNeg (by omega)).1], ?_⟩
          have k : ∀ a, (a = 1 ∨ (3 ≤ a ∧ a ≤ 9) ∨ (87 ≤ a ∧ a ≤ 89)) → M2 a = M a := by
            intro a ha
            rcases Nat.lt_or_ge a 81 with h | h
            · rw [hi a h, e1, fl_un (by omega)]
            · rw [e2, fl_un (by omega), lo a h]
          refine ⟨fun j hj => ?_, fun j hj => ?_⟩
          · rw [k 1 (by omega), k 87 (by omega), k (3 + j) (by omega), k 88 (by omega)]
            exact hT.1 j hj
          · have g2 := hg.2.1 j hj
            rw [k 9 (by omega), k 89 (by omega)]
            refine ⟨(hT.2 j hj).1, fun q hq => ?_⟩
            obtain ⟨h2, h3⟩ := (hT.2 j hj).2 q hq
            rw [hi (11 + j) (by omega), e1, e2]
            unfold fl_u
            rw [lo 90 (by decide), ← h2]
            by_cases h : j = t.toNatClampNeg ∧ q = i.toNatClampNeg
            · rw [if_pos ⟨by omega, h.2⟩, if_pos ⟨rfl, by omega⟩]
              refine ⟨rfl, ?_⟩
              rw [Int8.toInt_toInt32]
              have b1 := v.toInt8.le_toInt
              have b2 := v.toInt8.toInt_lt
              omega
            · rw [if_neg (by omega), if_neg (by omega)]
              exact ⟨rfl, h3⟩
        · rw [if_neg hE] at e1
          rw [if_neg (fun z => hE (hD.mp z).2)] at e2
          rw [if_neg hE, if_neg (fun z => hE (hD.mp z).2)]
          exact ⟨rfl, ft_ref e1 e2 hT⟩
/-- mean: nothing of the rows changes -/
theorem ft_meanP (r : Int32) : ft_P (fun M => if (r < 0) ∨ (¬ (r < 6)) then (-1) else (if (M 1 r.toNatClampNeg) = (-1) then (-3) else (if 0 < (M 1 r.toNatClampNeg) then 1 else (-3))))
      (fun M => if (r < 0) ∨ (¬ (r < 6)) then M else (if (M 1 r.toNatClampNeg) = (-1) then (fl_u (fl_u M 0 11 1) 80 1 ((M 80 1) + 1)) else (if 0 < (M 1 r.toNatClampNeg) then (fl_u M 0 12 (fl_sm (M (fl_ar 2 r.toNatClampNeg)) (M 1 r.toNatClampNeg).toNatClampNeg / (M 1 r.toNatClampNeg).toInt64).toInt32) else (fl_u (fl_u M 0 11 4) 80 4 ((M 80 4) + 1)))))
      (fun M => if (¬ (r < 0)) ∧ (¬ (5 < r)) then (if (M 87 r.toNatClampNeg) < 0 then (-3) else (if (M 87 r.toNatClampNeg) = 0 then (-3) else 1)) else (-1))
      (fun M => if (¬ (r < 0)) ∧ (¬ (5 < r)) then (if (M 87 r.toNatClampNeg) < 0 then (fl_u (fl_u M 81 14 1) 91 1 ((M 91 1) + 1)) else (if (M 87 r.toNatClampNeg) = 0 then (fl_u (fl_u M 81 14 4) 91 4 ((M 91 4) + 1)) else (fl_u M 81 11 (fl_sm (fun k => M 88 (40 * r.toNatClampNeg + k)) (M 87 r.toNatClampNeg).toNatClampNeg / (M 87 r.toNatClampNeg).toInt64).toInt32))) else M) := by
  intro M M1 M2 hT hg e1 e2 lo hi
  dsimp only at e1 e2 ⊢
  by_cases hA : (r < 0) ∨ (¬ (r < 6))
  · rw [if_pos hA] at e1
    rw [if_neg (fun z => ft_A.mp z hA)] at e2
    rw [if_pos hA, if_neg (fun z => ft_A.mp z hA)]
    exact ⟨rfl, by rw [e2, e1]; exact hT⟩
  · obtain ⟨r1, r2, r3⟩ := ft_R hA
    have g1 := hg.1 _ r3
    have es : M1 87 r.toNatClampNeg = M 1 r.toNatClampNeg := by rw [lo 87 (by decide), (hT.1 _ r3).1]
    rw [if_neg hA] at e1
    rw [if_pos (ft_A.mpr hA), es] at e2
    rw [if_neg hA, if_pos (ft_A.mpr hA), es]
    by_cases hB : M 1 r.toNatClampNeg = -1
    · rw [if_pos hB] at e1
      rw [if_pos ((ft_B g1.1).mpr hB)] at e2
      rw [if_pos hB, if_pos ((ft_B g1.1).mpr hB)]
      exact ⟨rfl, ft_ref e1 e2 hT⟩
    · rw [if_neg hB] at e1
      rw [if_neg (fun z => hB ((ft_B g1.1).mp z))] at e2
      rw [if_neg hB, if_neg (fun z => hB ((ft_B g1.1).mp z))]
      have h0 : M 1 r.toNatClampNeg = 0 ↔ ¬ 0 < M 1 r.toNatClampNeg := by
        rw [fi_e, fi_m1] at hB
        rw [fi_e, fi_l, fi_i0]
        omega
      by_cases hC : 0 < M 1 r.toNatClampNeg
      · rw [if_pos hC] at e1
        rw [if_neg (fun z => h0.mp z hC)] at e2
        rw [if_pos hC, if_neg (fun z => h0.mp z hC)]
        refine ⟨rfl, ft_cong (fun a ha => ?_) hT⟩
        unfold ft_d at ha
        rw [e2, fl_un (by omega), e1, fl_un (by omega)]
      · rw [if_neg hC] at e1
        rw [if_pos (h0.mpr hC)] at e2
        rw [if_neg hC, if_pos (h0.mpr hC)]
        exact ⟨rfl, ft_ref e1 e2 hT⟩
theorem ft_S {i n s : Int32} (h : -1 ≤ s.toInt) (h2 : s.toInt ≤ 60) (hn : ¬ n < 0) : ((¬ (i < 0)) ∧ (¬ ((s.toInt64) < (i.toInt64 + n.toInt64)))) ↔ ¬ ((i < 0) ∨ ((s - n) < i)) := by
  have n1 := fi_ge.mp hn
  rw [fi_i0] at n1
  have n2 := n.toInt_lt
  rw [fi_span, fi_l, fi_l, fi_sub (by omega) (by omega), fi_i0]
  omega
/-- a stretch copied on both sides -/
theorem ft_cpy {M M1 M2 : fl_M} {R T I K N : Nat} (hT : ft M) (hg : ft_g M) (hR : R < 6) (hTo : T < 6) (hI : (I : Int) + N ≤ (M 1 R).toInt) (hK : (K : Int) + N ≤ (M 1 T).toInt) (e1 : M1 = fl_y M (3 + R) I (3 + T) K N) (e2 : M2 = fl_k M1 88 (40 * R + I) (40 * T + K) 0 N) (lo : ∀ a, 81 ≤ a → M1 a = M a) (hi : ∀ a, a < 81 → M2 a = M1 a) : ft M2 := by
  have gR := hg.1 R hR
  have gT := hg.1 T hTo
  have n1 : ∀ a, a ≠ 3 + T → M1 a = M a := by
    intro a ha
    rw [e1]
    funext q
    unfold fl_y
    rw [if_neg (fun z => ha z.1)]
  have n2 : ∀ a, 81 ≤ a → a ≠ 88 → M2 a = M a := by
    intro a h1 ha
    rw [← lo a h1, e2]
    funext q
    unfold fl_k
    rw [if_neg (fun z => ha z.1)]
  refine ⟨fun j hj => ?_, fun j hj => ?_⟩
  · have gj := hg.1 j hj
    rw [hi 1 (by decide), n1 1 (by omega), n2 87 (by decide) (by decide)]
    refine ⟨(hT.1 j hj).1, fun q hq => ?_⟩
    have h2 := (hT.1 j hj).2 q hq
    have l88 := lo 88 (by decide)
    rw [hi (3 + j) (by omega), e2, e1]
    unfold fl_k
    rw [← e1, l88, e1]
    unfold fl_y
    by_cases h : j = T ∧ K ≤ q ∧ q < K + N
    · rw [if_pos ⟨by omega, h.2⟩, if_pos ⟨rfl, by omega⟩]
      have h3 := (hT.1 R hR).2 (I + (q - K)) (by omega)
      rw [h3]
      congr 1
      omega
    · rw [if_neg (by omega), if_neg (by omega)]
      exact h2
  · rw [hi 9 (by decide), n1 9 (by omega), n2 89 (by decide) (by decide), hi (11 + j) (by omega), n1 (11 + j) (by omega), n2 90 (by decide) (by decide)]
    exact hT.2 j hj
theorem ft_copyP (r i to j n : Int32) : ft_P (fun M => if (r < 0) ∨ (¬ (r < 6)) then (-1) else (if (to < 0) ∨ (¬ (to < 6)) then (-1) else (if n < 0 then (-3) else (if (M 1 r.toNatClampNeg) = (-1) then (-3) else (if (M 1 to.toNatClampNeg) = (-1) then (-3) else (if (i < 0) ∨ (((M 1 r.toNatClampNeg) - n) < i) then (-3) else (if (j < 0) ∨ (((M 1 to.toNatClampNeg) - n) < j) then (-3) else 1)))))))
    (fun M => if (r < 0) ∨ (¬ (r < 6)) then M else (if (to < 0) ∨ (¬ (to < 6)) then M else (if n < 0 then (fl_u (fl_u M 0 11 5) 80 5 ((M 80 5) + 1)) else (if (M 1 r.toNatClampNeg) = (-1) then (fl_u (fl_u M 0 11 1) 80 1 ((M 80 1) + 1)) else (if (M 1 to.toNatClampNeg) = (-1) then (fl_u (fl_u M 0 11 1) 80 1 ((M 80 1) + 1)) else (if (i < 0) ∨ (((M 1 r.toNatClampNeg) - n) < i) then (fl_u (fl_u M 0 11 2) 80 2 ((M 80 2) + 1)) else (if (j < 0) ∨ (((M 1 to.toNatClampNeg) - n) < j) then (fl_u (fl_u M 0 11 2) 80 2 ((M 80 2) + 1)) else (fl_y M (fl_ar 2 r.toNatClampNeg) i.toNatClampNeg (fl_ar 2 to.toNatClampNeg) j.toNatClampNeg n.toNatClampNeg))))))))
    (fun M => if (¬ (r < 0)) ∧ (¬ (5 < r)) then (if (¬ (to < 0)) ∧ (¬ (5 < to)) then (if n < 0 then (-3) else (if (M 87 r.toNatClampNeg) < 0 then (-3) else (if (M 87 to.toNatClampNeg) < 0 then (-3) else (if (¬ (i < 0)) ∧ (¬ (((M 87 r.toNatClampNeg).toInt64) < (i.toInt64 + n.toInt64))) then (if (¬ (j < 0)) ∧ (¬ (((M 87 to.toNatClampNeg).toInt64) < (j.toInt64 + n.toInt64))) then (if i < j then 1 else 1) else (-3)) else (-3))))) else (-1)) else (-1))
    (fun M => if (¬ (r < 0)) ∧ (¬ (5 < r)) then (if (¬ (to < 0)) ∧ (¬ (5 < to)) then (if n < 0 then (fl_u (fl_u M 81 14 5) 91 5 ((M 91 5) + 1)) else (if (M 87 r.toNatClampNeg) < 0 then (fl_u (fl_u M 81 14 1) 91 1 ((M 91 1) + 1)) else (if (M 87 to.toNatClampNeg) < 0 then (fl_u (fl_u M 81 14 1) 91 1 ((M 91 1) + 1)) else (if (¬ (i < 0)) ∧ (¬ (((M 87 r.toNatClampNeg).toInt64) < (i.toInt64 + n.toInt64))) then (if (¬ (j < 0)) ∧ (¬ (((M 87 to.toNatClampNeg).toInt64) < (j.toInt64 + n.toInt64))) then (fl_k M 88 (40 * r.toNatClampNeg + i.toNatClampNeg) (40 * to.toNatClampNeg + j.toNatClampNeg) 0 n.toNatClampNeg) else (fl_u (fl_u M 81 14 2) 91 2 ((M 91 2) + 1))) else (fl_u (fl_u M 81 14 2) 91 2 ((M 91 2) + 1)))))) else M) else M) := by
  intro M M1 M2 hT hg e1 e2 lo hi
  dsimp only at e1 e2 ⊢
  have hM : ∀ {M2 : fl_M}, M2 = M1 → M1 = M → ft M2 := fun a b => by rw [a, b]; exact hT
  by_cases hA : (r < 0) ∨ (¬ (r < 6))
  · rw [if_pos hA] at e1
    rw [if_neg (fun z => ft_A.mp z hA)] at e2
    rw [if_pos hA, if_neg (fun z => ft_A.mp z hA)]
    exact ⟨rfl, hM e2 e1⟩
  by_cases hA' : (to < 0) ∨ (¬ (to < 6))
  · rw [if_neg hA, if_pos hA'] at e1
    rw [if_pos (ft_A.mpr hA), if_neg (fun z => ft_A.mp z hA')] at e2
    rw [if_neg hA, if_pos hA', if_pos (ft_A.mpr hA), if_neg (fun z => ft_A.mp z hA')]
    exact ⟨rfl, hM e2 e1⟩
  obtain ⟨r1, r2, r3⟩ := ft_R hA
  obtain ⟨t1, t2, t3⟩ := ft_R hA'
  have g1 := hg.1 _ r3
  have g2 := hg.1 _ t3
  have es : M1 87 r.toNatClampNeg = M 1 r.toNatClampNeg := by rw [lo 87 (by decide), (hT.1 _ r3).1]
  have et : M1 87 to.toNatClampNeg = M 1 to.toNatClampNeg := by rw [lo 87 (by decide), (hT.1 _ t3).1]
  rw [if_neg hA, if_neg hA'] at e1
  rw [if_pos (ft_A.mpr hA), if_pos (ft_A.mpr hA'), es, et] at e2
  rw [if_neg hA, if_neg hA', if_pos (ft_A.mpr hA), if_pos (ft_A.mpr hA'), es, et]
  by_cases hN : n < 0
  · rw [if_pos hN] at e1 e2
    rw [if_pos hN, if_pos hN]
    exact ⟨rfl, ft_ref e1 e2 hT⟩
  rw [if_neg hN] at e1 e2
  rw [if_neg hN, if_neg hN]
  by_cases hB : M 1 r.toNatClampNeg = -1
  · rw [if_pos hB] at e1
    rw [if_pos ((ft_B g1.1).mpr hB)] at e2
    rw [if_pos hB, if_pos ((ft_B g1.1).mpr hB)]
    exact ⟨rfl, ft_ref e1 e2 hT⟩
  rw [if_neg hB] at e1
  rw [if_neg (fun z => hB ((ft_B g1.1).mp z))] at e2
  rw [if_neg hB, if_neg (fun z => hB ((ft_B g1.1).mp z))]
  by_cases hB' : M 1 to.toNatClampNeg = -1
  · rw [if_pos hB'] at e1
    rw [if_pos ((ft_B g2.1).mpr hB')] at e2
    rw [if_pos hB', if_pos ((ft_B g2.1).mpr hB')]
    exact ⟨rfl, ft_ref e1 e2 hT⟩
  rw [if_neg hB'] at e1
  rw [if_neg (fun z => hB' ((ft_B g2.1).mp z))] at e2
  rw [if_neg hB', if_neg (fun z => hB' ((ft_B g2.1).mp z))]
  have hS := ft_S (i := i) g1.1 (by omega) hN
  have hS' := ft_S (i := j) g2.1 (by omega) hN
  by_cases hC : (i < 0) ∨ (((M 1 r.toNatClampNeg) - n) < i)
  · rw [if_pos hC] at e1
    rw [if_neg (fun z => hS.mp z hC)] at e2
    rw [if_pos hC, if_neg (fun z => hS.mp z hC)]
    exact ⟨rfl, ft_ref e1 e2 hT⟩
  rw [if_neg hC] at e1
  rw [if_pos (hS.mpr hC)] at e2
  rw [if_neg hC, if_pos (hS.mpr hC)]
  by_cases hC' : (j < 0) ∨ (((M 1 to.toNatClampNeg) - n) < j)
  · rw [if_pos hC'] at e1
    rw [if_neg (fun z => hS'.mp z hC')] at e2
    rw [if_pos hC', if_neg (fun z => hS'.mp z hC')]
    exact ⟨rfl, ft_ref e1 e2 hT⟩
  rw [if_neg hC'] at e1
  rw [if_pos (hS'.mpr hC')] at e2
  rw [if_neg hC', if_pos (hS'.mpr hC')]
  refine ⟨by split <;> rfl, ?_⟩
  have a1 := hS.mpr hC
  have a2 := hS'.mpr hC'
  rw [fi_span] at a1 a2
  have b1 := fi_ge.mp a1.1
  have b2 := fi_ge.mp a2.1
  have b3 := fi_ge.mp hN
  rw [fi_i0] at b1 b2 b3
  have c1 := fi_cl i
  have c2 := fi_cl j
  have c3 := fi_cl n
  rw [fl_ar2, fl_ar2] at e1
  exact ft_cpy hT hg r3 t3 (by omega) (by omega) e1 e2 lo hi
