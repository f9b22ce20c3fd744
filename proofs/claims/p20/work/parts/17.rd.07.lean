set_option maxRecDepth 30000 in
theorem ts_180_66 {r : fl_Q} (a b n tt tu : Int32) (u6 : Value) (M : fl_M) (J : fl_J) (q1 : (0 < tt) → (tu < 0) → (some (.int 1), (fl_u M 81 11 (M 97 4)), J) = r) (q2 : (0 < tt) → (¬ (tu < 0)) → ((M 81 1) < (M 96 tu.toNatClampNeg)) → ((tu + (-1)) < 0) → fl_dn fB180 (66, [.ref 81, .int a, .int b, .int n, .int tt, .int (tu + (-1)), .int (M 97 tu.toNatClampNeg)], [], (fl_u M 97 4 (M 97 tu.toNatClampNeg)), J) r) (q3 : (0 < tt) → (¬ (tu < 0)) → ((M 81 1) < (M 96 tu.toNatClampNeg)) → (¬ ((tu + (-1)) < 0)) → fl_dn fB180 (66, [.ref 81, .int a, .int b, .int n, .int tt, .int (tu + (-1)), .int (M 97 tu.toNatClampNeg)], [], (fl_u (fl_u M 97 ((tu + (-1)).toNatClampNeg) (v_183 (tu + (-1)) (M 97 ((tu + (-1)).toNatClampNeg)) (M 97 tu.toNatClampNeg))) 96 ((tu + (-1)).toNatClampNeg) ((M 96 ((tu + (-1)).toNatClampNeg)) + 1)), J) r) (q4 : (0 < tt) → (¬ (tu < 0)) → (¬ ((M 81 1) < (M 96 tu.toNatClampNeg))) → (tu = (tt - 1)) → fl_dn fB180 (66, [.ref 81, .int a, .int b, .int n, .int tt, .int tu, u6], [], (fl_u (fl_u (lr_161_2 1 (lr_181_7 tt (lr_160_2 M))) 97 tu.toNatClampNeg (v_183 tu (M 97 tu.toNatClampNeg) (v_181 a b tt M))) 96 tu.toNatClampNeg (((lr_161_2 1 (lr_181_7 tt (lr_160_2 M))) 96 tu.toNatClampNeg) + 1)), J) r) (q5 : (0 < tt) → (¬ (tu < 0)) → (¬ ((M 81 1) < (M 96 tu.toNatClampNeg))) → (¬ (tu = (tt - 1))) → fl_dn fB180 (66, [.ref 81, .int a, .int b, .int n, .int tt, .int (tu + 1), u6], [], (m_182 (tu + 1) M), J) r) (q6 : (¬ (0 < tt)) → (some (.int 1), (fl_u M 81 11 (M 97 4)), J) = r) : fl_dn fB180 (66, [.ref 81, .int a, .int b, .int n, .int tt, .int tu, u6], [], M, J) r :=
 fl_td (s' := (68, [.ref 81, .int a, .int b, .int n, .int tt, .int tu, u6], [.int tt], M, J)) (fl_n 1 rfl) <|
 fl_dnot (fl_if (t := 215) rfl rfl) fl_qle (fun h1 =>
  fl_td (s' := (73, [.ref 81, .int a, .int b, .int n, .int tt, .int tu, u6], [.int tu], M, J)) (fl_n 1 rfl) <|
  fl_dtwo (fl_if (t := 215) rfl rfl) fl_qlt (fun h2 =>
   fl_td (s' := (226, [.ref 81, .int a, .int b, .int n, .int tt, .int tu, u6], [.int 1], (fl_u M 81 11 (M 97 4)), J)) (fl_n 7 rfl) <|
   fl_rt rfl (fun _ => rfl) (q1 h1 h2)) (fun h2 =>
   fl_td (s' := (87, [.ref 81, .int a, .int b, .int n, .int tt, .int tu, u6], [.int (M 81 1), .int (M 96 tu.toNatClampNeg)], M, J)) (fl_n 6 rfl) <|
   fl_dnot (fl_ic (t := 153) rfl rfl) fl_qle (fun h3 =>
    fl_td (s' := (104, [.ref 81, .int a, .int b, .int n, .int tt, .int (tu + (-1)), .int (M 97 tu.toNatClampNeg)], [.int (tu + (-1))], M, J)) (fl_n 7 rfl) <|
    fl_dtwo (fl_if (t := 142) rfl rfl) fl_qlt (fun h4 =>
     fl_td (s' := (66, [.ref 81, .int a, .int b, .int n, .int tt, .int (tu + (-1)), .int (M 97 tu.toNatClampNeg)], [], (fl_u M 97 4 (M 97 tu.toNatClampNeg)), J)) (fl_n 6 rfl) <|
     (q2 h1 h2 h3 h4)) (fun h4 =>
     fl_td (s' := (124, [.ref 81, .int a, .int b, .int n, .int tt, .int (tu + (-1)), .int (M 97 tu.toNatClampNeg)], [.int (M 97 tu.toNatClampNeg), .int (M 97 ((tu + (-1)).toNatClampNeg)), .int (tu + (-1)), .int (tu + (-1)), .ref 97], M, J)) (fl_n 9 rfl) <|
     fl_td (s' := (127, [.ref 81, .int a, .int b, .int n, .int tt, .int (tu + (-1)), .int (M 97 tu.toNatClampNeg)], [.int (v_183 (tu + (-1)) (M 97 ((tu + (-1)).toNatClampNeg)) (M 97 tu.toNatClampNeg)), .int (tu + (-1)), .ref 97], M, J)) (fl_cs (o := some (.int (v_183 (tu + (-1)) (M 97 ((tu + (-1)).toNatClampNeg)) (M 97 tu.toNatClampNeg)))) rfl rfl rfl (cc_183 M J (tu + (-1)) (M 97 ((tu + (-1)).toNatClampNeg)) (M 97 tu.toNatClampNeg)) rfl) <|
     fl_td (s' := (66, [.ref 81, .int a, .int b, .int n, .int tt, .int (tu + (-1)), .int (M 97 tu.toNatClampNeg)], [], (fl_u (fl_u M 97 ((tu + (-1)).toNatClampNeg) (v_183 (tu + (-1)) (M 97 ((tu + (-1)).toNatClampNeg)) (M 97 tu.toNatClampNeg))) 96 ((tu + (-1)).toNatClampNeg) ((M 96 ((tu + (-1)).toNatClampNeg)) + 1)), J)) (fl_n 11 rfl) <|
     (q3 h1 h2 h3 h4))) (fun h3 =>
    fl_td (s' := (159, [.ref 81, .int a, .int b, .int n, .int tt, .int tu, u6], [.int (tt - 1), .int tu], M, J)) (fl_n 4 rfl) <|
    fl_dnot (fl_ic (t := 203) rfl rfl) fl_qne (fun h5 =>
     fl_td (s' := (182, [.ref 81, .int a, .int b, .int n, .int tt, .int tu, u6], [.int tt, .int b, .int a, .ref 81, .int (M 97 tu.toNatClampNeg), .int tu, .int tu, .ref 97], M, J)) (fl_n 12 rfl) <|
     fl_td (s' := (185, [.ref 81, .int a, .int b, .int n, .int tt, .int tu, u6], [.int (v_181 a b tt M), .int (M 97 tu.toNatClampNeg), .int tu, .int tu, .ref 97], (lr_161_2 1 (lr_181_7 tt (lr_160_2 M))), J)) (fl_cv (o := some (.int (v_181 a b tt M))) rfl rfl rfl rfl (cc_181 M J a b tt) rfl) <|
     fx_gen (p := fun (MM182 : fl_M) => fl_dn fB180 (185, [.ref 81, .int a, .int b, .int n, .int tt, .int tu, u6], [.int (v_181 a b tt M), .int (M 97 tu.toNatClampNeg), .int tu, .int tu, .ref 97], MM182, J) r) (lr_161_2 1 (lr_181_7 tt (lr_160_2 M))) (fun MM182 eMM182 =>
      fl_td (s' := (188, [.ref 81, .int a, .int b, .int n, .int tt, .int tu, u6], [.int (v_183 tu (M 97 tu.toNatClampNeg) (v_181 a b tt M)), .int tu, .ref 97], MM182, J)) (fl_cs (o := some (.int (v_183 tu (M 97 tu.toNatClampNeg) (v_181 a b tt M)))) rfl rfl rfl (cc_183 MM182 J tu (M 97 tu.toNatClampNeg) (v_181 a b tt M)) rfl) <|
      fl_td (s' := (66, [.ref 81, .int a, .int b, .int n, .int tt, .int tu, u6], [], (fl_u (fl_u MM182 97 tu.toNatClampNeg (v_183 tu (M 97 tu.toNatClampNeg) (v_181 a b tt M))) 96 tu.toNatClampNeg ((MM182 96 tu.toNatClampNeg) + 1)), J)) (fl_n 10 rfl) <|
      (by subst eMM182; exact (q4 h1 h2 h3 h5)))) (fun h5 =>
     fl_td (s' := (209, [.ref 81, .int a, .int b, .int n, .int tt, .int (tu + 1), u6], [.int (tu + 1), .ref 81], M, J)) (fl_n 3 rfl) <|
     fl_td (s' := (212, [.ref 81, .int a, .int b, .int n, .int tt, .int (tu + 1), u6], [], (m_182 (tu + 1) M), J)) (fl_cv (o := none) rfl rfl rfl rfl (cc_182 M J (tu + 1)) rfl) <|
     fx_gen (p := fun (MM183 : fl_M) => fl_dn fB180 (212, [.ref 81, .int a, .int b, .int n, .int tt, .int (tu + 1), u6], [], MM183, J) r) (m_182 (tu + 1) M) (fun MM183 eMM183 =>
      fl_td (s' := (66, [.ref 81, .int a, .int b, .int n, .int tt, .int (tu + 1), u6], [], MM183, J)) (fl_n 1 rfl) <|
      (by subst eMM183; exact (q5 h1 h2 h3 h5))))))) (fun h1 =>
  fl_td (s' := (226, [.ref 81, .int a, .int b, .int n, .int tt, .int tu, u6], [.int 1], (fl_u M 81 11 (M 97 4)), J)) (fl_n 7 rfl) <|
  fl_rt rfl (fun _ => rfl) (q6 h1))
def fB176 : sm_P := (fun pc => sm_ch sm_t176 pc, sm_Kn 3 6 none, fun x => sm_lk sm_ca3 x, some .int)
-- MiceRegistersModel.sets 30
def ls_176_30 (i1 i4 : Int32) (m : Nat) (q : (Int32 × fl_M)) : (Int32 × fl_M) := (if (lr_178_4 (i4 - Int32.ofNat m) 0 q.2) = i1 then ((q.1 + 1), (fl_u q.2 81 11 (i4 - Int32.ofNat m))) else ((q.1 + 0), (fl_u q.2 81 11 (q.2 81 11))))
def lq_176_30 (i1 i3 i4 : Int32) (M : fl_M) (m : Nat) : (Int32 × fl_M) := fx_it (ls_176_30 i1 i4) m (i3, M)
theorem lqs_176_30 (i1 i3 i4 : Int32) (M : fl_M) (m : Nat) : lq_176_30 i1 i3 i4 M (m + 1) = (ls_176_30 i1 i4) m (lq_176_30 i1 i3 i4 M m) := by
  unfold lq_176_30
  exact fx_it_s _ _ _
def lr_176_30 (i1 i3 i4 : Int32) (M : fl_M) : (Int32 × fl_M) := (lq_176_30 i1 i3 i4 M ((i4.toInt + 1).toNat))
set_option maxRecDepth 8000 in
theorem ts_176_30 {r : fl_Q} (i1 i2 i3 i4 : Int32) (u5 : Value) (M : fl_M) (J : fl_J) (q1 : (i4 < 0) → fl_dn fB176 (89, [.ref 81, .int i1, .int i2, .int i3, .int i4, u5], [], M, J) r) (q2 : (¬ (i4 < 0)) → ((lr_178_4 i4 0 M) = i1) → fl_dn fB176 (30, [.ref 81, .int i1, .int i2, .int (i3 + 1), .int (i4 + (-1)), .int 1], [], (fl_u M 81 11 i4), J) r) (q3 : (¬ (i4 < 0)) → (¬ ((lr_178_4 i4 0 M) = i1)) → fl_dn fB176 (30, [.ref 81, .int i1, .int i2, .int (i3 + 0), .int (i4 + (-1)), .int 0], [], (fl_u M 81 11 (M 81 11)), J) r) : fl_dn fB176 (30, [.ref 81, .int i1, .int i2, .int i3, .int i4, u5], [], M, J) r :=
 fl_td (s' := (32, [.ref 81, .int i1, .int i2, .int i3, .int i4, u5], [.int i4], M, J)) (fl_n 1 rfl) <|
 fl_dtwo (fl_if (t := 89) rfl rfl) fl_cT (fun h1 =>
  (q1 h1)) (fun h1 =>
  fl_td (s' := (38, [.ref 81, .int i1, .int i2, .int i3, .int i4, u5], [.int i4, .ref 81], M, J)) (fl_n 2 rfl) <|
  fl_td (s' := (41, [.ref 81, .int i1, .int i2, .int i3, .int i4, u5], [.int (lr_178_4 i4 0 M)], M, J)) (fl_cv (o := some (.int (lr_178_4 i4 0 M))) rfl rfl rfl rfl (cc_178 M J i4) rfl) <|
  fx_gen (p := fun (II186 : Int32) => fl_dn fB176 (41, [.ref 81, .int i1, .int i2, .int i3, .int i4, u5], [.int II186], M, J) r) (lr_178_4 i4 0 M) (fun II186 eII186 =>
   fl_td (s' := (42, [.ref 81, .int i1, .int i2, .int i3, .int i4, u5], [.int i1, .int II186], M, J)) (fl_n 1 rfl) <|
   fl_dnot (fl_ic (t := 49) rfl rfl) fl_cF (fun h2 =>
    fl_td (s' := (30, [.ref 81, .int i1, .int i2, .int (i3 + 1), .int (i4 + (-1)), .int 1], [], (fl_u M 81 11 i4), J)) (fl_n 18 rfl) <|
    (by subst eII186; exact (q2 h1 h2))) (fun h2 =>
    fl_td (s' := (30, [.ref 81, .int i1, .int i2, .int (i3 + 0), .int (i4 + (-1)), .int 0], [], (fl_u M 81 11 (M 81 11)), J)) (fl_n 16 rfl) <|
    (by subst eII186; exact (q3 h1 h2)))))
theorem lp_176_30 {r : fl_Q} (i1 i2 i3 i4 : Int32) (u5 : Value) (M : fl_M) (J : fl_J) (hi0 : -1 ≤ i4.toInt ∧ i4.toInt < 2147483647) (hx : ∀ w4 w5 : Value, fl_dn fB176 (89, [.ref 81, .int i1, .int i2, .int ((lr_176_30 i1 i3 i4 M).1), w4, w5], [], ((lr_176_30 i1 i3 i4 M).2), J) r) : fl_dn fB176 (30, [.ref 81, .int i1, .int i2, .int i3, .int i4, u5], [], M, J) r := by
  have key : ∀ (n m : Nat) (w5 : Value), m + n = (i4.toInt + 1).toNat → fl_dn fB176 (30, [.ref 81, .int i1, .int i2, .int ((lq_176_30 i1 i3 i4 M m).1), .int (i4 - Int32.ofNat m), w5], [], ((lq_176_30 i1 i3 i4 M m).2), J) r := by
    intro n
    induction n with
    | zero =>
      intro m w5 hm
      have hm : m = (i4.toInt + 1).toNat := by omega
      have hn : (i4 - Int32.ofNat m) < 0 := fi_dg (i := i4) (m := m) hi0 (by omega)
      exact ts_176_30 i1 i2 ((lq_176_30 i1 i3 i4 M m).1) (i4 - Int32.ofNat m) w5 ((lq_176_30 i1 i3 i4 M m).2) J (fun h1 => (by have e : lr_176_30 i1 i3 i4 M = lq_176_30 i1 i3 i4 M m := (by show lq_176_30 i1 i3 i4 M ((i4.toInt + 1).toNat) = _; rw [← hm]); rw [e] at hx; exact hx _ _)) (fun h1 h2 => absurd hn h1) (fun h1 h2 => absurd hn h1)
    | succ n ih =>
      intro m w5 hm
      have hp : ¬ ((i4 - Int32.ofNat m) < 0) := fun z => by have z := fi_dl (i := i4) (m := m) hi0 (by omega) z; omega
      refine ts_176_30 i1 i2 ((lq_176_30 i1 i3 i4 M m).1) (i4 - Int32.ofNat m) w5 ((lq_176_30 i1 i3 i4 M m).2) J (fun h1 => absurd h1 hp) (fun h1 h2 => ?_) (fun h1 h2 => ?_)
      · have e : lq_176_30 i1 i3 i4 M (m + 1) = ((((lq_176_30 i1 i3 i4 M m).1) + 1), (fl_u ((lq_176_30 i1 i3 i4 M m).2) 81 11 (i4 - Int32.ofNat m))) := by
          rw [lqs_176_30]
          unfold ls_176_30
          simp only [if_pos h2]
        have q := ih (m + 1) (.int 1) (by omega)
        rw [e] at q
        first | (rw [fi_dns]; exact q) | (rw [← fi_s] at q; exact q) | (simp only [fi_s] at q ⊢; exact q)
      · have e : lq_176_30 i1 i3 i4 M (m + 1) = ((((lq_176_30 i1 i3 i4 M m).1) + 0), (fl_u ((lq_176_30 i1 i3 i4 M m).2) 81 11 (((lq_176_30 i1 i3 i4 M m).2) 81 11))) := by
          rw [lqs_176_30]
          unfold ls_176_30
          simp only [if_neg h2]
        have q := ih (m + 1) (.int 0) (by omega)
        rw [e] at q
        first | (rw [fi_dns]; exact q) | (rw [← fi_s] at q; exact q) | (simp only [fi_s] at q ⊢; exact q)
  have q := key ((i4.toInt + 1).toNat) 0 u5 (Nat.zero_add _)
  rw [fi_dn0] at q
  exact q
def m_176 (v : Int32) (M : fl_M) : fl_M := (if (v_177 v M) = 0 then ((lr_176_30 v 0 (((1 : Int32) <<< ((M 81 1) &&& 31)) - 1) (fl_u M 81 11 (-9))).2) else M)
def j_176 (v : Int32) (M : fl_M) (J : fl_J) : fl_J := (if (v_177 v M) = 0 then (fl_w (fl_w J 81 12 ((lr_176_30 v 0 (((1 : Int32) <<< ((M 81 1) &&& 31)) - 1) (fl_u M 81 11 (-9))).1).toInt64) 81 13 1) else J)
set_option maxRecDepth 8000 in
theorem cc_176 (M : fl_M) (J : fl_J) (v : Int32) (h0 : -1 ≤ (((1 : Int32) <<< ((M 81 1) &&& 31)) - 1).toInt ∧ (((1 : Int32) <<< ((M 81 1) &&& 31)) - 1).toInt < 2147483647) : fl_C 176 [.ref 81, .int v] M J (some (.int (if (v_177 v M) = 0 then 1 else v_177 v M)), (m_176 v M), (j_176 v M J)) :=
 fl_Co (B := fB176) rfl rfl <|
 fl_td (s' := (2, [.ref 81, .int v, .null, .null, .null, .null], [.int v, .ref 81], M, J)) (fl_n 2 rfl) <|
 fl_td (s' := (5, [.ref 81, .int v, .null, .null, .null, .null], [.int (v_177 v M)], M, J)) (fl_cv (o := some (.int (v_177 v M))) rfl rfl rfl rfl (cc_177 M J v) rfl) <|
 fl_td (s' := (7, [.ref 81, .int v, .int (v_177 v M), .null, .null, .null], [.int (v_177 v M)], M, J)) (fl_n 2 rfl) <|
 fl_dtwo (fl_if (t := 12) rfl rfl) fl_cT (fun h1 =>
  fl_td (s' := (30, [.ref 81, .int v, .int (v_177 v M), .int 0, .int (((1 : Int32) <<< ((M 81 1) &&& 31)) - 1), .null], [], (fl_u M 81 11 (-9)), J)) (fl_n 12 rfl) <|
  lp_176_30 v (v_177 v M) 0 (((1 : Int32) <<< ((M 81 1) &&& 31)) - 1) .null (fl_u M 81 11 (-9)) J h0 (fun u187 u188 =>
   fx_gen (p := fun (MM189 : fl_M) => fl_dn fB176 (89, [.ref 81, .int v, .int (v_177 v M), .int ((lr_176_30 v 0 (((1 : Int32) <<< ((M 81 1) &&& 31)) - 1) (fl_u M 81 11 (-9))).1), u187, u188], [], MM189, J) (some (.int (if (v_177 v M) = 0 then 1 else v_177 v M)), (m_176 v M), (j_176 v M J))) ((lr_176_30 v 0 (((1 : Int32) <<< ((M 81 1) &&& 31)) - 1) (fl_u M 81 11 (-9))).2) (fun MM189 eMM189 =>
    fx_gen (p := fun (II190 : Int32) => fl_dn fB176 (89, [.ref 81, .int v, .int (v_177 v M), .int II190, u187, u188], [], MM189, J) (some (.int (if (v_177 v M) = 0 then 1 else v_177 v M)), (m_176 v M), (j_176 v M J))) ((lr_176_30 v 0 (((1 : Int32) <<< ((M 81 1) &&& 31)) - 1) (fl_u M 81 11 (-9))).1) (fun II190 eII190 =>
     fl_td (s' := (101, [.ref 81, .int v, .int (v_177 v M), .int II190, u187, u188], [.int 1], MM189, (fl_w (fl_w J 81 12 II190.toInt64) 81 13 1))) (fl_n 8 rfl) <|
     fl_rt rfl (fun _ => rfl) (by subst eMM189; subst eII190; unfold m_176 j_176; first | (simp only [if_pos h1]; done) | rfl))))) (fun h1 =>
  fl_td (s' := (11, [.ref 81, .int v, .int (v_177 v M), .null, .null, .null], [.int (v_177 v M)], M, J)) (fl_n 1 rfl) <|
  fl_rt rfl (fun _ => rfl) (by unfold m_176 j_176; first | (simp only [if_neg h1]; done) | rfl))

