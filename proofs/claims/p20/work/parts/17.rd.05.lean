theorem lk_184_30 (i1 i2 : Int32) (l3 l5 : Int64) (M : fl_M) (m : Nat) : ((1 : Int32) <<< ((((lq_184_30 i1 i2 l3 l5 M m).2.2) 81 4) &&& 31)) = ((1 : Int32) <<< ((M 81 4) &&& 31)) := by
  induction m with
  | zero => rfl
  | succ m ih =>
    rw [← ih]
    rw [lqs_184_30]
    generalize lq_184_30 i1 i2 l3 l5 M m = q
    unfold ls_184_30
    (repeat' split) <;> first | with_reducible rfl | (simp [fl_u, fw_150_5, fw_150_130, fw_150, fw_149, fw_156, fw_160, fw_161, fw_166, fw_171]; done) | rfl
theorem lp_184_30 {r : fl_Q} (i1 i2 : Int32) (l3 l5 : Int64) (u8 u9 : Value) (M : fl_M) (J : fl_J) (hx : ∀ w7 w8 : Value, fl_dn fB184 (107, [.ref 81, .int i1, .int i2, .long ((lr_184_30 i1 i2 l3 l5 M).1), .null, .long ((lr_184_30 i1 i2 l3 l5 M).2.1), .null, w7, w8, u9], [], ((lr_184_30 i1 i2 l3 l5 M).2.2), J) r) : fl_dn fB184 (30, [.ref 81, .int i1, .int i2, .long l3, .null, .long l5, .null, .int 0, u8, u9], [], M, J) r := by
  have hb := fi_bd ((1 : Int32) <<< ((M 81 4) &&& 31))
  have hB := fun m => lk_184_30 i1 i2 l3 l5 M m
  have key : ∀ (n m : Nat) (w8 : Value), m + n = (((1 : Int32) <<< ((M 81 4) &&& 31))).toNatClampNeg → fl_dn fB184 (30, [.ref 81, .int i1, .int i2, .long ((lq_184_30 i1 i2 l3 l5 M m).1), .null, .long ((lq_184_30 i1 i2 l3 l5 M m).2.1), .null, .int (Int32.ofNat m), w8, u9], [], ((lq_184_30 i1 i2 l3 l5 M m).2.2), J) r := by
    intro n
    induction n with
    | zero =>
      intro m w8 hm
      have hm : m = (((1 : Int32) <<< ((M 81 4) &&& 31))).toNatClampNeg := by omega
      have hn : ¬ ((Int32.ofNat m) < ((1 : Int32) <<< ((((lq_184_30 i1 i2 l3 l5 M m).2.2) 81 4) &&& 31))) := fun z => by rw [hB m] at z; have z := (fi_lt (by omega)).mp z; omega
      exact ts_184_30 i1 i2 (Int32.ofNat m) ((lq_184_30 i1 i2 l3 l5 M m).1) ((lq_184_30 i1 i2 l3 l5 M m).2.1) w8 u9 ((lq_184_30 i1 i2 l3 l5 M m).2.2) J (fun h1 h4 => absurd h1 hn) (fun h1 h4 => absurd h1 hn) (fun h1 => (by have e : lr_184_30 i1 i2 l3 l5 M = lq_184_30 i1 i2 l3 l5 M m := (by show lq_184_30 i1 i2 l3 l5 M ((((1 : Int32) <<< ((M 81 4) &&& 31))).toNatClampNeg) = _; rw [← hm]); rw [e] at hx; exact hx _ _))
    | succ n ih =>
      intro m w8 hm
      have hp : (Int32.ofNat m) < ((1 : Int32) <<< ((((lq_184_30 i1 i2 l3 l5 M m).2.2) 81 4) &&& 31)) := by rw [hB m]; exact (fi_lt (by omega)).mpr (by omega)
      refine ts_184_30 i1 i2 (Int32.ofNat m) ((lq_184_30 i1 i2 l3 l5 M m).1) ((lq_184_30 i1 i2 l3 l5 M m).2.1) w8 u9 ((lq_184_30 i1 i2 l3 l5 M m).2.2) J (fun h1 h4 => ?_) (fun h1 h4 => ?_) (fun h1 => absurd hp h1)
      · have e : lq_184_30 i1 i2 l3 l5 M (m + 1) = ((((lq_184_30 i1 i2 l3 l5 M m).1) + (lr_185_5 (Int32.ofNat m) i2 1 ((lq_184_30 i1 i2 l3 l5 M m).2.2))), (((lq_184_30 i1 i2 l3 l5 M m).2.1) + (lr_185_5 (Int32.ofNat m) i2 1 ((lq_184_30 i1 i2 l3 l5 M m).2.2))), (m_150 3776 (Int32.ofNat m) (lr_160_2 ((lq_184_30 i1 i2 l3 l5 M m).2.2)))) := by
          rw [lqs_184_30]
          unfold ls_184_30
          simp only [if_pos h4]
        have q := ih (m + 1) (.long (lr_185_5 (Int32.ofNat m) i2 1 ((lq_184_30 i1 i2 l3 l5 M m).2.2))) (by omega)
        rw [e] at q
        first | (rw [fi_s]; exact q) | (rw [← fi_s] at q; exact q) | (simp only [fi_s] at q ⊢; exact q)
      · have e : lq_184_30 i1 i2 l3 l5 M (m + 1) = ((((lq_184_30 i1 i2 l3 l5 M m).1) + 0), (((lq_184_30 i1 i2 l3 l5 M m).2.1) + (lr_185_5 (Int32.ofNat m) i2 1 ((lq_184_30 i1 i2 l3 l5 M m).2.2))), (m_150 3776 (Int32.ofNat m) (lr_160_2 ((lq_184_30 i1 i2 l3 l5 M m).2.2)))) := by
          rw [lqs_184_30]
          unfold ls_184_30
          simp only [if_neg h4]
        have q := ih (m + 1) (.long (lr_185_5 (Int32.ofNat m) i2 1 ((lq_184_30 i1 i2 l3 l5 M m).2.2))) (by omega)
        rw [e] at q
        first | (rw [fi_s]; exact q) | (rw [← fi_s] at q; exact q) | (simp only [fi_s] at q ⊢; exact q)
  exact key ((((1 : Int32) <<< ((M 81 4) &&& 31))).toNatClampNeg) 0 u8 (Nat.zero_add _)
def v_184 (l p : Int32) (M : fl_M) : Int32 := (if (¬ (l < 0)) ∧ (¬ ((M 81 1) - 1 < l)) then (if (¬ (p < 0)) ∧ (¬ (12 < p)) then 1 else (-1)) else (-1))
def m_184 (l p : Int32) (M : fl_M) : fl_M := (if (¬ (l < 0)) ∧ (¬ ((M 81 1) - 1 < l)) then (if (¬ (p < 0)) ∧ (¬ (12 < p)) then ((lr_184_30 l p 0 0 M).2.2) else M) else M)
def j_184 (l p : Int32) (M : fl_M) (J : fl_J) : fl_J := (if (¬ (l < 0)) ∧ (¬ ((M 81 1) - 1 < l)) then (if (¬ (p < 0)) ∧ (¬ (12 < p)) then (fl_w (fl_w J 81 12 (((lr_184_30 l p 0 0 M).1) / (eg ((lr_184_30 l p 0 0 M).1) ((lr_184_30 l p 0 0 M).2.1)))) 81 13 (((lr_184_30 l p 0 0 M).2.1) / (eg ((lr_184_30 l p 0 0 M).1) ((lr_184_30 l p 0 0 M).2.1)))) else J) else J)
set_option maxRecDepth 8000 in
theorem cc_184 (M : fl_M) (J : fl_J) (l p : Int32) (g1 : (¬ (p < 0)) ∧ (¬ (12 < p)) → 0 ≤ ((lr_184_30 l p 0 0 M).1).toInt) (g2 : (¬ (p < 0)) ∧ (¬ (12 < p)) → 0 ≤ ((lr_184_30 l p 0 0 M).2.1).toInt) : fl_C 184 [.ref 81, .int l, .int p] M J (some (.int (v_184 l p M)), (m_184 l p M), (j_184 l p M J)) :=
 fl_Co (B := fB184) rfl rfl <|
 fl_td (s' := (2, [.ref 81, .int l, .int p, .null, .null, .null, .null, .null, .null, .null], [.int l, .ref 81], M, J)) (fl_n 2 rfl) <|
 fl_td (s' := (5, [.ref 81, .int l, .int p, .null, .null, .null, .null, .null, .null, .null], [.int (if (¬ (l < 0)) ∧ (¬ ((M 81 1) - 1 < l)) then 1 else 0)], M, J)) (fl_cv (o := some (.int (if (¬ (l < 0)) ∧ (¬ ((M 81 1) - 1 < l)) then 1 else 0))) rfl rfl rfl rfl (cc_131 M J l) rfl) <|
 fl_dnot (fl_if (t := 20) rfl rfl) fl_b0 (fun h1 =>
  fl_td (s' := (14, [.ref 81, .int l, .int p, .null, .null, .null, .null, .null, .null, .null], [.long 12, .long 0, .long p.toInt64], M, J)) (fl_n 4 rfl) <|
  fl_td (s' := (17, [.ref 81, .int l, .int p, .null, .null, .null, .null, .null, .null, .null], [.int (if (¬ (p < 0)) ∧ (¬ (12 < p)) then 1 else 0)], M, J)) (fl_cs (o := some (.int (if (¬ (p < 0)) ∧ (¬ (12 < p)) then 1 else 0))) rfl rfl rfl (cc_105i M J p 0 12) rfl) <|
  fl_dtwo (fl_if (t := 22) rfl rfl) fl_b1 (fun h2 =>
   fl_td (s' := (30, [.ref 81, .int l, .int p, .long 0, .null, .long 0, .null, .int 0, .null, .null], [], M, J)) (fl_n 6 rfl) <|
   lp_184_30 l p 0 0 .null .null M J (fun u167 u168 =>
    fx_gen (p := fun (MM169 : fl_M) => fl_dn fB184 (107, [.ref 81, .int l, .int p, .long ((lr_184_30 l p 0 0 M).1), .null, .long ((lr_184_30 l p 0 0 M).2.1), .null, u167, u168, .null], [], MM169, J) (some (.int (v_184 l p M)), (m_184 l p M), (j_184 l p M J))) ((lr_184_30 l p 0 0 M).2.2) (fun MM169 eMM169 =>
     fx_gen (p := fun (LL170 : Int64) => fl_dn fB184 (107, [.ref 81, .int l, .int p, .long LL170, .null, .long ((lr_184_30 l p 0 0 M).2.1), .null, u167, u168, .null], [], MM169, J) (some (.int (v_184 l p M)), (m_184 l p M), (j_184 l p M J))) ((lr_184_30 l p 0 0 M).1) (fun LL170 eLL170 =>
      fx_gen (p := fun (LL171 : Int64) => fl_dn fB184 (107, [.ref 81, .int l, .int p, .long LL170, .null, .long LL171, .null, u167, u168, .null], [], MM169, J) (some (.int (v_184 l p M)), (m_184 l p M), (j_184 l p M J))) ((lr_184_30 l p 0 0 M).2.1) (fun LL171 eLL171 =>
       fl_td (s' := (111, [.ref 81, .int l, .int p, .long LL170, .null, .long LL171, .null, u167, u168, .null], [.long LL171, .long LL170, .ref 81], MM169, J)) (fl_n 3 rfl) <|
       fl_td (s' := (114, [.ref 81, .int l, .int p, .long LL170, .null, .long LL171, .null, u167, u168, .null], [], MM169, (fl_w (fl_w J 81 12 (LL170 / (eg LL170 LL171))) 81 13 (LL171 / (eg LL170 LL171))))) (fl_cv (o := none) rfl rfl rfl rfl (cc_186 MM169 J LL170 LL171 (by first | exact g1 (by assumption) | (subst_vars; exact g1 (by assumption))) (by first | exact g2 (by assumption) | (subst_vars; exact g2 (by assumption)))) rfl) <|
       fl_td (s' := (115, [.ref 81, .int l, .int p, .long LL170, .null, .long LL171, .null, u167, u168, .null], [.int 1], MM169, (fl_w (fl_w J 81 12 (LL170 / (eg LL170 LL171))) 81 13 (LL171 / (eg LL170 LL171))))) (fl_n 1 rfl) <|
       fl_rt rfl (fun _ => rfl) (by subst eMM169; subst eLL170; subst eLL171; unfold v_184 m_184 j_184; first | (simp only [if_pos h1, if_pos h2]; done) | rfl)))))) (fun h2 =>
   fl_td (s' := (21, [.ref 81, .int l, .int p, .null, .null, .null, .null, .null, .null, .null], [.int (-1)], M, J)) (fl_n 1 rfl) <|
   fl_rt rfl (fun _ => rfl) (by unfold v_184 m_184 j_184; first | (simp only [if_pos h1, if_neg h2]; done) | rfl))) (fun h1 =>
  fl_td (s' := (21, [.ref 81, .int l, .int p, .null, .null, .null, .null, .null, .null, .null], [.int (-1)], M, J)) (fl_n 1 rfl) <|
  fl_rt rfl (fun _ => rfl) (by unfold v_184 m_184 j_184; first | (simp only [if_neg h1]; done) | rfl))
def fB187 : sm_P := (fun pc => sm_ch sm_t187 pc, sm_Kn 3 9 none, fun x => sm_lk sm_ca3 x, some .int)
-- MiceRegistersModel.mid 32
def ls_187_32 (i1 : Int32) (m : Nat) (q : (Int64 × Int64 × fl_M)) : (Int64 × Int64 × fl_M) := ((q.1 + ((lr_185_5 (Int32.ofNat m) i1 1 q.2.2) * (lr_168_4 3776 0 (m_150 3776 (Int32.ofNat m) (lr_160_2 q.2.2))).toInt64)), (q.2.1 + (lr_185_5 (Int32.ofNat m) i1 1 q.2.2)), (m_150 3776 (Int32.ofNat m) (lr_160_2 q.2.2)))
def lq_187_32 (i1 : Int32) (l2 l4 : Int64) (M : fl_M) (m : Nat) : (Int64 × Int64 × fl_M) := fx_it (ls_187_32 i1) m (l2, l4, M)
theorem lqs_187_32 (i1 : Int32) (l2 l4 : Int64) (M : fl_M) (m : Nat) : lq_187_32 i1 l2 l4 M (m + 1) = (ls_187_32 i1) m (lq_187_32 i1 l2 l4 M m) := by
  unfold lq_187_32
  exact fx_it_s _ _ _
def lr_187_32 (i1 : Int32) (l2 l4 : Int64) (M : fl_M) : (Int64 × Int64 × fl_M) := (lq_187_32 i1 l2 l4 M ((((1 : Int32) <<< ((M 81 4) &&& 31))).toNatClampNeg))
