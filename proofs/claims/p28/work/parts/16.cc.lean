def fB58 : sm_P := (fun pc => sm_ch sm_t58 pc, sm_Kn 2 2 none, fun x => sm_lk sm_ca2 x, none)
theorem cc_58 (M : fl_M) (J : fl_J) (n : Int32) : fl_C 58 [.ref 0, .int n] M J (none, (lr_59_2 n 24 (m_23 24 15 M)), J) :=
 fl_Co (B := fB58) rfl rfl <|
 fl_td (s' := (8, [.ref 0, .int n], [.ref 15, .ref 24], M, J)) (fl_n 4 rfl) <|
 fl_td (s' := (11, [.ref 0, .int n], [], (m_23 24 15 M), J)) (fl_cv (o := none) rfl rfl rfl rfl (cc_23 M J 24 15) rfl) <|
 fx_gen (p := fun (MM68 : fl_M) => fl_dn fB58 (11, [.ref 0, .int n], [], MM68, J) (none, (lr_59_2 n 24 (m_23 24 15 M)), J)) (m_23 24 15 M) (fun MM68 eMM68 =>
  fl_td (s' := (16, [.ref 0, .int n], [.int n, .ref 24], MM68, J)) (fl_n 3 rfl) <|
  fl_td (s' := (19, [.ref 0, .int n], [], (lr_59_2 n 24 MM68), J)) (fl_cv (o := none) rfl rfl rfl rfl (cc_59 MM68 J n 24) rfl) <|
  fx_gen (p := fun (MM69 : fl_M) => fl_dn fB58 (19, [.ref 0, .int n], [], MM69, J) (none, (lr_59_2 n 24 (m_23 24 15 M)), J)) (lr_59_2 n 24 MM68) (fun MM69 eMM69 =>
   fl_rt rfl (fun _ => rfl) (by subst eMM68; subst eMM69; rfl)))
def fB57 : sm_P := (fun pc => sm_ch sm_t57 pc, sm_Kn 2 3 none, fun x => sm_lk sm_ca2 x, some .int)
def v_57 (l n : Int32) (M : fl_M) : Int32 := (if (l < 0) ∨ (¬ (l < (M 15 0))) then (-1) else (if n < 0 then (-1) else (if 40 < n then (-1) else (lr_59_2 n 24 (m_23 24 15 M)) 27 l.toNatClampNeg)))
def m_57 (l n : Int32) (M : fl_M) : fl_M := (if (l < 0) ∨ (¬ (l < (M 15 0))) then M else (if n < 0 then M else (if 40 < n then M else (lr_59_2 n 24 (m_23 24 15 M)))))
theorem cc_57 (M : fl_M) (J : fl_J) (l n : Int32) : fl_C 57 [.ref 0, .int l, .int n] M J (some (.int (v_57 l n M)), (m_57 l n M), J) :=
 fl_Co (B := fB57) rfl rfl <|
 fl_td (s' := (2, [.ref 0, .int l, .int n], [.int l, .ref 0], M, J)) (fl_n 2 rfl) <|
 fl_td (s' := (5, [.ref 0, .int l, .int n], [.int (if (l < 0) ∨ (¬ (l < (M 15 0))) then 1 else 0)], M, J)) (fl_cv (o := some (.int (if (l < 0) ∨ (¬ (l < (M 15 0))) then 1 else 0))) rfl rfl rfl rfl (cc_25 M J l) rfl) <|
 fl_dtwo (fl_if (t := 18) rfl rfl) fl_b1 (fun h1 =>
  fl_td (s' := (19, [.ref 0, .int l, .int n], [.int (-1)], M, J)) (fl_n 1 rfl) <|
  fl_rt rfl (fun _ => rfl) (by unfold v_57 m_57; first | (simp only [if_pos h1]; done) | rfl)) (fun h1 =>
  fl_td (s' := (9, [.ref 0, .int l, .int n], [.int n], M, J)) (fl_n 1 rfl) <|
  fl_dtwo (fl_if (t := 18) rfl rfl) fl_cT (fun h2 =>
   fl_td (s' := (19, [.ref 0, .int l, .int n], [.int (-1)], M, J)) (fl_n 1 rfl) <|
   fl_rt rfl (fun _ => rfl) (by unfold v_57 m_57; first | (simp only [if_neg h1, if_pos h2]; done) | rfl)) (fun h2 =>
   fl_td (s' := (15, [.ref 0, .int l, .int n], [.int 40, .int n], M, J)) (fl_n 2 rfl) <|
   fl_dnot (fl_ic (t := 20) rfl rfl) fl_nle (fun h3 =>
    fl_td (s' := (19, [.ref 0, .int l, .int n], [.int (-1)], M, J)) (fl_n 1 rfl) <|
    fl_rt rfl (fun _ => rfl) (by unfold v_57 m_57; first | (simp only [if_neg h1, if_neg h2, if_pos h3]; done) | rfl)) (fun h3 =>
    fl_td (s' := (22, [.ref 0, .int l, .int n], [.int n, .ref 0], M, J)) (fl_n 2 rfl) <|
    fl_td (s' := (25, [.ref 0, .int l, .int n], [], (lr_59_2 n 24 (m_23 24 15 M)), J)) (fl_cv (o := none) rfl rfl rfl rfl (cc_58 M J n) rfl) <|
    fx_gen (p := fun (MM70 : fl_M) => fl_dn fB57 (25, [.ref 0, .int l, .int n], [], MM70, J) (some (.int (v_57 l n M)), (m_57 l n M), J)) (lr_59_2 n 24 (m_23 24 15 M)) (fun MM70 eMM70 =>
     fl_td (s' := (34, [.ref 0, .int l, .int n], [.int (MM70 27 l.toNatClampNeg)], MM70, J)) (fl_n 5 rfl) <|
     fl_rt rfl (fun _ => rfl) (by subst eMM70; unfold v_57 m_57; first | (simp only [if_neg h1, if_neg h2, if_neg h3]; done) | rfl)))))
def fB60 : sm_P := (fun pc => sm_ch sm_t60 pc, sm_Kn 2 2 none, fun x => sm_lk sm_ca2 x, some .int)
def v_60 (n : Int32) (M : fl_M) : Int32 := (if n < 0 then (-1) else (if 40 < n then (-1) else (if (M 15 1) = 0 then (-4) else (lr_61_4 0 24 (lr_59_2 n 24 (m_23 24 15 M))))))
def m_60 (n : Int32) (M : fl_M) : fl_M := (if n < 0 then M else (if 40 < n then M else (if (M 15 1) = 0 then M else (lr_59_2 n 24 (m_23 24 15 M)))))
theorem cc_60 (M : fl_M) (J : fl_J) (n : Int32) : fl_C 60 [.ref 0, .int n] M J (some (.int (v_60 n M)), (m_60 n M), J) :=
 fl_Co (B := fB60) rfl rfl <|
 fl_td (s' := (1, [.ref 0, .int n], [.int n], M, J)) (fl_n 1 rfl) <|
 fl_dtwo (fl_if (t := 10) rfl rfl) fl_cT (fun h1 =>
  fl_td (s' := (11, [.ref 0, .int n], [.int (-1)], M, J)) (fl_n 1 rfl) <|
  fl_rt rfl (fun _ => rfl) (by unfold v_60 m_60; first | (simp only [if_pos h1]; done) | rfl)) (fun h1 =>
  fl_td (s' := (7, [.ref 0, .int n], [.int 40, .int n], M, J)) (fl_n 2 rfl) <|
  fl_dnot (fl_ic (t := 12) rfl rfl) fl_nle (fun h2 =>
   fl_td (s' := (11, [.ref 0, .int n], [.int (-1)], M, J)) (fl_n 1 rfl) <|
   fl_rt rfl (fun _ => rfl) (by unfold v_60 m_60; first | (simp only [if_neg h1, if_pos h2]; done) | rfl)) (fun h2 =>
   fl_td (s' := (19, [.ref 0, .int n], [.int (M 15 1)], M, J)) (fl_n 3 rfl) <|
   fl_dnot (fl_if (t := 25) rfl rfl) fl_cF (fun h3 =>
    fl_td (s' := (24, [.ref 0, .int n], [.int (-4)], M, J)) (fl_n 1 rfl) <|
    fl_rt rfl (fun _ => rfl) (by unfold v_60 m_60; first | (simp only [if_neg h1, if_neg h2, if_pos h3]; done) | rfl)) (fun h3 =>
    fl_td (s' := (27, [.ref 0, .int n], [.int n, .ref 0], M, J)) (fl_n 2 rfl) <|
    fl_td (s' := (30, [.ref 0, .int n], [], (lr_59_2 n 24 (m_23 24 15 M)), J)) (fl_cv (o := none) rfl rfl rfl rfl (cc_58 M J n) rfl) <|
    fx_gen (p := fun (MM71 : fl_M) => fl_dn fB60 (30, [.ref 0, .int n], [], MM71, J) (some (.int (v_60 n M)), (m_60 n M), J)) (lr_59_2 n 24 (m_23 24 15 M)) (fun MM71 eMM71 =>
     fl_td (s' := (34, [.ref 0, .int n], [.ref 24], MM71, J)) (fl_n 2 rfl) <|
     fl_td (s' := (37, [.ref 0, .int n], [.int (lr_61_4 0 24 MM71)], MM71, J)) (fl_cv (o := some (.int (lr_61_4 0 24 MM71))) rfl rfl rfl rfl (cc_61 MM71 J 24) rfl) <|
     fx_gen (p := fun (II72 : Int32) => fl_dn fB60 (37, [.ref 0, .int n], [.int II72], MM71, J) (some (.int (v_60 n M)), (m_60 n M), J)) (lr_61_4 0 24 MM71) (fun II72 eII72 =>
      fl_rt rfl (fun _ => rfl) (by subst eMM71; subst eII72; unfold v_60 m_60; first | (simp only [if_neg h1, if_neg h2, if_neg h3]; done) | rfl))))))
def fB62 : sm_P := (fun pc => sm_ch sm_t62 pc, sm_Kn 2 3 none, fun x => sm_lk sm_ca2 x, some .int)
-- MiceRegisters.when 23
def ls_62_23 (i1 : Int32) (m : Nat) (q : fl_M) : (Int32 × fl_M) ⊕ fl_M := (if (q 27 i1.toNatClampNeg) = 0 then (.inl ((Int32.ofNat m), q)) else (.inr (m_46 0 24 q)))
def lq_62_23 (i1 : Int32) (M : fl_M) (m : Nat) : (Int32 × fl_M) ⊕ fl_M := fx_ix (ls_62_23 i1) m M
theorem lqs_62_23 (i1 : Int32) (M : fl_M) {m : Nat} {a : fl_M} {v : (Int32 × fl_M) ⊕ fl_M} (h : lq_62_23 i1 M m = .inr a) (e : (ls_62_23 i1) m a = v) : lq_62_23 i1 M (m + 1) = v := by
  unfold lq_62_23 at h ⊢
  exact ix_s1 h e
def lr_62_23 (i1 : Int32) (M : fl_M) : (Int32 × fl_M) ⊕ fl_M := (lq_62_23 i1 M (40))
theorem ts_62_23 {r : fl_Q} (i1 i2 : Int32) (M : fl_M) (J : fl_J) (e1 : (i2 < 40) → ((M 27 i1.toNatClampNeg) = 0) → (some (.int i2), M, J) = r) (q1 : (i2 < 40) → (¬ ((M 27 i1.toNatClampNeg) = 0)) → fl_dn fB62 (23, [.ref 0, .int i1, .int (i2 + 1)], [], (m_46 0 24 M), J) r) (q2 : (¬ (i2 < 40)) → fl_dn fB62 (58, [.ref 0, .int i1, .int i2], [], M, J) r) : fl_dn fB62 (23, [.ref 0, .int i1, .int i2], [], M, J) r :=
 fl_td (s' := (26, [.ref 0, .int i1, .int i2], [.int 40, .int i2], M, J)) (fl_n 2 rfl) <|
 fl_dnot (fl_ic (t := 58) rfl rfl) fl_nlt (fun h1 =>
  fl_td (s' := (38, [.ref 0, .int i1, .int i2], [.int (M 27 i1.toNatClampNeg)], M, J)) (fl_n 5 rfl) <|
  fl_dnot (fl_if (t := 43) rfl rfl) fl_cF (fun h2 =>
   fl_td (s' := (42, [.ref 0, .int i1, .int i2], [.int i2], M, J)) (fl_n 1 rfl) <|
   fl_rt rfl (fun _ => rfl) (e1 h1 h2)) (fun h2 =>
   fl_td (s' := (48, [.ref 0, .int i1, .int i2], [.int 0, .ref 24], M, J)) (fl_n 3 rfl) <|
   fl_td (s' := (51, [.ref 0, .int i1, .int i2], [.int ((lr_46_4 0 0 24 M).1)], (m_46 0 24 M), J)) (fl_cv (o := some (.int ((lr_46_4 0 0 24 M).1))) rfl rfl rfl rfl (cc_46 M J 0 24) rfl) <|
   fx_gen (p := fun (MM74 : fl_M) => fl_dn fB62 (51, [.ref 0, .int i1, .int i2], [.int ((lr_46_4 0 0 24 M).1)], MM74, J) r) (m_46 0 24 M) (fun MM74 eMM74 =>
    fx_gen (p := fun (II75 : Int32) => fl_dn fB62 (51, [.ref 0, .int i1, .int i2], [.int II75], MM74, J) r) ((lr_46_4 0 0 24 M).1) (fun II75 eII75 =>
     fl_td (s' := (23, [.ref 0, .int i1, .int (i2 + 1)], [], MM74, J)) (fl_n 3 rfl) <|
     (by subst eMM74; subst eII75; exact (q1 h1 h2)))))) (fun h1 =>
  (q2 h1))
theorem lp_62_23 {r : fl_Q} (i1 : Int32) (M : fl_M) (J : fl_J) (hq : ∀ c, lr_62_23 i1 M = .inl c → (some (.int c.1), c.2, J) = r) (hx : ∀ a, lr_62_23 i1 M = .inr a → ∀ w2 : Value, fl_dn fB62 (58, [.ref 0, .int i1, w2], [], a, J) r) : fl_dn fB62 (23, [.ref 0, .int i1, .int 0], [], M, J) r := by
  have hb : (40 : Int32).toNatClampNeg = 40 := rfl
  have key : ∀ (n m : Nat) (a : fl_M) (ha : lq_62_23 i1 M m = .inr a), m + n = 40 → fl_dn fB62 (23, [.ref 0, .int i1, .int (Int32.ofNat m)], [], a, J) r := by
    intro n
    induction n with
    | zero =>
      intro m a ha hm
      have hm : m = 40 := by omega
      have hn : ¬ ((Int32.ofNat m) < 40) := fun z => by have z := (fi_lt (by omega)).mp z; omega
      exact ts_62_23 i1 (Int32.ofNat m) a J (fun h1 h2 => absurd h1 hn) (fun h1 h2 => absurd h1 hn) (fun h1 => hx a (by show lq_62_23 i1 M (40) = _; rw [← hm]; exact ha) _)
    | succ n ih =>
      intro m a ha hm
      have hp : (Int32.ofNat m) < 40 := by exact (fi_lt (by omega)).mpr (by omega)
      refine ts_62_23 i1 (Int32.ofNat m) a J (fun h1 h2 => ?_) (fun h1 h2 => ?_) (fun h1 => absurd hp h1)
      · have e : lq_62_23 i1 M (m + 1) = .inl ((Int32.ofNat m), a) := lqs_62_23 i1 M ha (by
          show (ls_62_23 i1) m a = _
          unfold ls_62_23
          simp only [if_pos h2])
        have e : lq_62_23 i1 M (40) = .inl ((Int32.ofNat m), a) := ix_l e (by omega)
        exact hq _ e
      · have e : lq_62_23 i1 M (m + 1) = .inr (m_46 0 24 a) := lqs_62_23 i1 M ha (by
          show (ls_62_23 i1) m a = _
          unfold ls_62_23
          simp only [if_neg h2])
        have q := ih (m + 1) _ e (by omega)
        first | (rw [fi_s]; exact q) | (rw [← fi_s] at q; exact q) | (simp only [fi_s] at q ⊢; exact q)
  exact key (40) 0 _ rfl (Nat.zero_add _)
def v_62 (l : Int32) (M : fl_M) : Int32 := (if (l < 0) ∨ (¬ (l < (M 15 0))) then (-1) else (match (lr_62_23 l (m_23 24 15 M)) with | .inl c76 => c76.1 | .inr a77 => (if (a77 27 l.toNatClampNeg) = 0 then 40 else (-9))))
def m_62 (l : Int32) (M : fl_M) : fl_M := (if (l < 0) ∨ (¬ (l < (M 15 0))) then M else (match (lr_62_23 l (m_23 24 15 M)) with | .inl c76 => c76.2 | .inr a77 => a77))
theorem cc_62 (M : fl_M) (J : fl_J) (l : Int32) : fl_C 62 [.ref 0, .int l] M J (some (.int (v_62 l M)), (m_62 l M), J) :=
 fl_Co (B := fB62) rfl rfl <|
 fl_td (s' := (2, [.ref 0, .int l, .null], [.int l, .ref 0], M, J)) (fl_n 2 rfl) <|
 fl_td (s' := (5, [.ref 0, .int l, .null], [.int (if (l < 0) ∨ (¬ (l < (M 15 0))) then 1 else 0)], M, J)) (fl_cv (o := some (.int (if (l < 0) ∨ (¬ (l < (M 15 0))) then 1 else 0))) rfl rfl rfl rfl (cc_25 M J l) rfl) <|
 fl_dnot (fl_if (t := 10) rfl rfl) fl_b0 (fun h1 =>
  fl_td (s' := (9, [.ref 0, .int l, .null], [.int (-1)], M, J)) (fl_n 1 rfl) <|
  fl_rt rfl (fun _ => rfl) (by unfold v_62 m_62; first | (simp only [if_pos h1]; done) | rfl)) (fun h1 =>
  fl_td (s' := (18, [.ref 0, .int l, .null], [.ref 15, .ref 24], M, J)) (fl_n 4 rfl) <|
  fl_td (s' := (21, [.ref 0, .int l, .null], [], (m_23 24 15 M), J)) (fl_cv (o := none) rfl rfl rfl rfl (cc_23 M J 24 15) rfl) <|
  fx_gen (p := fun (MM73 : fl_M) => fl_dn fB62 (21, [.ref 0, .int l, .null], [], MM73, J) (some (.int (v_62 l M)), (m_62 l M), J)) (m_23 24 15 M) (fun MM73 eMM73 =>
   fl_td (s' := (23, [.ref 0, .int l, .int 0], [], MM73, J)) (fl_n 2 rfl) <|
   lp_62_23 l MM73 J (fun c76 h4 => by subst eMM73; unfold v_62 m_62; first | (simp only [if_neg h1, h4]; done) | rfl) (fun a77 h3 u78 =>
    fl_td (s' := (67, [.ref 0, .int l, u78], [.int (a77 27 l.toNatClampNeg)], a77, J)) (fl_n 5 rfl) <|
    fl_dnot (fl_if (t := 75) rfl rfl) fl_cF (fun h5 =>
     fl_td (s' := (77, [.ref 0, .int l, u78], [.int 40], a77, J)) (fl_n 2 rfl) <|
     fl_rt rfl (fun _ => rfl) (by subst eMM73; unfold v_62 m_62; first | (simp only [if_neg h1, h3, if_pos h5]; done) | rfl)) (fun h5 =>
     fl_td (s' := (77, [.ref 0, .int l, u78], [.int (-9)], a77, J)) (fl_n 1 rfl) <|
     fl_rt rfl (fun _ => rfl) (by subst eMM73; unfold v_62 m_62; first | (simp only [if_neg h1, h3, if_neg h5]; done) | rfl)))))
def fB64 : sm_P := (fun pc => sm_ch sm_t64 pc, sm_Kn 2 6 none, fun x => sm_lk sm_ca2 x, some .boolean)
-- MiceRegisters.isSavedBy 28
def ls_64_28 (i1 : Int32) (m : Nat) (q : fl_M) : fl_M ⊕ fl_M := (if 0 < (q 27 i1.toNatClampNeg) then (.inr (m_46 0 24 q)) else (.inl q))
def lq_64_28 (i1 : Int32) (M : fl_M) (m : Nat) : fl_M ⊕ fl_M := fx_ix (ls_64_28 i1) m M
theorem lqs_64_28 (i1 : Int32) (M : fl_M) {m : Nat} {a : fl_M} {v : fl_M ⊕ fl_M} (h : lq_64_28 i1 M m = .inr a) (e : (ls_64_28 i1) m a = v) : lq_64_28 i1 M (m + 1) = v := by
  unfold lq_64_28 at h ⊢
  exact ix_s1 h e
def lr_64_28 (i1 i2 : Int32) (M : fl_M) : fl_M := fx_ib (lq_64_28 i1 M ((i2).toNatClampNeg))
theorem ts_64_28 {r : fl_Q} (i1 i2 i3 i4 i5 : Int32) (M : fl_M) (J : fl_J) (q1 : (i5 < i2) → (0 < (M 27 i1.toNatClampNeg)) → fl_dn fB64 (28, [.ref 0, .int i1, .int i2, .int i3, .int i4, .int (i5 + 1)], [], (m_46 0 24 M), J) r) (q2 : (i5 < i2) → (¬ (0 < (M 27 i1.toNatClampNeg))) → fl_dn fB64 (61, [.ref 0, .int i1, .int i2, .int i3, .int i4, .int i5], [], M, J) r) (q3 : (¬ (i5 < i2)) → fl_dn fB64 (61, [.ref 0, .int i1, .int i2, .int i3, .int i4, .int i5], [], M, J) r) : fl_dn fB64 (28, [.ref 0, .int i1, .int i2, .int i3, .int i4, .int i5], [], M, J) r :=
 fl_td (s' := (31, [.ref 0, .int i1, .int i2, .int i3, .int i4, .int i5], [.int i2, .int i5], M, J)) (fl_n 2 rfl) <|
 fl_dnot (fl_ic (t := 61) rfl rfl) fl_nlt (fun h1 =>
  fl_td (s' := (43, [.ref 0, .int i1, .int i2, .int i3, .int i4, .int i5], [.int (M 27 i1.toNatClampNeg)], M, J)) (fl_n 5 rfl) <|
  fl_dnot (fl_if (t := 61) rfl rfl) fl_nle (fun h2 =>
   fl_td (s' := (51, [.ref 0, .int i1, .int i2, .int i3, .int i4, .int i5], [.int 0, .ref 24], M, J)) (fl_n 3 rfl) <|
   fl_td (s' := (54, [.ref 0, .int i1, .int i2, .int i3, .int i4, .int i5], [.int ((lr_46_4 0 0 24 M).1)], (m_46 0 24 M), J)) (fl_cv (o := some (.int ((lr_46_4 0 0 24 M).1))) rfl rfl rfl rfl (cc_46 M J 0 24) rfl) <|
   fx_gen (p := fun (MM80 : fl_M) => fl_dn fB64 (54, [.ref 0, .int i1, .int i2, .int i3, .int i4, .int i5], [.int ((lr_46_4 0 0 24 M).1)], MM80, J) r) (m_46 0 24 M) (fun MM80 eMM80 =>
    fx_gen (p := fun (II81 : Int32) => fl_dn fB64 (54, [.ref 0, .int i1, .int i2, .int i3, .int i4, .int i5], [.int II81], MM80, J) r) ((lr_46_4 0 0 24 M).1) (fun II81 eII81 =>
     fl_td (s' := (28, [.ref 0, .int i1, .int i2, .int i3, .int i4, .int (i5 + 1)], [], MM80, J)) (fl_n 3 rfl) <|
     (by subst eMM80; subst eII81; exact (q1 h1 h2))))) (fun h2 =>
   (q2 h1 h2))) (fun h1 =>
  (q3 h1))
theorem lp_64_28 {r : fl_Q} (i1 i2 i3 i4 : Int32) (M : fl_M) (J : fl_J) (hx : ∀ w5 : Value, fl_dn fB64 (61, [.ref 0, .int i1, .int i2, .int i3, .int i4, w5], [], (lr_64_28 i1 i2 M), J) r) : fl_dn fB64 (28, [.ref 0, .int i1, .int i2, .int i3, .int i4, .int 0], [], M, J) r := by
  have hb := fi_bd i2
  have key : ∀ (n m : Nat) (a : fl_M) (ha : lq_64_28 i1 M m = .inr a), m + n = (i2).toNatClampNeg → fl_dn fB64 (28, [.ref 0, .int i1, .int i2, .int i3, .int i4, .int (Int32.ofNat m)], [], a, J) r := by
    intro n
    induction n with
    | zero =>
      intro m a ha hm
      have hm : m = (i2).toNatClampNeg := by omega
      have hn : ¬ ((Int32.ofNat m) < i2) := fun z => by have z := (fi_lt (by omega)).mp z; omega
      exact ts_64_28 i1 i2 i3 i4 (Int32.ofNat m) a J (fun h1 h2 => absurd h1 hn) (fun h1 h2 => absurd h1 hn) (fun h1 => (by have e : lr_64_28 i1 i2 M = a := (by show fx_ib (lq_64_28 i1 M ((i2).toNatClampNeg)) = _; rw [← hm, ha]; rfl); rw [e] at hx; exact hx _))
    | succ n ih =>
      intro m a ha hm
      have hp : (Int32.ofNat m) < i2 := by exact (fi_lt (by omega)).mpr (by omega)
      refine ts_64_28 i1 i2 i3 i4 (Int32.ofNat m) a J (fun h1 h2 => ?_) (fun h1 h2 => ?_) (fun h1 => absurd hp h1)
      · have e : lq_64_28 i1 M (m + 1) = .inr (m_46 0 24 a) := lqs_64_28 i1 M ha (by
          show (ls_64_28 i1) m a = _
          unfold ls_64_28
          simp only [if_pos h2])
        have q := ih (m + 1) _ e (by omega)
        first | (rw [fi_s]; exact q) | (rw [← fi_s] at q; exact q) | (simp only [fi_s] at q ⊢; exact q)
      · have e : lq_64_28 i1 M (m + 1) = .inl a := lqs_64_28 i1 M ha (by
          show (ls_64_28 i1) m a = _
          unfold ls_64_28
          simp only [if_neg h2])
        have e : lq_64_28 i1 M ((i2).toNatClampNeg) = .inl a := ix_l e (by omega)
        have e2 : lr_64_28 i1 i2 M = a := (by show fx_ib (lq_64_28 i1 M ((i2).toNatClampNeg)) = _; rw [e]; rfl)
        rw [e2] at hx
        exact hx _
  exact key ((i2).toNatClampNeg) 0 _ rfl (Nat.zero_add _)
def v_64 (l y ot mo : Int32) (M : fl_M) : Int32 := (if 0 < ((lr_64_28 l y (fl_u (m_23 24 15 M) 28 ot.toNatClampNeg (((m_23 24 15 M) 28 ot.toNatClampNeg) + mo))) 27 l.toNatClampNeg) then 1 else 0)
def m_64 (l y ot mo : Int32) (M : fl_M) : fl_M := (lr_64_28 l y (fl_u (m_23 24 15 M) 28 ot.toNatClampNeg (((m_23 24 15 M) 28 ot.toNatClampNeg) + mo)))
theorem cc_64 (M : fl_M) (J : fl_J) (l y ot mo : Int32) : fl_C 64 [.ref 0, .int l, .int y, .int ot, .int mo] M J (some (.int (v_64 l y ot mo M)), (m_64 l y ot mo M), J) :=
 fl_Co (B := fB64) rfl rfl <|
 fl_td (s' := (8, [.ref 0, .int l, .int y, .int ot, .int mo, .null], [.ref 15, .ref 24], M, J)) (fl_n 4 rfl) <|
 fl_td (s' := (11, [.ref 0, .int l, .int y, .int ot, .int mo, .null], [], (m_23 24 15 M), J)) (fl_cv (o := none) rfl rfl rfl rfl (cc_23 M J 24 15) rfl) <|
 fx_gen (p := fun (MM79 : fl_M) => fl_dn fB64 (11, [.ref 0, .int l, .int y, .int ot, .int mo, .null], [], MM79, J) (some (.int (v_64 l y ot mo M)), (m_64 l y ot mo M), J)) (m_23 24 15 M) (fun MM79 eMM79 =>
  fl_td (s' := (28, [.ref 0, .int l, .int y, .int ot, .int mo, .int 0], [], (fl_u MM79 28 ot.toNatClampNeg ((MM79 28 ot.toNatClampNeg) + mo)), J)) (fl_n 11 rfl) <|
  lp_64_28 l y ot mo (fl_u MM79 28 ot.toNatClampNeg ((MM79 28 ot.toNatClampNeg) + mo)) J (fun u82 =>
   fx_gen (p := fun (MM83 : fl_M) => fl_dn fB64 (61, [.ref 0, .int l, .int y, .int ot, .int mo, u82], [], MM83, J) (some (.int (v_64 l y ot mo M)), (m_64 l y ot mo M), J)) (lr_64_28 l y (fl_u MM79 28 ot.toNatClampNeg ((MM79 28 ot.toNatClampNeg) + mo))) (fun MM83 eMM83 =>
    fl_td (s' := (70, [.ref 0, .int l, .int y, .int ot, .int mo, u82], [.int (MM83 27 l.toNatClampNeg)], MM83, J)) (fl_n 5 rfl) <|
    fl_dnot (fl_if (t := 77) rfl rfl) fl_nle (fun h3 =>
     fl_td (s' := (78, [.ref 0, .int l, .int y, .int ot, .int mo, u82], [.int 1], MM83, J)) (fl_n 2 rfl) <|
     fl_rt rfl (fun _ => rfl) (by subst eMM79; subst eMM83; unfold v_64 m_64; first | (simp only [if_pos h3]; done) | rfl)) (fun h3 =>
     fl_td (s' := (78, [.ref 0, .int l, .int y, .int ot, .int mo, u82], [.int 0], MM83, J)) (fl_n 1 rfl) <|
     fl_rt rfl (fun _ => rfl) (by subst eMM79; subst eMM83; unfold v_64 m_64; first | (simp only [if_neg h3]; done) | rfl)))))
theorem fr_64_28 {i1 i2 : Int32} {M : fl_M} {c j : Nat} (hc : c < 24 ∨ 24 + 9 ≤ c) : (lr_64_28 i1 i2 M) c j = M c j := by
  have g0 : ¬ c = 24 := by omega
  have g1 : ¬ c = 24 + 1 := by omega
  have g2 : ¬ c = 24 + 2 := by omega
  have g3 : ¬ c = 24 + 3 := by omega
  have g4 : ¬ c = 24 + 4 := by omega
  have g5 : ¬ c = 24 + 5 := by omega
  have g6 : ¬ c = 24 + 6 := by omega
  have g7 : ¬ c = 24 + 7 := by omega
  have g8 : ¬ c = 24 + 8 := by omega
  unfold lr_64_28 lq_64_28
  refine ib_k (fun q : fl_M => q c j = M c j) rfl (fun m q d hq h => ?_)
  unfold ls_64_28 at h
  rcases h with h | h <;> (repeat' split at h) <;> first | (cases h; done) | (cases h; with_reducible exact hq) | (cases h; simp [fl_u, g0, g1, g2, g3, g4, g5, g6, g7, g8, fr_46 hc, hq]; done)
theorem fr_64 {l y ot mo : Int32} {M : fl_M} {c j : Nat} (hc : c < 24 ∨ 24 + 9 ≤ c) : (m_64 l y ot mo M) c j = M c j := by
  have g0 : ¬ c = 24 := by omega
  have g1 : ¬ c = 24 + 1 := by omega
  have g2 : ¬ c = 24 + 2 := by omega
  have g3 : ¬ c = 24 + 3 := by omega
  have g4 : ¬ c = 24 + 4 := by omega
  have g5 : ¬ c = 24 + 5 := by omega
  have g6 : ¬ c = 24 + 6 := by omega
  have g7 : ¬ c = 24 + 7 := by omega
  have g8 : ¬ c = 24 + 8 := by omega
  unfold m_64
  (try repeat' split) <;> first | with_reducible rfl | (simp [fl_u, g0, g1, g2, g3, g4, g5, g6, g7, g8, fr_64_28 hc, fr_23 hc]; done)
def fB63 : sm_P := (fun pc => sm_ch sm_t63 pc, sm_Kn 2 5 none, fun x => sm_lk sm_ca2 x, some .int)
-- MiceRegisters.save 52
def ls_63_52 (i1 i2 i3 : Int32) (m : Nat) (q : fl_M) : (Int32 × fl_M) ⊕ fl_M := (if (Int32.ofNat m) = i1 then (.inr q) else (if 20 < ((q 19 (Int32.ofNat m).toNatClampNeg) + i3) then (.inr q) else (if (v_64 i1 i2 (Int32.ofNat m) i3 q) = 0 then (.inr (m_64 i1 i2 (Int32.ofNat m) i3 q)) else (.inl (i3, (fl_u (m_64 i1 i2 (Int32.ofNat m) i3 q) 0 12 (Int32.ofNat m)))))))
def lq_63_52 (i1 i2 i3 : Int32) (M : fl_M) (m : Nat) : (Int32 × fl_M) ⊕ fl_M := fx_ix (ls_63_52 i1 i2 i3) m M
theorem lqs_63_52 (i1 i2 i3 : Int32) (M : fl_M) {m : Nat} {a : fl_M} {v : (Int32 × fl_M) ⊕ fl_M} (h : lq_63_52 i1 i2 i3 M m = .inr a) (e : (ls_63_52 i1 i2 i3) m a = v) : lq_63_52 i1 i2 i3 M (m + 1) = v := by
  unfold lq_63_52 at h ⊢
  exact ix_s1 h e
def lr_63_52 (i1 i2 i3 : Int32) (M : fl_M) : (Int32 × fl_M) ⊕ fl_M := (lq_63_52 i1 i2 i3 M (((M 15 0)).toNatClampNeg))
theorem ts_63_52 {r : fl_Q} (i1 i2 i3 i4 : Int32) (M : fl_M) (J : fl_J) (q1 : (i4 < (M 15 0)) → (i4 = i1) → fl_dn fB63 (52, [.ref 0, .int i1, .int i2, .int i3, .int (i4 + 1)], [], M, J) r) (q2 : (i4 < (M 15 0)) → (¬ (i4 = i1)) → (20 < ((M 19 i4.toNatClampNeg) + i3)) → fl_dn fB63 (52, [.ref 0, .int i1, .int i2, .int i3, .int (i4 + 1)], [], M, J) r) (q3 : (i4 < (M 15 0)) → (¬ (i4 = i1)) → (¬ (20 < ((M 19 i4.toNatClampNeg) + i3))) → ((v_64 i1 i2 i4 i3 M) = 0) → fl_dn fB63 (52, [.ref 0, .int i1, .int i2, .int i3, .int (i4 + 1)], [], (m_64 i1 i2 i4 i3 M), J) r) (e1 : (i4 < (M 15 0)) → (¬ (i4 = i1)) → (¬ (20 < ((M 19 i4.toNatClampNeg) + i3))) → (¬ ((v_64 i1 i2 i4 i3 M) = 0)) → (some (.int i3), (fl_u (m_64 i1 i2 i4 i3 M) 0 12 i4), J) = r) (q4 : (¬ (i4 < (M 15 0))) → fl_dn fB63 (114, [.ref 0, .int i1, .int i2, .int i3, .int i4], [], M, J) r) : fl_dn fB63 (52, [.ref 0, .int i1, .int i2, .int i3, .int i4], [], M, J) r :=
 fl_td (s' := (61, [.ref 0, .int i1, .int i2, .int i3, .int i4], [.int (M 15 0), .int i4], M, J)) (fl_n 4 rfl) <|
 fl_dnot (fl_ic (t := 114) rfl rfl) fl_nlt (fun h1 =>
  fl_td (s' := (67, [.ref 0, .int i1, .int i2, .int i3, .int i4], [.int i1, .int i4], M, J)) (fl_n 2 rfl) <|
  fl_dtwo (fl_ic (t := 108) rfl rfl) fl_cT (fun h2 =>
   fl_td (s' := (52, [.ref 0, .int i1, .int i2, .int i3, .int (i4 + 1)], [], M, J)) (fl_n 2 rfl) <|
   (q1 h1 h2)) (fun h2 =>
   fl_td (s' := (84, [.ref 0, .int i1, .int i2, .int i3, .int i4], [.int 20, .int ((M 19 i4.toNatClampNeg) + i3)], M, J)) (fl_n 8 rfl) <|
   fl_dtwo (fl_ic (t := 108) rfl rfl) fl_cT (fun h3 =>
    fl_td (s' := (52, [.ref 0, .int i1, .int i2, .int i3, .int (i4 + 1)], [], M, J)) (fl_n 2 rfl) <|
    (q2 h1 h2 h3)) (fun h3 =>
    fl_td (s' := (93, [.ref 0, .int i1, .int i2, .int i3, .int i4], [.int i3, .int i4, .int i2, .int i1, .ref 0], M, J)) (fl_n 5 rfl) <|
    fl_td (s' := (96, [.ref 0, .int i1, .int i2, .int i3, .int i4], [.int (v_64 i1 i2 i4 i3 M)], (m_64 i1 i2 i4 i3 M), J)) (fl_cv (o := some (.int (v_64 i1 i2 i4 i3 M))) rfl rfl rfl rfl (cc_64 M J i1 i2 i4 i3) rfl) <|
    fx_gen (p := fun (MM85 : fl_M) => fl_dn fB63 (96, [.ref 0, .int i1, .int i2, .int i3, .int i4], [.int (v_64 i1 i2 i4 i3 M)], MM85, J) r) (m_64 i1 i2 i4 i3 M) (fun MM85 eMM85 =>
     fl_dtwo (fl_if (t := 108) rfl rfl) fl_cT (fun h5 =>
      fl_td (s' := (52, [.ref 0, .int i1, .int i2, .int i3, .int (i4 + 1)], [], MM85, J)) (fl_n 2 rfl) <|
      (by subst eMM85; exact (q3 h1 h2 h3 h5))) (fun h5 =>
      fl_td (s' := (102, [.ref 0, .int i1, .int i2, .int i3, .int i4], [.int i4, .ref 0], MM85, J)) (fl_n 2 rfl) <|
      fl_td (s' := (105, [.ref 0, .int i1, .int i2, .int i3, .int i4], [.int 1], (fl_u MM85 0 12 i4), J)) (fl_cv (o := some (.int 1)) rfl rfl rfl rfl (cc_5 MM85 J i4) rfl) <|
      fl_td (s' := (107, [.ref 0, .int i1, .int i2, .int i3, .int i4], [.int i3], (fl_u MM85 0 12 i4), J)) (fl_n 2 rfl) <|
      fl_rt rfl (fun _ => rfl) (by subst eMM85; exact (e1 h1 h2 h3 h5))))))) (fun h1 =>
  (q4 h1))
theorem lk_63_52 (i1 i2 i3 : Int32) (M : fl_M) (m : Nat) : ∀ a, lq_63_52 i1 i2 i3 M m = .inr a → (a 15 0) = (M 15 0) := by
  induction m with
  | zero => intro a h; cases h; rfl
  | succ m ih =>
    intro a h
    obtain ⟨q, h1, h2⟩ := ix_s h
    rw [← ih q h1]
    unfold ls_63_52 at h2
    (repeat' split at h2) <;> first | (cases h2; done) | (cases h2; with_reducible rfl) | (cases h2; simp [fl_u, fr_22_18, fr_22_53, fr_23_42, fr_23_106, fr_23, fr_46_4, fr_46_100, fr_46, fr_45, fr_59_2, fr_44, fr_54_10, fr_51_9, fr_64_28, fr_64]; done)
theorem lp_63_52 {r : fl_Q} (i1 i2 i3 : Int32) (M : fl_M) (J : fl_J) (hq : ∀ c, lr_63_52 i1 i2 i3 M = .inl c → (some (.int c.1), c.2, J) = r) (hx : ∀ a, lr_63_52 i1 i2 i3 M = .inr a → ∀ w4 : Value, fl_dn fB63 (114, [.ref 0, .int i1, .int i2, .int i3, w4], [], a, J) r) : fl_dn fB63 (52, [.ref 0, .int i1, .int i2, .int i3, .int 0], [], M, J) r := by
  have hb := fi_bd (M 15 0)
  have hB := fun m a h => lk_63_52 i1 i2 i3 M m a h
  have key : ∀ (n m : Nat) (a : fl_M) (ha : lq_63_52 i1 i2 i3 M m = .inr a), m + n = ((M 15 0)).toNatClampNeg → fl_dn fB63 (52, [.ref 0, .int i1, .int i2, .int i3, .int (Int32.ofNat m)], [], a, J) r := by
    intro n
    induction n with
    | zero =>
      intro m a ha hm
      have hm : m = ((M 15 0)).toNatClampNeg := by omega
      have hn : ¬ ((Int32.ofNat m) < (a 15 0)) := fun z => by rw [hB m a ha] at z; have z := (fi_lt (by omega)).mp z; omega
      exact ts_63_52 i1 i2 i3 (Int32.ofNat m) a J (fun h1 h2 => absurd h1 hn) (fun h1 h2 h3 => absurd h1 hn) (fun h1 h2 h3 h5 => absurd h1 hn) (fun h1 h2 h3 h5 => absurd h1 hn) (fun h1 => hx a (by show lq_63_52 i1 i2 i3 M (((M 15 0)).toNatClampNeg) = _; rw [← hm]; exact ha) _)
    | succ n ih =>
      intro m a ha hm
      have hp : (Int32.ofNat m) < (a 15 0) := by rw [hB m a ha]; exact (fi_lt (by omega)).mpr (by omega)
      refine ts_63_52 i1 i2 i3 (Int32.ofNat m) a J (fun h1 h2 => ?_) (fun h1 h2 h3 => ?_) (fun h1 h2 h3 h5 => ?_) (fun h1 h2 h3 h5 => ?_) (fun h1 => absurd hp h1)
      · have e : lq_63_52 i1 i2 i3 M (m + 1) = .inr a := lqs_63_52 i1 i2 i3 M ha (by
          show (ls_63_52 i1 i2 i3) m a = _
          unfold ls_63_52
          simp only [if_pos h2])
        have q := ih (m + 1) _ e (by omega)
        first | (rw [fi_s]; exact q) | (rw [← fi_s] at q; exact q) | (simp only [fi_s] at q ⊢; exact q)
      · have e : lq_63_52 i1 i2 i3 M (m + 1) = .inr a := lqs_63_52 i1 i2 i3 M ha (by
          show (ls_63_52 i1 i2 i3) m a = _
          unfold ls_63_52
          simp only [if_neg h2, if_pos h3])
        have q := ih (m + 1) _ e (by omega)
        first | (rw [fi_s]; exact q) | (rw [← fi_s] at q; exact q) | (simp only [fi_s] at q ⊢; exact q)
      · have e : lq_63_52 i1 i2 i3 M (m + 1) = .inr (m_64 i1 i2 (Int32.ofNat m) i3 a) := lqs_63_52 i1 i2 i3 M ha (by
          show (ls_63_52 i1 i2 i3) m a = _
          unfold ls_63_52
          simp only [if_neg h2, if_neg h3, if_pos h5])
        have q := ih (m + 1) _ e (by omega)
        first | (rw [fi_s]; exact q) | (rw [← fi_s] at q; exact q) | (simp only [fi_s] at q ⊢; exact q)
      · have e : lq_63_52 i1 i2 i3 M (m + 1) = .inl (i3, (fl_u (m_64 i1 i2 (Int32.ofNat m) i3 a) 0 12 (Int32.ofNat m))) := lqs_63_52 i1 i2 i3 M ha (by
          show (ls_63_52 i1 i2 i3) m a = _
          unfold ls_63_52
          simp only [if_neg h2, if_neg h3, if_neg h5])
        have e : lq_63_52 i1 i2 i3 M (((M 15 0)).toNatClampNeg) = .inl (i3, (fl_u (m_64 i1 i2 (Int32.ofNat m) i3 a) 0 12 (Int32.ofNat m))) := ix_l e (by omega)
        exact hq _ e
  exact key (((M 15 0)).toNatClampNeg) 0 _ rfl (Nat.zero_add _)
-- MiceRegisters.save 43
def ls_63_43 (i1 i2 : Int32) (m : Nat) (q : fl_M) : (Int32 × fl_M) ⊕ fl_M := (match (lr_63_52 i1 i2 (Int32.ofNat (1 + m)) q) with | .inl c86 => (.inl (c86.1, c86.2)) | .inr a87 => (.inr a87))
def lq_63_43 (i1 i2 : Int32) (M : fl_M) (m : Nat) : (Int32 × fl_M) ⊕ fl_M := fx_ix (ls_63_43 i1 i2) m M
theorem lqs_63_43 (i1 i2 : Int32) (M : fl_M) {m : Nat} {a : fl_M} {v : (Int32 × fl_M) ⊕ fl_M} (h : lq_63_43 i1 i2 M m = .inr a) (e : (ls_63_43 i1 i2) m a = v) : lq_63_43 i1 i2 M (m + 1) = v := by
  unfold lq_63_43 at h ⊢
  exact ix_s1 h e
def lr_63_43 (i1 i2 : Int32) (M : fl_M) : (Int32 × fl_M) ⊕ fl_M := (lq_63_43 i1 i2 M (20))
theorem ts_63_43 {r : fl_Q} (i1 i2 i3 : Int32) (u4 : Value) (M : fl_M) (J : fl_J) (q1 : (20 < i3) → fl_dn fB63 (120, [.ref 0, .int i1, .int i2, .int i3, u4], [], M, J) r) (e1 : (¬ (20 < i3)) → ∀ c86, (lr_63_52 i1 i2 i3 M) = .inl c86 → (some (.int c86.1), c86.2, J) = r) (q2 : (¬ (20 < i3)) → ∀ a87, (lr_63_52 i1 i2 i3 M) = .inr a87 → ∀ u88 : Value, fl_dn fB63 (43, [.ref 0, .int i1, .int i2, .int (i3 + 1), u88], [], a87, J) r) : fl_dn fB63 (43, [.ref 0, .int i1, .int i2, .int i3, u4], [], M, J) r :=
 fl_td (s' := (46, [.ref 0, .int i1, .int i2, .int i3, u4], [.int 20, .int i3], M, J)) (fl_n 2 rfl) <|
 fl_dtwo (fl_ic (t := 120) rfl rfl) fl_cT (fun h1 =>
  (q1 h1)) (fun h1 =>
  fl_td (s' := (52, [.ref 0, .int i1, .int i2, .int i3, .int 0], [], M, J)) (fl_n 2 rfl) <|
  lp_63_52 i1 i2 i3 M J (fun c86 h3 => (e1 h1 c86 h3)) (fun a87 h2 u88 =>
   fl_td (s' := (43, [.ref 0, .int i1, .int i2, .int (i3 + 1), u88], [], a87, J)) (fl_n 2 rfl) <|
   (q2 h1 a87 h2 u88)))
theorem lp_63_43 {r : fl_Q} (i1 i2 : Int32) (u4 : Value) (M : fl_M) (J : fl_J) (hq : ∀ c, lr_63_43 i1 i2 M = .inl c → (some (.int c.1), c.2, J) = r) (hx : ∀ a, lr_63_43 i1 i2 M = .inr a → ∀ w3 w4 : Value, fl_dn fB63 (120, [.ref 0, .int i1, .int i2, w3, w4], [], a, J) r) : fl_dn fB63 (43, [.ref 0, .int i1, .int i2, .int 1, u4], [], M, J) r := by
  have hb : (20 : Int32).toNatClampNeg = 20 := rfl
  have key : ∀ (n m : Nat) (w4 : Value) (a : fl_M) (ha : lq_63_43 i1 i2 M m = .inr a), m + n = 20 → fl_dn fB63 (43, [.ref 0, .int i1, .int i2, .int (Int32.ofNat (1 + m)), w4], [], a, J) r := by
    intro n
    induction n with
    | zero =>
      intro m w4 a ha hm
      have hm : m = 20 := by omega
      have hn : 20 < (Int32.ofNat (1 + m)) := by exact (fi_gt (by decide) (by omega)).mpr (by omega)
      exact ts_63_43 i1 i2 (Int32.ofNat (1 + m)) w4 a J (fun h1 => hx a (by show lq_63_43 i1 i2 M (20) = _; rw [← hm]; exact ha) _ _) (fun h1 c86 h3 => absurd hn h1) (fun h1 a87 h2 u88 => absurd hn h1)
    | succ n ih =>
      intro m w4 a ha hm
      have hp : ¬ (20 < (Int32.ofNat (1 + m))) := fun z => by have z := (fi_gt (by decide) (by omega)).mp z; omega
      refine ts_63_43 i1 i2 (Int32.ofNat (1 + m)) w4 a J (fun h1 => absurd h1 hp) (fun h1 c86 h3 => ?_) (fun h1 a87 h2 u88 => ?_)
      · have e : lq_63_43 i1 i2 M (m + 1) = .inl (c86.1, c86.2) := lqs_63_43 i1 i2 M ha (by
          show (ls_63_43 i1 i2) m a = _
          unfold ls_63_43
          simp only [h3])
        have e : lq_63_43 i1 i2 M (20) = .inl (c86.1, c86.2) := ix_l e (by omega)
        exact hq _ e
      · have e : lq_63_43 i1 i2 M (m + 1) = .inr a87 := lqs_63_43 i1 i2 M ha (by
          show (ls_63_43 i1 i2) m a = _
          unfold ls_63_43
          simp only [h2])
        have q := ih (m + 1) u88 _ e (by omega)
        first | (rw [fi_s]; exact q) | (rw [← fi_s] at q; exact q) | (simp only [fi_s] at q ⊢; exact q)
  exact key (20) 0 u4 _ rfl (Nat.zero_add _)
def v_63 (l n : Int32) (M : fl_M) : Int32 := (if (l < 0) ∨ (¬ (l < (M 15 0))) then (-1) else (if n < 1 then (-1) else (if 20 < n then (-1) else (if (v_64 l n l 0 M) = 0 then (match (lr_63_43 l n (m_64 l n l 0 M)) with | .inl c89 => c89.1 | .inr a90 => (-9)) else 0))))
def m_63 (l n : Int32) (M : fl_M) : fl_M := (if (l < 0) ∨ (¬ (l < (M 15 0))) then M else (if n < 1 then M else (if 20 < n then M else (if (v_64 l n l 0 M) = 0 then (match (lr_63_43 l n (m_64 l n l 0 M)) with | .inl c89 => c89.2 | .inr a90 => a90) else (fl_u (m_64 l n l 0 M) 0 12 (-9))))))
theorem cc_63 (M : fl_M) (J : fl_J) (l n : Int32) : fl_C 63 [.ref 0, .int l, .int n] M J (some (.int (v_63 l n M)), (m_63 l n M), J) :=
 fl_Co (B := fB63) rfl rfl <|
 fl_td (s' := (2, [.ref 0, .int l, .int n, .null, .null], [.int l, .ref 0], M, J)) (fl_n 2 rfl) <|
 fl_td (s' := (5, [.ref 0, .int l, .int n, .null, .null], [.int (if (l < 0) ∨ (¬ (l < (M 15 0))) then 1 else 0)], M, J)) (fl_cv (o := some (.int (if (l < 0) ∨ (¬ (l < (M 15 0))) then 1 else 0))) rfl rfl rfl rfl (cc_25 M J l) rfl) <|
 fl_dtwo (fl_if (t := 19) rfl rfl) fl_b1 (fun h1 =>
  fl_td (s' := (20, [.ref 0, .int l, .int n, .null, .null], [.int (-1)], M, J)) (fl_n 1 rfl) <|
  fl_rt rfl (fun _ => rfl) (by unfold v_63 m_63; first | (simp only [if_pos h1]; done) | rfl)) (fun h1 =>
  fl_td (s' := (10, [.ref 0, .int l, .int n, .null, .null], [.int 1, .int n], M, J)) (fl_n 2 rfl) <|
  fl_dtwo (fl_ic (t := 19) rfl rfl) fl_cT (fun h2 =>
   fl_td (s' := (20, [.ref 0, .int l, .int n, .null, .null], [.int (-1)], M, J)) (fl_n 1 rfl) <|
   fl_rt rfl (fun _ => rfl) (by unfold v_63 m_63; first | (simp only [if_neg h1, if_pos h2]; done) | rfl)) (fun h2 =>
   fl_td (s' := (16, [.ref 0, .int l, .int n, .null, .null], [.int 20, .int n], M, J)) (fl_n 2 rfl) <|
   fl_dnot (fl_ic (t := 21) rfl rfl) fl_nle (fun h3 =>
    fl_td (s' := (20, [.ref 0, .int l, .int n, .null, .null], [.int (-1)], M, J)) (fl_n 1 rfl) <|
    fl_rt rfl (fun _ => rfl) (by unfold v_63 m_63; first | (simp only [if_neg h1, if_neg h2, if_pos h3]; done) | rfl)) (fun h3 =>
    fl_td (s' := (26, [.ref 0, .int l, .int n, .null, .null], [.int 0, .int l, .int n, .int l, .ref 0], M, J)) (fl_n 5 rfl) <|
    fl_td (s' := (29, [.ref 0, .int l, .int n, .null, .null], [.int (v_64 l n l 0 M)], (m_64 l n l 0 M), J)) (fl_cv (o := some (.int (v_64 l n l 0 M))) rfl rfl rfl rfl (cc_64 M J l n l 0) rfl) <|
    fx_gen (p := fun (MM84 : fl_M) => fl_dn fB63 (29, [.ref 0, .int l, .int n, .null, .null], [.int (v_64 l n l 0 M)], MM84, J) (some (.int (v_63 l n M)), (m_63 l n M), J)) (m_64 l n l 0 M) (fun MM84 eMM84 =>
     fl_dtwo (fl_if (t := 41) rfl rfl) fl_cT (fun h5 =>
      fl_td (s' := (43, [.ref 0, .int l, .int n, .int 1, .null], [], MM84, J)) (fl_n 2 rfl) <|
      lp_63_43 l n .null MM84 J (fun c89 h7 => by subst eMM84; unfold v_63 m_63; first | (simp only [if_neg h1, if_neg h2, if_neg h3, if_pos h5, h7]; done) | rfl) (fun a90 h6 u91 u92 =>
       fl_td (s' := (122, [.ref 0, .int l, .int n, u91, u92], [.int (-9)], a90, J)) (fl_n 1 rfl) <|
       fl_rt rfl (fun _ => rfl) (by subst eMM84; unfold v_63 m_63; first | (simp only [if_neg h1, if_neg h2, if_neg h3, if_pos h5, h6]; done) | rfl))) (fun h5 =>
      fl_td (s' := (35, [.ref 0, .int l, .int n, .null, .null], [.int (-9), .ref 0], MM84, J)) (fl_n 2 rfl) <|
      fl_td (s' := (38, [.ref 0, .int l, .int n, .null, .null], [.int 1], (fl_u MM84 0 12 (-9)), J)) (fl_cv (o := some (.int 1)) rfl rfl rfl rfl (cc_5 MM84 J (-9)) rfl) <|
      fl_td (s' := (40, [.ref 0, .int l, .int n, .null, .null], [.int 0], (fl_u MM84 0 12 (-9)), J)) (fl_n 2 rfl) <|
      fl_rt rfl (fun _ => rfl) (by subst eMM84; unfold v_63 m_63; first | (simp only [if_neg h1, if_neg h2, if_neg h3, if_neg h5]; done) | rfl))))))
def fB65 : sm_P := (fun pc => sm_ch sm_t65 pc, sm_Kn 2 6 none, fun x => sm_lk sm_ca2 x, some .int)
-- MiceRegisters.guard 33
def ls_65_33 (i1 : Int32) (m : Nat) (q : (Int32 × Int32 × fl_M)) : (Int32 × Int32 × fl_M) := (if q.2.1 < (lr_66_4 0 24 (lr_59_2 i1 24 (fl_u (m_23 24 15 q.2.2) 24 3 (Int32.ofNat m)))) then ((Int32.ofNat m), (lr_66_4 0 24 (lr_59_2 i1 24 (fl_u (m_23 24 15 q.2.2) 24 3 (Int32.ofNat m)))), (lr_59_2 i1 24 (fl_u (m_23 24 15 q.2.2) 24 3 (Int32.ofNat m)))) else (q.1, q.2.1, (lr_59_2 i1 24 (fl_u (m_23 24 15 q.2.2) 24 3 (Int32.ofNat m)))))
def lq_65_33 (i1 i2 i3 : Int32) (M : fl_M) (m : Nat) : (Int32 × Int32 × fl_M) := fx_it (ls_65_33 i1) m (i2, i3, M)
theorem lqs_65_33 (i1 i2 i3 : Int32) (M : fl_M) (m : Nat) : lq_65_33 i1 i2 i3 M (m + 1) = (ls_65_33 i1) m (lq_65_33 i1 i2 i3 M m) := by
  unfold lq_65_33
  exact fx_it_s _ _ _
def lr_65_33 (i1 i2 i3 : Int32) (M : fl_M) : (Int32 × Int32 × fl_M) := (lq_65_33 i1 i2 i3 M (((M 15 0)).toNatClampNeg))
theorem ts_65_33 {r : fl_Q} (i1 i2 i3 i4 : Int32) (u5 : Value) (M : fl_M) (J : fl_J) (q1 : (i4 < (M 15 0)) → (i3 < (lr_66_4 0 24 (lr_59_2 i1 24 (fl_u (m_23 24 15 M) 24 3 i4)))) → fl_dn fB65 (33, [.ref 0, .int i1, .int i4, .int (lr_66_4 0 24 (lr_59_2 i1 24 (fl_u (m_23 24 15 M) 24 3 i4))), .int (i4 + 1), .int (lr_66_4 0 24 (lr_59_2 i1 24 (fl_u (m_23 24 15 M) 24 3 i4)))], [], (lr_59_2 i1 24 (fl_u (m_23 24 15 M) 24 3 i4)), J) r) (q2 : (i4 < (M 15 0)) → (¬ (i3 < (lr_66_4 0 24 (lr_59_2 i1 24 (fl_u (m_23 24 15 M) 24 3 i4))))) → fl_dn fB65 (33, [.ref 0, .int i1, .int i2, .int i3, .int (i4 + 1), .int (lr_66_4 0 24 (lr_59_2 i1 24 (fl_u (m_23 24 15 M) 24 3 i4)))], [], (lr_59_2 i1 24 (fl_u (m_23 24 15 M) 24 3 i4)), J) r) (q3 : (¬ (i4 < (M 15 0))) → fl_dn fB65 (100, [.ref 0, .int i1, .int i2, .int i3, .int i4, u5], [], M, J) r) : fl_dn fB65 (33, [.ref 0, .int i1, .int i2, .int i3, .int i4, u5], [], M, J) r :=
 fl_td (s' := (42, [.ref 0, .int i1, .int i2, .int i3, .int i4, u5], [.int (M 15 0), .int i4], M, J)) (fl_n 4 rfl) <|
 fl_dnot (fl_ic (t := 100) rfl rfl) fl_nlt (fun h1 =>
  fl_td (s' := (53, [.ref 0, .int i1, .int i2, .int i3, .int i4, u5], [.ref 15, .ref 24], M, J)) (fl_n 4 rfl) <|
  fl_td (s' := (56, [.ref 0, .int i1, .int i2, .int i3, .int i4, u5], [], (m_23 24 15 M), J)) (fl_cv (o := none) rfl rfl rfl rfl (cc_23 M J 24 15) rfl) <|
  fx_gen (p := fun (MM93 : fl_M) => fl_dn fB65 (56, [.ref 0, .int i1, .int i2, .int i3, .int i4, u5], [], MM93, J) r) (m_23 24 15 M) (fun MM93 eMM93 =>
   fl_td (s' := (70, [.ref 0, .int i1, .int i2, .int i3, .int i4, u5], [.int i1, .ref 24], (fl_u MM93 24 3 i4), J)) (fl_n 7 rfl) <|
   fl_td (s' := (73, [.ref 0, .int i1, .int i2, .int i3, .int i4, u5], [], (lr_59_2 i1 24 (fl_u MM93 24 3 i4)), J)) (fl_cv (o := none) rfl rfl rfl rfl (cc_59 (fl_u MM93 24 3 i4) J i1 24) rfl) <|
   fx_gen (p := fun (MM94 : fl_M) => fl_dn fB65 (73, [.ref 0, .int i1, .int i2, .int i3, .int i4, u5], [], MM94, J) r) (lr_59_2 i1 24 (fl_u MM93 24 3 i4)) (fun MM94 eMM94 =>
    fl_td (s' := (77, [.ref 0, .int i1, .int i2, .int i3, .int i4, u5], [.ref 24], MM94, J)) (fl_n 2 rfl) <|
    fl_td (s' := (80, [.ref 0, .int i1, .int i2, .int i3, .int i4, u5], [.int (lr_66_4 0 24 MM94)], MM94, J)) (fl_cv (o := some (.int (lr_66_4 0 24 MM94))) rfl rfl rfl rfl (cc_66 MM94 J 24) rfl) <|
    fx_gen (p := fun (II95 : Int32) => fl_dn fB65 (80, [.ref 0, .int i1, .int i2, .int i3, .int i4, u5], [.int II95], MM94, J) r) (lr_66_4 0 24 MM94) (fun II95 eII95 =>
     fl_td (s' := (85, [.ref 0, .int i1, .int i2, .int i3, .int i4, .int II95], [.int i3, .int II95], MM94, J)) (fl_n 3 rfl) <|
     fl_dnot (fl_ic (t := 94) rfl rfl) fl_nle (fun h4 =>
      fl_td (s' := (33, [.ref 0, .int i1, .int i4, .int II95, .int (i4 + 1), .int II95], [], MM94, J)) (fl_n 6 rfl) <|
      (by subst eMM93; subst eMM94; subst eII95; exact (q1 h1 h4))) (fun h4 =>
      fl_td (s' := (33, [.ref 0, .int i1, .int i2, .int i3, .int (i4 + 1), .int II95], [], MM94, J)) (fl_n 2 rfl) <|
      (by subst eMM93; subst eMM94; subst eII95; exact (q2 h1 h4))))))) (fun h1 =>
  (q3 h1))
theorem lk_65_33 (i1 i2 i3 : Int32) (M : fl_M) (m : Nat) : (((lq_65_33 i1 i2 i3 M m).2.2) 15 0) = (M 15 0) := by
  induction m with
  | zero => rfl
  | succ m ih =>
    rw [← ih]
    rw [lqs_65_33]
    generalize lq_65_33 i1 i2 i3 M m = q
    unfold ls_65_33
    (repeat' split) <;> first | with_reducible rfl | (simp [fl_u, fr_22_18, fr_22_53, fr_23_42, fr_23_106, fr_23, fr_46_4, fr_46_100, fr_46, fr_45, fr_59_2, fr_44, fr_54_10, fr_51_9, fr_64_28, fr_64]; done) | rfl
theorem lp_65_33 {r : fl_Q} (i1 i2 i3 : Int32) (u5 : Value) (M : fl_M) (J : fl_J) (hx : ∀ w4 w5 : Value, fl_dn fB65 (100, [.ref 0, .int i1, .int ((lr_65_33 i1 i2 i3 M).1), .int ((lr_65_33 i1 i2 i3 M).2.1), w4, w5], [], ((lr_65_33 i1 i2 i3 M).2.2), J) r) : fl_dn fB65 (33, [.ref 0, .int i1, .int i2, .int i3, .int 0, u5], [], M, J) r := by
  have hb := fi_bd (M 15 0)
  have hB := fun m => lk_65_33 i1 i2 i3 M m
  have key : ∀ (n m : Nat) (w5 : Value), m + n = ((M 15 0)).toNatClampNeg → fl_dn fB65 (33, [.ref 0, .int i1, .int ((lq_65_33 i1 i2 i3 M m).1), .int ((lq_65_33 i1 i2 i3 M m).2.1), .int (Int32.ofNat m), w5], [], ((lq_65_33 i1 i2 i3 M m).2.2), J) r := by
    intro n
    induction n with
    | zero =>
      intro m w5 hm
      have hm : m = ((M 15 0)).toNatClampNeg := by omega
      have hn : ¬ ((Int32.ofNat m) < (((lq_65_33 i1 i2 i3 M m).2.2) 15 0)) := fun z => by rw [hB m] at z; have z := (fi_lt (by omega)).mp z; omega
      exact ts_65_33 i1 ((lq_65_33 i1 i2 i3 M m).1) ((lq_65_33 i1 i2 i3 M m).2.1) (Int32.ofNat m) w5 ((lq_65_33 i1 i2 i3 M m).2.2) J (fun h1 h4 => absurd h1 hn) (fun h1 h4 => absurd h1 hn) (fun h1 => (by have e : lr_65_33 i1 i2 i3 M = lq_65_33 i1 i2 i3 M m := (by show lq_65_33 i1 i2 i3 M (((M 15 0)).toNatClampNeg) = _; rw [← hm]); rw [e] at hx; exact hx _ _))
    | succ n ih =>
      intro m w5 hm
      have hp : (Int32.ofNat m) < (((lq_65_33 i1 i2 i3 M m).2.2) 15 0) := by rw [hB m]; exact (fi_lt (by omega)).mpr (by omega)
      refine ts_65_33 i1 ((lq_65_33 i1 i2 i3 M m).1) ((lq_65_33 i1 i2 i3 M m).2.1) (Int32.ofNat m) w5 ((lq_65_33 i1 i2 i3 M m).2.2) J (fun h1 h4 => ?_) (fun h1 h4 => ?_) (fun h1 => absurd hp h1)
      · have e : lq_65_33 i1 i2 i3 M (m + 1) = ((Int32.ofNat m), (lr_66_4 0 24 (lr_59_2 i1 24 (fl_u (m_23 24 15 ((lq_65_33 i1 i2 i3 M m).2.2)) 24 3 (Int32.ofNat m)))), (lr_59_2 i1 24 (fl_u (m_23 24 15 ((lq_65_33 i1 i2 i3 M m).2.2)) 24 3 (Int32.ofNat m)))) := by
          rw [lqs_65_33]
          unfold ls_65_33
          simp only [if_pos h4]
        have q := ih (m + 1) (.int (lr_66_4 0 24 (lr_59_2 i1 24 (fl_u (m_23 24 15 ((lq_65_33 i1 i2 i3 M m).2.2)) 24 3 (Int32.ofNat m))))) (by omega)
        rw [e] at q
        first | (rw [fi_s]; exact q) | (rw [← fi_s] at q; exact q) | (simp only [fi_s] at q ⊢; exact q)
      · have e : lq_65_33 i1 i2 i3 M (m + 1) = (((lq_65_33 i1 i2 i3 M m).1), ((lq_65_33 i1 i2 i3 M m).2.1), (lr_59_2 i1 24 (fl_u (m_23 24 15 ((lq_65_33 i1 i2 i3 M m).2.2)) 24 3 (Int32.ofNat m)))) := by
          rw [lqs_65_33]
          unfold ls_65_33
          simp only [if_neg h4]
        have q := ih (m + 1) (.int (lr_66_4 0 24 (lr_59_2 i1 24 (fl_u (m_23 24 15 ((lq_65_33 i1 i2 i3 M m).2.2)) 24 3 (Int32.ofNat m))))) (by omega)
        rw [e] at q
        first | (rw [fi_s]; exact q) | (rw [← fi_s] at q; exact q) | (simp only [fi_s] at q ⊢; exact q)
  exact key (((M 15 0)).toNatClampNeg) 0 u5 (Nat.zero_add _)
def v_65 (n : Int32) (M : fl_M) : Int32 := (if n < 1 then (-1) else (if 20 < n then (-1) else (if (M 15 1) = 0 then (-4) else ((lr_65_33 n 0 (-1) M).1))))
def m_65 (n : Int32) (M : fl_M) : fl_M := (if n < 1 then M else (if 20 < n then M else (if (M 15 1) = 0 then M else (fl_u ((lr_65_33 n 0 (-1) M).2.2) 0 12 ((lr_65_33 n 0 (-1) M).2.1)))))
theorem cc_65 (M : fl_M) (J : fl_J) (n : Int32) : fl_C 65 [.ref 0, .int n] M J (some (.int (v_65 n M)), (m_65 n M), J) :=
 fl_Co (B := fB65) rfl rfl <|
 fl_td (s' := (2, [.ref 0, .int n, .null, .null, .null, .null], [.int 1, .int n], M, J)) (fl_n 2 rfl) <|
 fl_dtwo (fl_ic (t := 11) rfl rfl) fl_cT (fun h1 =>
  fl_td (s' := (12, [.ref 0, .int n, .null, .null, .null, .null], [.int (-1)], M, J)) (fl_n 1 rfl) <|
  fl_rt rfl (fun _ => rfl) (by unfold v_65 m_65; first | (simp only [if_pos h1]; done) | rfl)) (fun h1 =>
  fl_td (s' := (8, [.ref 0, .int n, .null, .null, .null, .null], [.int 20, .int n], M, J)) (fl_n 2 rfl) <|
  fl_dnot (fl_ic (t := 13) rfl rfl) fl_nle (fun h2 =>
   fl_td (s' := (12, [.ref 0, .int n, .null, .null, .null, .null], [.int (-1)], M, J)) (fl_n 1 rfl) <|
   fl_rt rfl (fun _ => rfl) (by unfold v_65 m_65; first | (simp only [if_neg h1, if_pos h2]; done) | rfl)) (fun h2 =>
   fl_td (s' := (20, [.ref 0, .int n, .null, .null, .null, .null], [.int (M 15 1)], M, J)) (fl_n 3 rfl) <|
   fl_dnot (fl_if (t := 26) rfl rfl) fl_cF (fun h3 =>
    fl_td (s' := (25, [.ref 0, .int n, .null, .null, .null, .null], [.int (-4)], M, J)) (fl_n 1 rfl) <|
    fl_rt rfl (fun _ => rfl) (by unfold v_65 m_65; first | (simp only [if_neg h1, if_neg h2, if_pos h3]; done) | rfl)) (fun h3 =>
    fl_td (s' := (33, [.ref 0, .int n, .int 0, .int (-1), .int 0, .null], [], M, J)) (fl_n 6 rfl) <|
    lp_65_33 n 0 (-1) .null M J (fun u96 u97 =>
     fx_gen (p := fun (MM98 : fl_M) => fl_dn fB65 (100, [.ref 0, .int n, .int ((lr_65_33 n 0 (-1) M).1), .int ((lr_65_33 n 0 (-1) M).2.1), u96, u97], [], MM98, J) (some (.int (v_65 n M)), (m_65 n M), J)) ((lr_65_33 n 0 (-1) M).2.2) (fun MM98 eMM98 =>
      fx_gen (p := fun (II99 : Int32) => fl_dn fB65 (100, [.ref 0, .int n, .int II99, .int ((lr_65_33 n 0 (-1) M).2.1), u96, u97], [], MM98, J) (some (.int (v_65 n M)), (m_65 n M), J)) ((lr_65_33 n 0 (-1) M).1) (fun II99 eII99 =>
       fx_gen (p := fun (II100 : Int32) => fl_dn fB65 (100, [.ref 0, .int n, .int II99, .int II100, u96, u97], [], MM98, J) (some (.int (v_65 n M)), (m_65 n M), J)) ((lr_65_33 n 0 (-1) M).2.1) (fun II100 eII100 =>
        fl_td (s' := (102, [.ref 0, .int n, .int II99, .int II100, u96, u97], [.int II100, .ref 0], MM98, J)) (fl_n 2 rfl) <|
        fl_td (s' := (105, [.ref 0, .int n, .int II99, .int II100, u96, u97], [.int 1], (fl_u MM98 0 12 II100), J)) (fl_cv (o := some (.int 1)) rfl rfl rfl rfl (cc_5 MM98 J II100) rfl) <|
        fl_td (s' := (107, [.ref 0, .int n, .int II99, .int II100, u96, u97], [.int II99], (fl_u MM98 0 12 II100), J)) (fl_n 2 rfl) <|
        fl_rt rfl (fun _ => rfl) (by subst eMM98; subst eII99; subst eII100; unfold v_65 m_65; first | (simp only [if_neg h1, if_neg h2, if_neg h3]; done) | rfl))))))))
def fB68 : sm_P := (fun pc => sm_ch sm_t68 pc, sm_Kn 2 5 none, fun x => sm_lk sm_ca2 x, some .int)
-- MiceRegisters.refusalOfTrace 55
def ls_68_55 (i2 : Int32) (M : fl_M) (m : Nat) (q : Unit) : (Int32 × fl_M) ⊕ Unit := (if ((M (fl_ar 2 i2.toNatClampNeg) (Int32.ofNat m).toNatClampNeg) < 0) ∨ (¬ ((M (fl_ar 2 i2.toNatClampNeg) (Int32.ofNat m).toNatClampNeg) < (M 15 0))) then (.inl ((-3), (fl_u (fl_u M 0 11 3) 80 3 ((M 80 3) + 1)))) else (.inr ()))
def lq_68_55 (i2 : Int32) (M : fl_M) (m : Nat) : (Int32 × fl_M) ⊕ Unit := fx_ix (ls_68_55 i2 M) m ()
theorem lqs_68_55 (i2 : Int32) (M : fl_M) {m : Nat} {a : Unit} {v : (Int32 × fl_M) ⊕ Unit} (h : lq_68_55 i2 M m = .inr a) (e : (ls_68_55 i2 M) m a = v) : lq_68_55 i2 M (m + 1) = v := by
  unfold lq_68_55 at h ⊢
  exact ix_s1 h e
def lr_68_55 (i2 i3 : Int32) (M : fl_M) : (Int32 × fl_M) ⊕ Unit := (lq_68_55 i2 M ((i3).toNatClampNeg))
theorem ts_68_55 {r : fl_Q} (i1 i2 i3 i4 : Int32) (M : fl_M) (J : fl_J) (e1 : (i4 < i3) → (((M (fl_ar 2 i2.toNatClampNeg) i4.toNatClampNeg) < 0) ∨ (¬ ((M (fl_ar 2 i2.toNatClampNeg) i4.toNatClampNeg) < (M 15 0)))) → (some (.int (-3)), (fl_u (fl_u M 0 11 3) 80 3 ((M 80 3) + 1)), J) = r) (q1 : (i4 < i3) → (¬ (((M (fl_ar 2 i2.toNatClampNeg) i4.toNatClampNeg) < 0) ∨ (¬ ((M (fl_ar 2 i2.toNatClampNeg) i4.toNatClampNeg) < (M 15 0))))) → fl_dn fB68 (55, [.ref 0, .int i1, .int i2, .int i3, .int (i4 + 1)], [], M, J) r) (q2 : (¬ (i4 < i3)) → fl_dn fB68 (89, [.ref 0, .int i1, .int i2, .int i3, .int i4], [], M, J) r) : fl_dn fB68 (55, [.ref 0, .int i1, .int i2, .int i3, .int i4], [], M, J) r :=
 fl_td (s' := (58, [.ref 0, .int i1, .int i2, .int i3, .int i4], [.int i3, .int i4], M, J)) (fl_n 2 rfl) <|
 fl_dnot (fl_ic (t := 89) rfl rfl) fl_nlt (fun h1 =>
  fl_td (s' := (71, [.ref 0, .int i1, .int i2, .int i3, .int i4], [.int (M (fl_ar 2 i2.toNatClampNeg) i4.toNatClampNeg), .ref 0], M, J)) (fl_n 7 rfl) <|
  fl_td (s' := (74, [.ref 0, .int i1, .int i2, .int i3, .int i4], [.int (if ((M (fl_ar 2 i2.toNatClampNeg) i4.toNatClampNeg) < 0) ∨ (¬ ((M (fl_ar 2 i2.toNatClampNeg) i4.toNatClampNeg) < (M 15 0))) then 1 else 0)], M, J)) (fl_cv (o := some (.int (if ((M (fl_ar 2 i2.toNatClampNeg) i4.toNatClampNeg) < 0) ∨ (¬ ((M (fl_ar 2 i2.toNatClampNeg) i4.toNatClampNeg) < (M 15 0))) then 1 else 0))) rfl rfl rfl rfl (cc_25 M J (M (fl_ar 2 i2.toNatClampNeg) i4.toNatClampNeg)) rfl) <|
  fl_dnot (fl_if (t := 83) rfl rfl) fl_b0 (fun h2 =>
   fl_td (s' := (79, [.ref 0, .int i1, .int i2, .int i3, .int i4], [.int 3, .ref 0], M, J)) (fl_n 2 rfl) <|
   fl_td (s' := (82, [.ref 0, .int i1, .int i2, .int i3, .int i4], [.int (-3)], (fl_u (fl_u M 0 11 3) 80 3 ((M 80 3) + 1)), J)) (fl_cv (o := some (.int (-3))) rfl rfl rfl rfl (cc_2 M J 3) rfl) <|
   fl_rt rfl (fun _ => rfl) (e1 h1 h2)) (fun h2 =>
   fl_td (s' := (55, [.ref 0, .int i1, .int i2, .int i3, .int (i4 + 1)], [], M, J)) (fl_n 2 rfl) <|
   (q1 h1 h2))) (fun h1 =>
  (q2 h1))
theorem lp_68_55 {r : fl_Q} (i1 i2 i3 : Int32) (M : fl_M) (J : fl_J) (hq : ∀ c, lr_68_55 i2 i3 M = .inl c → (some (.int c.1), c.2, J) = r) (hx : ∀ a, lr_68_55 i2 i3 M = .inr a → ∀ w4 : Value, fl_dn fB68 (89, [.ref 0, .int i1, .int i2, .int i3, w4], [], M, J) r) : fl_dn fB68 (55, [.ref 0, .int i1, .int i2, .int i3, .int 0], [], M, J) r := by
  have hb := fi_bd i3
  have key : ∀ (n m : Nat) (a : Unit) (ha : lq_68_55 i2 M m = .inr a), m + n = (i3).toNatClampNeg → fl_dn fB68 (55, [.ref 0, .int i1, .int i2, .int i3, .int (Int32.ofNat m)], [], M, J) r := by
    intro n
    induction n with
    | zero =>
      intro m a ha hm
      have hm : m = (i3).toNatClampNeg := by omega
      have hn : ¬ ((Int32.ofNat m) < i3) := fun z => by have z := (fi_lt (by omega)).mp z; omega
      exact ts_68_55 i1 i2 i3 (Int32.ofNat m) M J (fun h1 h2 => absurd h1 hn) (fun h1 h2 => absurd h1 hn) (fun h1 => hx a (by show lq_68_55 i2 M ((i3).toNatClampNeg) = _; rw [← hm]; exact ha) _)
    | succ n ih =>
      intro m a ha hm
      have hp : (Int32.ofNat m) < i3 := by exact (fi_lt (by omega)).mpr (by omega)
      refine ts_68_55 i1 i2 i3 (Int32.ofNat m) M J (fun h1 h2 => ?_) (fun h1 h2 => ?_) (fun h1 => absurd hp h1)
      · have e : lq_68_55 i2 M (m + 1) = .inl ((-3), (fl_u (fl_u M 0 11 3) 80 3 ((M 80 3) + 1))) := lqs_68_55 i2 M ha (by
          show (ls_68_55 i2 M) m a = _
          unfold ls_68_55
          simp only [if_pos h2])
        have e : lq_68_55 i2 M ((i3).toNatClampNeg) = .inl ((-3), (fl_u (fl_u M 0 11 3) 80 3 ((M 80 3) + 1))) := ix_l e (by omega)
        exact hq _ e
      · have e : lq_68_55 i2 M (m + 1) = .inr () := lqs_68_55 i2 M ha (by
          show (ls_68_55 i2 M) m a = _
          unfold ls_68_55
          simp only [if_neg h2])
        have q := ih (m + 1) _ e (by omega)
        first | (rw [fi_s]; exact q) | (rw [← fi_s] at q; exact q) | (simp only [fi_s] at q ⊢; exact q)
  exact key ((i3).toNatClampNeg) 0 _ rfl (Nat.zero_add _)
def v_68 (i r : Int32) (M : fl_M) : Int32 := (if (i < 0) ∨ (¬ (i < (M 15 1))) then (-1) else (if (r < 0) ∨ (¬ (r < 6)) then (-1) else (if (M 1 r.toNatClampNeg) = (-1) then (-3) else (if (M 1 r.toNatClampNeg) < 1 then (-3) else (if 10 < (M 1 r.toNatClampNeg) then (-3) else (match (lr_68_55 r (M 1 r.toNatClampNeg) M) with | .inl c101 => c101.1 | .inr a102 => 0))))))
def m_68 (i r : Int32) (M : fl_M) : fl_M := (if (i < 0) ∨ (¬ (i < (M 15 1))) then M else (if (r < 0) ∨ (¬ (r < 6)) then M else (if (M 1 r.toNatClampNeg) = (-1) then (fl_u (fl_u M 0 11 1) 80 1 ((M 80 1) + 1)) else (if (M 1 r.toNatClampNeg) < 1 then (fl_u (fl_u M 0 11 5) 80 5 ((M 80 5) + 1)) else (if 10 < (M 1 r.toNatClampNeg) then (fl_u (fl_u M 0 11 5) 80 5 ((M 80 5) + 1)) else (match (lr_68_55 r (M 1 r.toNatClampNeg) M) with | .inl c101 => c101.2 | .inr a102 => M))))))
theorem cc_68 (M : fl_M) (J : fl_J) (i r : Int32) : fl_C 68 [.ref 0, .int i, .int r] M J (some (.int (v_68 i r M)), (m_68 i r M), J) :=
 fl_Co (B := fB68) rfl rfl <|
 fl_td (s' := (2, [.ref 0, .int i, .int r, .null, .null], [.int i, .ref 0], M, J)) (fl_n 2 rfl) <|
 fl_td (s' := (5, [.ref 0, .int i, .int r, .null, .null], [.int (if (i < 0) ∨ (¬ (i < (M 15 1))) then 1 else 0)], M, J)) (fl_cv (o := some (.int (if (i < 0) ∨ (¬ (i < (M 15 1))) then 1 else 0))) rfl rfl rfl rfl (cc_33 M J i) rfl) <|
 fl_dtwo (fl_if (t := 15) rfl rfl) fl_b1 (fun h1 =>
  fl_td (s' := (16, [.ref 0, .int i, .int r, .null, .null], [.int (-1)], M, J)) (fl_n 1 rfl) <|
  fl_rt rfl (fun _ => rfl) (by unfold v_68 m_68; first | (simp only [if_pos h1]; done) | rfl)) (fun h1 =>
  fl_td (s' := (9, [.ref 0, .int i, .int r, .null, .null], [.int r], M, J)) (fl_n 1 rfl) <|
  fl_td (s' := (12, [.ref 0, .int i, .int r, .null, .null], [.int (if (r < 0) ∨ (¬ (r < 6)) then 1 else 0)], M, J)) (fl_cs (o := some (.int (if (r < 0) ∨ (¬ (r < 6)) then 1 else 0))) rfl rfl rfl (cc_1 M J r) rfl) <|
  fl_dnot (fl_if (t := 17) rfl rfl) fl_b0 (fun h2 =>
   fl_td (s' := (16, [.ref 0, .int i, .int r, .null, .null], [.int (-1)], M, J)) (fl_n 1 rfl) <|
   fl_rt rfl (fun _ => rfl) (by unfold v_68 m_68; first | (simp only [if_neg h1, if_pos h2]; done) | rfl)) (fun h2 =>
   fl_td (s' := (26, [.ref 0, .int i, .int r, .int (M 1 r.toNatClampNeg), .null], [.int (-1), .int (M 1 r.toNatClampNeg)], M, J)) (fl_n 7 rfl) <|
   fl_dnot (fl_ic (t := 35) rfl rfl) fl_cF (fun h3 =>
    fl_td (s' := (31, [.ref 0, .int i, .int r, .int (M 1 r.toNatClampNeg), .null], [.int 1, .ref 0], M, J)) (fl_n 2 rfl) <|
    fl_td (s' := (34, [.ref 0, .int i, .int r, .int (M 1 r.toNatClampNeg), .null], [.int (-3)], (fl_u (fl_u M 0 11 1) 80 1 ((M 80 1) + 1)), J)) (fl_cv (o := some (.int (-3))) rfl rfl rfl rfl (cc_2 M J 1) rfl) <|
    fl_rt rfl (fun _ => rfl) (by unfold v_68 m_68; first | (simp only [if_neg h1, if_neg h2, if_pos h3]; done) | rfl)) (fun h3 =>
    fl_td (s' := (37, [.ref 0, .int i, .int r, .int (M 1 r.toNatClampNeg), .null], [.int 1, .int (M 1 r.toNatClampNeg)], M, J)) (fl_n 2 rfl) <|
    fl_dtwo (fl_ic (t := 46) rfl rfl) fl_cT (fun h4 =>
     fl_td (s' := (48, [.ref 0, .int i, .int r, .int (M 1 r.toNatClampNeg), .null], [.int 5, .ref 0], M, J)) (fl_n 2 rfl) <|
     fl_td (s' := (51, [.ref 0, .int i, .int r, .int (M 1 r.toNatClampNeg), .null], [.int (-3)], (fl_u (fl_u M 0 11 5) 80 5 ((M 80 5) + 1)), J)) (fl_cv (o := some (.int (-3))) rfl rfl rfl rfl (cc_2 M J 5) rfl) <|
     fl_rt rfl (fun _ => rfl) (by unfold v_68 m_68; first | (simp only [if_neg h1, if_neg h2, if_neg h3, if_pos h4]; done) | rfl)) (fun h4 =>
     fl_td (s' := (43, [.ref 0, .int i, .int r, .int (M 1 r.toNatClampNeg), .null], [.int 10, .int (M 1 r.toNatClampNeg)], M, J)) (fl_n 2 rfl) <|
     fl_dnot (fl_ic (t := 52) rfl rfl) fl_nle (fun h5 =>
      fl_td (s' := (48, [.ref 0, .int i, .int r, .int (M 1 r.toNatClampNeg), .null], [.int 5, .ref 0], M, J)) (fl_n 2 rfl) <|
      fl_td (s' := (51, [.ref 0, .int i, .int r, .int (M 1 r.toNatClampNeg), .null], [.int (-3)], (fl_u (fl_u M 0 11 5) 80 5 ((M 80 5) + 1)), J)) (fl_cv (o := some (.int (-3))) rfl rfl rfl rfl (cc_2 M J 5) rfl) <|
      fl_rt rfl (fun _ => rfl) (by unfold v_68 m_68; first | (simp only [if_neg h1, if_neg h2, if_neg h3, if_neg h4, if_pos h5]; done) | rfl)) (fun h5 =>
      fl_td (s' := (55, [.ref 0, .int i, .int r, .int (M 1 r.toNatClampNeg), .int 0], [], M, J)) (fl_n 2 rfl) <|
      lp_68_55 i r (M 1 r.toNatClampNeg) M J (fun c101 h7 => by unfold v_68 m_68; first | (simp only [if_neg h1, if_neg h2, if_neg h3, if_neg h4, if_neg h5, h7]; done) | rfl) (fun a102 h6 u103 =>
       fl_td (s' := (90, [.ref 0, .int i, .int r, .int (M 1 r.toNatClampNeg), u103], [.int 0], M, J)) (fl_n 1 rfl) <|
       fl_rt rfl (fun _ => rfl) (by unfold v_68 m_68; first | (simp only [if_neg h1, if_neg h2, if_neg h3, if_neg h4, if_neg h5, h6]; done) | rfl)))))))
def fB69 : sm_P := (fun pc => sm_ch sm_t69 pc, sm_Kn 2 4 none, fun x => sm_lk sm_ca2 x, some .boolean)
-- MiceRegisters.goesAsRow 2
def ls_69_2 (i1 i2 : Int32) (m : Nat) (q : fl_M) : (Int32 × fl_M) ⊕ fl_M := (if ((m_46 0 24 q) 32 i1.toNatClampNeg) = ((m_46 0 24 q) (fl_ar 2 i2.toNatClampNeg) (Int32.ofNat m).toNatClampNeg) then (.inr (m_46 0 24 q)) else (.inl (0, (m_46 0 24 q))))
def lq_69_2 (i1 i2 : Int32) (M : fl_M) (m : Nat) : (Int32 × fl_M) ⊕ fl_M := fx_ix (ls_69_2 i1 i2) m M
theorem lqs_69_2 (i1 i2 : Int32) (M : fl_M) {m : Nat} {a : fl_M} {v : (Int32 × fl_M) ⊕ fl_M} (h : lq_69_2 i1 i2 M m = .inr a) (e : (ls_69_2 i1 i2) m a = v) : lq_69_2 i1 i2 M (m + 1) = v := by
  unfold lq_69_2 at h ⊢
  exact ix_s1 h e
def lr_69_2 (i1 i2 : Int32) (M : fl_M) : (Int32 × fl_M) ⊕ fl_M := (lq_69_2 i1 i2 M (((M 1 i2.toNatClampNeg)).toNatClampNeg))
theorem ts_69_2 {r : fl_Q} (i1 i2 i3 : Int32) (M : fl_M) (J : fl_J) (q1 : (i3 < (M 1 i2.toNatClampNeg)) → (((m_46 0 24 M) 32 i1.toNatClampNeg) = ((m_46 0 24 M) (fl_ar 2 i2.toNatClampNeg) i3.toNatClampNeg)) → fl_dn fB69 (2, [.ref 0, .int i1, .int i2, .int (i3 + 1)], [], (m_46 0 24 M), J) r) (e1 : (i3 < (M 1 i2.toNatClampNeg)) → (¬ (((m_46 0 24 M) 32 i1.toNatClampNeg) = ((m_46 0 24 M) (fl_ar 2 i2.toNatClampNeg) i3.toNatClampNeg))) → (some (.int 0), (m_46 0 24 M), J) = r) (q2 : (¬ (i3 < (M 1 i2.toNatClampNeg))) → fl_dn fB69 (49, [.ref 0, .int i1, .int i2, .int i3], [], M, J) r) : fl_dn fB69 (2, [.ref 0, .int i1, .int i2, .int i3], [], M, J) r :=
 fl_td (s' := (9, [.ref 0, .int i1, .int i2, .int i3], [.int (M 1 i2.toNatClampNeg), .int i3], M, J)) (fl_n 5 rfl) <|
 fl_dnot (fl_ic (t := 49) rfl rfl) fl_nlt (fun h1 =>
  fl_td (s' := (17, [.ref 0, .int i1, .int i2, .int i3], [.int 0, .ref 24], M, J)) (fl_n 3 rfl) <|
  fl_td (s' := (20, [.ref 0, .int i1, .int i2, .int i3], [.int ((lr_46_4 0 0 24 M).1)], (m_46 0 24 M), J)) (fl_cv (o := some (.int ((lr_46_4 0 0 24 M).1))) rfl rfl rfl rfl (cc_46 M J 0 24) rfl) <|
  fx_gen (p := fun (MM104 : fl_M) => fl_dn fB69 (20, [.ref 0, .int i1, .int i2, .int i3], [.int ((lr_46_4 0 0 24 M).1)], MM104, J) r) (m_46 0 24 M) (fun MM104 eMM104 =>
   fx_gen (p := fun (II105 : Int32) => fl_dn fB69 (20, [.ref 0, .int i1, .int i2, .int i3], [.int II105], MM104, J) r) ((lr_46_4 0 0 24 M).1) (fun II105 eII105 =>
    fl_td (s' := (38, [.ref 0, .int i1, .int i2, .int i3], [.int (MM104 (fl_ar 2 i2.toNatClampNeg) i3.toNatClampNeg), .int (MM104 32 i1.toNatClampNeg)], MM104, J)) (fl_n 12 rfl) <|
    fl_dtwo (fl_ic (t := 43) rfl rfl) fl_cT (fun h3 =>
     fl_td (s' := (2, [.ref 0, .int i1, .int i2, .int (i3 + 1)], [], MM104, J)) (fl_n 2 rfl) <|
     (by subst eMM104; subst eII105; exact (q1 h1 h3))) (fun h3 =>
     fl_td (s' := (42, [.ref 0, .int i1, .int i2, .int i3], [.int 0], MM104, J)) (fl_n 1 rfl) <|
     fl_rt rfl (fun _ => rfl) (by subst eMM104; subst eII105; exact (e1 h1 h3)))))) (fun h1 =>
  (q2 h1))
theorem lk_69_2 (i1 i2 : Int32) (M : fl_M) (m : Nat) : ∀ a, lq_69_2 i1 i2 M m = .inr a → (a 1 i2.toNatClampNeg) = (M 1 i2.toNatClampNeg) := by
  induction m with
  | zero => intro a h; cases h; rfl
  | succ m ih =>
    intro a h
    obtain ⟨q, h1, h2⟩ := ix_s h
    rw [← ih q h1]
    unfold ls_69_2 at h2
    (repeat' split at h2) <;> first | (cases h2; done) | (cases h2; with_reducible rfl) | (cases h2; simp [fl_u, fr_22_18, fr_22_53, fr_23_42, fr_23_106, fr_23, fr_46_4, fr_46_100, fr_46, fr_45, fr_59_2, fr_44, fr_54_10, fr_51_9, fr_64_28, fr_64]; done)
theorem lp_69_2 {r : fl_Q} (i1 i2 : Int32) (M : fl_M) (J : fl_J) (hq : ∀ c, lr_69_2 i1 i2 M = .inl c → (some (.int c.1), c.2, J) = r) (hx : ∀ a, lr_69_2 i1 i2 M = .inr a → ∀ w3 : Value, fl_dn fB69 (49, [.ref 0, .int i1, .int i2, w3], [], a, J) r) : fl_dn fB69 (2, [.ref 0, .int i1, .int i2, .int 0], [], M, J) r := by
  have hb := fi_bd (M 1 i2.toNatClampNeg)
  have hB := fun m a h => lk_69_2 i1 i2 M m a h
  have key : ∀ (n m : Nat) (a : fl_M) (ha : lq_69_2 i1 i2 M m = .inr a), m + n = ((M 1 i2.toNatClampNeg)).toNatClampNeg → fl_dn fB69 (2, [.ref 0, .int i1, .int i2, .int (Int32.ofNat m)], [], a, J) r := by
    intro n
    induction n with
    | zero =>
      intro m a ha hm
      have hm : m = ((M 1 i2.toNatClampNeg)).toNatClampNeg := by omega
      have hn : ¬ ((Int32.ofNat m) < (a 1 i2.toNatClampNeg)) := fun z => by rw [hB m a ha] at z; have z := (fi_lt (by omega)).mp z; omega
      exact ts_69_2 i1 i2 (Int32.ofNat m) a J (fun h1 h3 => absurd h1 hn) (fun h1 h3 => absurd h1 hn) (fun h1 => hx a (by show lq_69_2 i1 i2 M (((M 1 i2.toNatClampNeg)).toNatClampNeg) = _; rw [← hm]; exact ha) _)
    | succ n ih =>
      intro m a ha hm
      have hp : (Int32.ofNat m) < (a 1 i2.toNatClampNeg) := by rw [hB m a ha]; exact (fi_lt (by omega)).mpr (by omega)
      refine ts_69_2 i1 i2 (Int32.ofNat m) a J (fun h1 h3 => ?_) (fun h1 h3 => ?_) (fun h1 => absurd hp h1)
      · have e : lq_69_2 i1 i2 M (m + 1) = .inr (m_46 0 24 a) := lqs_69_2 i1 i2 M ha (by
          show (ls_69_2 i1 i2) m a = _
          unfold ls_69_2
          simp only [if_pos h3])
        have q := ih (m + 1) _ e (by omega)
        first | (rw [fi_s]; exact q) | (rw [← fi_s] at q; exact q) | (simp only [fi_s] at q ⊢; exact q)
      · have e : lq_69_2 i1 i2 M (m + 1) = .inl (0, (m_46 0 24 a)) := lqs_69_2 i1 i2 M ha (by
          show (ls_69_2 i1 i2) m a = _
          unfold ls_69_2
          simp only [if_neg h3])
        have e : lq_69_2 i1 i2 M (((M 1 i2.toNatClampNeg)).toNatClampNeg) = .inl (0, (m_46 0 24 a)) := ix_l e (by omega)
        exact hq _ e
  exact key (((M 1 i2.toNatClampNeg)).toNatClampNeg) 0 _ rfl (Nat.zero_add _)
def v_69 (i r : Int32) (M : fl_M) : Int32 := (match (lr_69_2 i r M) with | .inl c106 => c106.1 | .inr a107 => 1)
def m_69 (i r : Int32) (M : fl_M) : fl_M := (match (lr_69_2 i r M) with | .inl c106 => c106.2 | .inr a107 => a107)
theorem cc_69 (M : fl_M) (J : fl_J) (i r : Int32) : fl_C 69 [.ref 0, .int i, .int r] M J (some (.int (v_69 i r M)), (m_69 i r M), J) :=
 fl_Co (B := fB69) rfl rfl <|
 fl_td (s' := (2, [.ref 0, .int i, .int r, .int 0], [], M, J)) (fl_n 2 rfl) <|
 lp_69_2 i r M J (fun c106 h2 => by unfold v_69 m_69; first | (simp only [h2]; done) | rfl) (fun a107 h1 u108 =>
  fl_td (s' := (50, [.ref 0, .int i, .int r, u108], [.int 1], a107, J)) (fl_n 1 rfl) <|
  fl_rt rfl (fun _ => rfl) (by unfold v_69 m_69; first | (simp only [h1]; done) | rfl))
theorem fr_69_2 {i1 i2 : Int32} {M : fl_M} {c j : Nat} (hc : c < 24 ∨ 24 + 9 ≤ c) : fx_pq (fun q : fl_M => q c j = M c j) (fun q : (Int32 × fl_M) => q.2 c j = M c j) (lr_69_2 i1 i2 M) := by
  have g0 : ¬ c = 24 := by omega
  have g1 : ¬ c = 24 + 1 := by omega
  have g2 : ¬ c = 24 + 2 := by omega
  have g3 : ¬ c = 24 + 3 := by omega
  have g4 : ¬ c = 24 + 4 := by omega
  have g5 : ¬ c = 24 + 5 := by omega
  have g6 : ¬ c = 24 + 6 := by omega
  have g7 : ¬ c = 24 + 7 := by omega
  have g8 : ¬ c = 24 + 8 := by omega
  unfold lr_69_2 lq_69_2
  refine ix_k (fun q : fl_M => q c j = M c j) (fun q : (Int32 × fl_M) => q.2 c j = M c j) rfl (fun m q hq => ?_)
  cases h : ls_69_2 i1 i2 m q with
  | inl d =>
    unfold ls_69_2 at h
    (repeat' split at h) <;> first | (cases h; done) | (cases h; with_reducible exact hq) | (cases h; simp [fx_pq, fl_u, g0, g1, g2, g3, g4, g5, g6, g7, g8, fr_46 hc, hq]; done)
  | inr d =>
    unfold ls_69_2 at h
    (repeat' split at h) <;> first | (cases h; done) | (cases h; with_reducible exact hq) | (cases h; simp [fx_pq, fl_u, g0, g1, g2, g3, g4, g5, g6, g7, g8, fr_46 hc, hq]; done)
theorem fr_69 {i r : Int32} {M : fl_M} {c j : Nat} (hc : c < 24 ∨ 24 + 9 ≤ c) : m_69 i r M c j = M c j := by
  have h := fr_69_2 (i1 := i) (i2 := r) (M := M) (j := j) hc
  unfold m_69
  cases e : lr_69_2 i r M with
  | inl q => rw [e] at h; exact h
  | inr q => rw [e] at h; exact h
def fB67 : sm_P := (fun pc => sm_ch sm_t67 pc, sm_Kn 2 6 none, fun x => sm_lk sm_ca2 x, some .int)
-- MiceRegisters.places 19
def ls_67_19 (i1 i2 : Int32) (m : Nat) (q : (Int32 × fl_M)) : (Int32 × fl_M) := (if (v_69 i1 i2 (fl_u (m_23 24 15 q.2) 32 i1.toNatClampNeg (Int32.ofNat m))) = 0 then (q.1, (m_69 i1 i2 (fl_u (m_23 24 15 q.2) 32 i1.toNatClampNeg (Int32.ofNat m)))) else ((q.1 ||| ((1 : Int32) <<< ((Int32.ofNat m) &&& 31))), (m_69 i1 i2 (fl_u (m_23 24 15 q.2) 32 i1.toNatClampNeg (Int32.ofNat m)))))
def lq_67_19 (i1 i2 i4 : Int32) (M : fl_M) (m : Nat) : (Int32 × fl_M) := fx_it (ls_67_19 i1 i2) m (i4, M)
theorem lqs_67_19 (i1 i2 i4 : Int32) (M : fl_M) (m : Nat) : lq_67_19 i1 i2 i4 M (m + 1) = (ls_67_19 i1 i2) m (lq_67_19 i1 i2 i4 M m) := by
  unfold lq_67_19
  exact fx_it_s _ _ _
def lr_67_19 (i1 i2 i4 : Int32) (M : fl_M) : (Int32 × fl_M) := (lq_67_19 i1 i2 i4 M (((M 15 0)).toNatClampNeg))
theorem ts_67_19 {r : fl_Q} (i1 i2 i3 i4 i5 : Int32) (M : fl_M) (J : fl_J) (q1 : (i5 < (M 15 0)) → ((v_69 i1 i2 (fl_u (m_23 24 15 M) 32 i1.toNatClampNeg i5)) = 0) → fl_dn fB67 (19, [.ref 0, .int i1, .int i2, .int i3, .int i4, .int (i5 + 1)], [], (m_69 i1 i2 (fl_u (m_23 24 15 M) 32 i1.toNatClampNeg i5)), J) r) (q2 : (i5 < (M 15 0)) → (¬ ((v_69 i1 i2 (fl_u (m_23 24 15 M) 32 i1.toNatClampNeg i5)) = 0)) → fl_dn fB67 (19, [.ref 0, .int i1, .int i2, .int i3, .int (i4 ||| ((1 : Int32) <<< (i5 &&& 31))), .int (i5 + 1)], [], (m_69 i1 i2 (fl_u (m_23 24 15 M) 32 i1.toNatClampNeg i5)), J) r) (q3 : (¬ (i5 < (M 15 0))) → fl_dn fB67 (77, [.ref 0, .int i1, .int i2, .int i3, .int i4, .int i5], [], M, J) r) : fl_dn fB67 (19, [.ref 0, .int i1, .int i2, .int i3, .int i4, .int i5], [], M, J) r :=
 fl_td (s' := (28, [.ref 0, .int i1, .int i2, .int i3, .int i4, .int i5], [.int (M 15 0), .int i5], M, J)) (fl_n 4 rfl) <|
 fl_dnot (fl_ic (t := 77) rfl rfl) fl_nlt (fun h1 =>
  fl_td (s' := (39, [.ref 0, .int i1, .int i2, .int i3, .int i4, .int i5], [.ref 15, .ref 24], M, J)) (fl_n 4 rfl) <|
  fl_td (s' := (42, [.ref 0, .int i1, .int i2, .int i3, .int i4, .int i5], [], (m_23 24 15 M), J)) (fl_cv (o := none) rfl rfl rfl rfl (cc_23 M J 24 15) rfl) <|
  fx_gen (p := fun (MM110 : fl_M) => fl_dn fB67 (42, [.ref 0, .int i1, .int i2, .int i3, .int i4, .int i5], [], MM110, J) r) (m_23 24 15 M) (fun MM110 eMM110 =>
   fl_td (s' := (56, [.ref 0, .int i1, .int i2, .int i3, .int i4, .int i5], [.int i2, .int i1, .ref 0], (fl_u MM110 32 i1.toNatClampNeg i5), J)) (fl_n 9 rfl) <|
   fl_td (s' := (59, [.ref 0, .int i1, .int i2, .int i3, .int i4, .int i5], [.int (v_69 i1 i2 (fl_u MM110 32 i1.toNatClampNeg i5))], (m_69 i1 i2 (fl_u MM110 32 i1.toNatClampNeg i5)), J)) (fl_cv (o := some (.int (v_69 i1 i2 (fl_u MM110 32 i1.toNatClampNeg i5)))) rfl rfl rfl rfl (cc_69 (fl_u MM110 32 i1.toNatClampNeg i5) J i1 i2) rfl) <|
   fx_gen (p := fun (MM111 : fl_M) => fl_dn fB67 (59, [.ref 0, .int i1, .int i2, .int i3, .int i4, .int i5], [.int (v_69 i1 i2 (fl_u MM110 32 i1.toNatClampNeg i5))], MM111, J) r) (m_69 i1 i2 (fl_u MM110 32 i1.toNatClampNeg i5)) (fun MM111 eMM111 =>
    fl_dtwo (fl_if (t := 71) rfl rfl) fl_cT (fun h4 =>
     fl_td (s' := (19, [.ref 0, .int i1, .int i2, .int i3, .int i4, .int (i5 + 1)], [], MM111, J)) (fl_n 2 rfl) <|
     (by subst eMM110; subst eMM111; exact (q1 h1 h4))) (fun h4 =>
     fl_td (s' := (19, [.ref 0, .int i1, .int i2, .int i3, .int (i4 ||| ((1 : Int32) <<< (i5 &&& 31))), .int (i5 + 1)], [], MM111, J)) (fl_n 8 rfl) <|
     (by subst eMM110; subst eMM111; exact (q2 h1 h4)))))) (fun h1 =>
  (q3 h1))
theorem lk_67_19 (i1 i2 i4 : Int32) (M : fl_M) (m : Nat) : (((lq_67_19 i1 i2 i4 M m).2) 15 0) = (M 15 0) := by
  induction m with
  | zero => rfl
  | succ m ih =>
    rw [← ih]
    rw [lqs_67_19]
    generalize lq_67_19 i1 i2 i4 M m = q
    unfold ls_67_19
    (repeat' split) <;> first | with_reducible rfl | (simp [fl_u, fr_22_18, fr_22_53, fr_23_42, fr_23_106, fr_23, fr_46_4, fr_46_100, fr_46, fr_45, fr_59_2, fr_44, fr_54_10, fr_51_9, fr_64_28, fr_64, fr_69]; done) | rfl
theorem lp_67_19 {r : fl_Q} (i1 i2 i3 i4 : Int32) (M : fl_M) (J : fl_J) (hx : ∀ w5 : Value, fl_dn fB67 (77, [.ref 0, .int i1, .int i2, .int i3, .int ((lr_67_19 i1 i2 i4 M).1), w5], [], ((lr_67_19 i1 i2 i4 M).2), J) r) : fl_dn fB67 (19, [.ref 0, .int i1, .int i2, .int i3, .int i4, .int 0], [], M, J) r := by
  have hb := fi_bd (M 15 0)
  have hB := fun m => lk_67_19 i1 i2 i4 M m
  have key : ∀ (n m : Nat), m + n = ((M 15 0)).toNatClampNeg → fl_dn fB67 (19, [.ref 0, .int i1, .int i2, .int i3, .int ((lq_67_19 i1 i2 i4 M m).1), .int (Int32.ofNat m)], [], ((lq_67_19 i1 i2 i4 M m).2), J) r := by
    intro n
    induction n with
    | zero =>
      intro m hm
      have hm : m = ((M 15 0)).toNatClampNeg := by omega
      have hn : ¬ ((Int32.ofNat m) < (((lq_67_19 i1 i2 i4 M m).2) 15 0)) := fun z => by rw [hB m] at z; have z := (fi_lt (by omega)).mp z; omega
      exact ts_67_19 i1 i2 i3 ((lq_67_19 i1 i2 i4 M m).1) (Int32.ofNat m) ((lq_67_19 i1 i2 i4 M m).2) J (fun h1 h4 => absurd h1 hn) (fun h1 h4 => absurd h1 hn) (fun h1 => (by have e : lr_67_19 i1 i2 i4 M = lq_67_19 i1 i2 i4 M m := (by show lq_67_19 i1 i2 i4 M (((M 15 0)).toNatClampNeg) = _; rw [← hm]); rw [e] at hx; exact hx _))
    | succ n ih =>
      intro m hm
      have hp : (Int32.ofNat m) < (((lq_67_19 i1 i2 i4 M m).2) 15 0) := by rw [hB m]; exact (fi_lt (by omega)).mpr (by omega)
      refine ts_67_19 i1 i2 i3 ((lq_67_19 i1 i2 i4 M m).1) (Int32.ofNat m) ((lq_67_19 i1 i2 i4 M m).2) J (fun h1 h4 => ?_) (fun h1 h4 => ?_) (fun h1 => absurd hp h1)
      · have e : lq_67_19 i1 i2 i4 M (m + 1) = (((lq_67_19 i1 i2 i4 M m).1), (m_69 i1 i2 (fl_u (m_23 24 15 ((lq_67_19 i1 i2 i4 M m).2)) 32 i1.toNatClampNeg (Int32.ofNat m)))) := by
          rw [lqs_67_19]
          unfold ls_67_19
          simp only [if_pos h4]
        have q := ih (m + 1) (by omega)
        rw [e] at q
        first | (rw [fi_s]; exact q) | (rw [← fi_s] at q; exact q) | (simp only [fi_s] at q ⊢; exact q)
      · have e : lq_67_19 i1 i2 i4 M (m + 1) = ((((lq_67_19 i1 i2 i4 M m).1) ||| ((1 : Int32) <<< ((Int32.ofNat m) &&& 31))), (m_69 i1 i2 (fl_u (m_23 24 15 ((lq_67_19 i1 i2 i4 M m).2)) 32 i1.toNatClampNeg (Int32.ofNat m)))) := by
          rw [lqs_67_19]
          unfold ls_67_19
          simp only [if_neg h4]
        have q := ih (m + 1) (by omega)
        rw [e] at q
        first | (rw [fi_s]; exact q) | (rw [← fi_s] at q; exact q) | (simp only [fi_s] at q ⊢; exact q)
  exact key (((M 15 0)).toNatClampNeg) 0 (Nat.zero_add _)
def v_67 (i r : Int32) (M : fl_M) : Int32 := (if (v_68 i r M) = 0 then ((lr_67_19 i r 0 (m_68 i r M)).1) else v_68 i r M)
theorem cc_67 (M : fl_M) (J : fl_J) (i r : Int32) : fl_C 67 [.ref 0, .int i, .int r] M J (some (.int (v_67 i r M)), (if (v_68 i r M) = 0 then ((lr_67_19 i r 0 (m_68 i r M)).2) else (m_68 i r M)), J) :=
 fl_Co (B := fB67) rfl rfl <|
 fl_td (s' := (3, [.ref 0, .int i, .int r, .null, .null, .null], [.int r, .int i, .ref 0], M, J)) (fl_n 3 rfl) <|
 fl_td (s' := (6, [.ref 0, .int i, .int r, .null, .null, .null], [.int (v_68 i r M)], (m_68 i r M), J)) (fl_cv (o := some (.int (v_68 i r M))) rfl rfl rfl rfl (cc_68 M J i r) rfl) <|
 fx_gen (p := fun (MM109 : fl_M) => fl_dn fB67 (6, [.ref 0, .int i, .int r, .null, .null, .null], [.int (v_68 i r M)], MM109, J) (some (.int (v_67 i r M)), (if (v_68 i r M) = 0 then ((lr_67_19 i r 0 (m_68 i r M)).2) else (m_68 i r M)), J)) (m_68 i r M) (fun MM109 eMM109 =>
  fl_td (s' := (8, [.ref 0, .int i, .int r, .int (v_68 i r M), .null, .null], [.int (v_68 i r M)], MM109, J)) (fl_n 2 rfl) <|
  fl_dtwo (fl_if (t := 13) rfl rfl) fl_cT (fun h2 =>
   fl_td (s' := (19, [.ref 0, .int i, .int r, .int (v_68 i r M), .int 0, .int 0], [], MM109, J)) (fl_n 4 rfl) <|
   lp_67_19 i r (v_68 i r M) 0 MM109 J (fun u112 =>
    fx_gen (p := fun (MM113 : fl_M) => fl_dn fB67 (77, [.ref 0, .int i, .int r, .int (v_68 i r M), .int ((lr_67_19 i r 0 MM109).1), u112], [], MM113, J) (some (.int (v_67 i r M)), (if (v_68 i r M) = 0 then ((lr_67_19 i r 0 (m_68 i r M)).2) else (m_68 i r M)), J)) ((lr_67_19 i r 0 MM109).2) (fun MM113 eMM113 =>
     fx_gen (p := fun (II114 : Int32) => fl_dn fB67 (77, [.ref 0, .int i, .int r, .int (v_68 i r M), .int II114, u112], [], MM113, J) (some (.int (v_67 i r M)), (if (v_68 i r M) = 0 then ((lr_67_19 i r 0 (m_68 i r M)).2) else (m_68 i r M)), J)) ((lr_67_19 i r 0 MM109).1) (fun II114 eII114 =>
      fl_td (s' := (79, [.ref 0, .int i, .int r, .int (v_68 i r M), .int II114, u112], [.int II114], MM113, J)) (fl_n 1 rfl) <|
      fl_rt rfl (fun _ => rfl) (by subst eMM109; subst eMM113; subst eII114; unfold v_67; first | (simp only [if_pos h2]; done) | rfl))))) (fun h2 =>
   fl_td (s' := (12, [.ref 0, .int i, .int r, .int (v_68 i r M), .null, .null], [.int (v_68 i r M)], MM109, J)) (fl_n 1 rfl) <|
   fl_rt rfl (fun _ => rfl) (by subst eMM109; unfold v_67; first | (simp only [if_neg h2]; done) | rfl)))
def fB71 : sm_P := (fun pc => sm_ch sm_t71 pc, sm_Kn 2 5 none, fun x => sm_lk sm_ca2 x, some .int)
-- MiceRegisters.kindsThatFit 5
def ls_71_5 (i1 i2 : Int32) (m : Nat) (q : (Int32 × fl_M)) : (Int32 × fl_M) := (if (v_69 i1 i2 (fl_u (m_23 24 15 q.2) 29 i1.toNatClampNeg (Int32.ofNat m))) = 0 then (q.1, (m_69 i1 i2 (fl_u (m_23 24 15 q.2) 29 i1.toNatClampNeg (Int32.ofNat m)))) else ((q.1 ||| ((1 : Int32) <<< ((Int32.ofNat m) &&& 31))), (m_69 i1 i2 (fl_u (m_23 24 15 q.2) 29 i1.toNatClampNeg (Int32.ofNat m)))))
def lq_71_5 (i1 i2 i3 : Int32) (M : fl_M) (m : Nat) : (Int32 × fl_M) := fx_it (ls_71_5 i1 i2) m (i3, M)
theorem lqs_71_5 (i1 i2 i3 : Int32) (M : fl_M) (m : Nat) : lq_71_5 i1 i2 i3 M (m + 1) = (ls_71_5 i1 i2) m (lq_71_5 i1 i2 i3 M m) := by
  unfold lq_71_5
  exact fx_it_s _ _ _
def lr_71_5 (i1 i2 i3 : Int32) (M : fl_M) : (Int32 × fl_M) := (lq_71_5 i1 i2 i3 M (6))
theorem ts_71_5 {r : fl_Q} (i1 i2 i3 i4 : Int32) (M : fl_M) (J : fl_J) (q1 : (i4 < 6) → ((v_69 i1 i2 (fl_u (m_23 24 15 M) 29 i1.toNatClampNeg i4)) = 0) → fl_dn fB71 (5, [.ref 0, .int i1, .int i2, .int i3, .int (i4 + 1)], [], (m_69 i1 i2 (fl_u (m_23 24 15 M) 29 i1.toNatClampNeg i4)), J) r) (q2 : (i4 < 6) → (¬ ((v_69 i1 i2 (fl_u (m_23 24 15 M) 29 i1.toNatClampNeg i4)) = 0)) → fl_dn fB71 (5, [.ref 0, .int i1, .int i2, .int (i3 ||| ((1 : Int32) <<< (i4 &&& 31))), .int (i4 + 1)], [], (m_69 i1 i2 (fl_u (m_23 24 15 M) 29 i1.toNatClampNeg i4)), J) r) (q3 : (¬ (i4 < 6)) → fl_dn fB71 (56, [.ref 0, .int i1, .int i2, .int i3, .int i4], [], M, J) r) : fl_dn fB71 (5, [.ref 0, .int i1, .int i2, .int i3, .int i4], [], M, J) r :=
 fl_td (s' := (9, [.ref 0, .int i1, .int i2, .int i3, .int i4], [.int 6, .int i4], M, J)) (fl_n 2 rfl) <|
 fl_dnot (fl_ic (t := 56) rfl rfl) fl_nlt (fun h1 =>
  fl_td (s' := (20, [.ref 0, .int i1, .int i2, .int i3, .int i4], [.ref 15, .ref 24], M, J)) (fl_n 4 rfl) <|
  fl_td (s' := (23, [.ref 0, .int i1, .int i2, .int i3, .int i4], [], (m_23 24 15 M), J)) (fl_cv (o := none) rfl rfl rfl rfl (cc_23 M J 24 15) rfl) <|
  fx_gen (p := fun (MM115 : fl_M) => fl_dn fB71 (23, [.ref 0, .int i1, .int i2, .int i3, .int i4], [], MM115, J) r) (m_23 24 15 M) (fun MM115 eMM115 =>
   fl_td (s' := (37, [.ref 0, .int i1, .int i2, .int i3, .int i4], [.int i2, .int i1, .ref 0], (fl_u MM115 29 i1.toNatClampNeg i4), J)) (fl_n 9 rfl) <|
   fl_td (s' := (40, [.ref 0, .int i1, .int i2, .int i3, .int i4], [.int (v_69 i1 i2 (fl_u MM115 29 i1.toNatClampNeg i4))], (m_69 i1 i2 (fl_u MM115 29 i1.toNatClampNeg i4)), J)) (fl_cv (o := some (.int (v_69 i1 i2 (fl_u MM115 29 i1.toNatClampNeg i4)))) rfl rfl rfl rfl (cc_69 (fl_u MM115 29 i1.toNatClampNeg i4) J i1 i2) rfl) <|
   fx_gen (p := fun (MM116 : fl_M) => fl_dn fB71 (40, [.ref 0, .int i1, .int i2, .int i3, .int i4], [.int (v_69 i1 i2 (fl_u MM115 29 i1.toNatClampNeg i4))], MM116, J) r) (m_69 i1 i2 (fl_u MM115 29 i1.toNatClampNeg i4)) (fun MM116 eMM116 =>
    fl_dtwo (fl_if (t := 50) rfl rfl) fl_cT (fun h4 =>
     fl_td (s' := (5, [.ref 0, .int i1, .int i2, .int i3, .int (i4 + 1)], [], MM116, J)) (fl_n 2 rfl) <|
     (by subst eMM115; subst eMM116; exact (q1 h1 h4))) (fun h4 =>
     fl_td (s' := (5, [.ref 0, .int i1, .int i2, .int (i3 ||| ((1 : Int32) <<< (i4 &&& 31))), .int (i4 + 1)], [], MM116, J)) (fl_n 8 rfl) <|
     (by subst eMM115; subst eMM116; exact (q2 h1 h4)))))) (fun h1 =>
  (q3 h1))
theorem lp_71_5 {r : fl_Q} (i1 i2 i3 : Int32) (M : fl_M) (J : fl_J) (hx : ∀ w4 : Value, fl_dn fB71 (56, [.ref 0, .int i1, .int i2, .int ((lr_71_5 i1 i2 i3 M).1), w4], [], ((lr_71_5 i1 i2 i3 M).2), J) r) : fl_dn fB71 (5, [.ref 0, .int i1, .int i2, .int i3, .int 0], [], M, J) r := by
  have hb : (6 : Int32).toNatClampNeg = 6 := rfl
  have key : ∀ (n m : Nat), m + n = 6 → fl_dn fB71 (5, [.ref 0, .int i1, .int i2, .int ((lq_71_5 i1 i2 i3 M m).1), .int (Int32.ofNat m)], [], ((lq_71_5 i1 i2 i3 M m).2), J) r := by
    intro n
    induction n with
    | zero =>
      intro m hm
      have hm : m = 6 := by omega
      have hn : ¬ ((Int32.ofNat m) < 6) := fun z => by have z := (fi_lt (by omega)).mp z; omega
      exact ts_71_5 i1 i2 ((lq_71_5 i1 i2 i3 M m).1) (Int32.ofNat m) ((lq_71_5 i1 i2 i3 M m).2) J (fun h1 h4 => absurd h1 hn) (fun h1 h4 => absurd h1 hn) (fun h1 => (by have e : lr_71_5 i1 i2 i3 M = lq_71_5 i1 i2 i3 M m := (by show lq_71_5 i1 i2 i3 M (6) = _; rw [← hm]); rw [e] at hx; exact hx _))
    | succ n ih =>
      intro m hm
      have hp : (Int32.ofNat m) < 6 := by exact (fi_lt (by omega)).mpr (by omega)
      refine ts_71_5 i1 i2 ((lq_71_5 i1 i2 i3 M m).1) (Int32.ofNat m) ((lq_71_5 i1 i2 i3 M m).2) J (fun h1 h4 => ?_) (fun h1 h4 => ?_) (fun h1 => absurd hp h1)
      · have e : lq_71_5 i1 i2 i3 M (m + 1) = (((lq_71_5 i1 i2 i3 M m).1), (m_69 i1 i2 (fl_u (m_23 24 15 ((lq_71_5 i1 i2 i3 M m).2)) 29 i1.toNatClampNeg (Int32.ofNat m)))) := by
          rw [lqs_71_5]
          unfold ls_71_5
          simp only [if_pos h4]
        have q := ih (m + 1) (by omega)
        rw [e] at q
        first | (rw [fi_s]; exact q) | (rw [← fi_s] at q; exact q) | (simp only [fi_s] at q ⊢; exact q)
      · have e : lq_71_5 i1 i2 i3 M (m + 1) = ((((lq_71_5 i1 i2 i3 M m).1) ||| ((1 : Int32) <<< ((Int32.ofNat m) &&& 31))), (m_69 i1 i2 (fl_u (m_23 24 15 ((lq_71_5 i1 i2 i3 M m).2)) 29 i1.toNatClampNeg (Int32.ofNat m)))) := by
          rw [lqs_71_5]
          unfold ls_71_5
          simp only [if_neg h4]
        have q := ih (m + 1) (by omega)
        rw [e] at q
        first | (rw [fi_s]; exact q) | (rw [← fi_s] at q; exact q) | (simp only [fi_s] at q ⊢; exact q)
  exact key (6) 0 (Nat.zero_add _)
theorem cc_71 (M : fl_M) (J : fl_J) (i r : Int32) : fl_C 71 [.ref 0, .int i, .int r] M J (some (.int ((lr_71_5 i r 0 M).1)), ((lr_71_5 i r 0 M).2), J) :=
 fl_Co (B := fB71) rfl rfl <|
 fl_td (s' := (5, [.ref 0, .int i, .int r, .int 0, .int 0], [], M, J)) (fl_n 4 rfl) <|
 lp_71_5 i r 0 M J (fun u117 =>
  fx_gen (p := fun (MM118 : fl_M) => fl_dn fB71 (56, [.ref 0, .int i, .int r, .int ((lr_71_5 i r 0 M).1), u117], [], MM118, J) (some (.int ((lr_71_5 i r 0 M).1)), ((lr_71_5 i r 0 M).2), J)) ((lr_71_5 i r 0 M).2) (fun MM118 eMM118 =>
   fx_gen (p := fun (II119 : Int32) => fl_dn fB71 (56, [.ref 0, .int i, .int r, .int II119, u117], [], MM118, J) (some (.int ((lr_71_5 i r 0 M).1)), ((lr_71_5 i r 0 M).2), J)) ((lr_71_5 i r 0 M).1) (fun II119 eII119 =>
    fl_td (s' := (57, [.ref 0, .int i, .int r, .int II119, u117], [.int II119], MM118, J)) (fl_n 1 rfl) <|
    fl_rt rfl (fun _ => rfl) (by subst eMM118; subst eII119; rfl))))
def fB70 : sm_P := (fun pc => sm_ch sm_t70 pc, sm_Kn 2 4 none, fun x => sm_lk sm_ca2 x, some .int)
def v_70 (i r : Int32) (M : fl_M) : Int32 := (if (v_68 i r M) = 0 then ((lr_71_5 i r 0 (m_68 i r M)).1) else v_68 i r M)
theorem cc_70 (M : fl_M) (J : fl_J) (i r : Int32) : fl_C 70 [.ref 0, .int i, .int r] M J (some (.int (v_70 i r M)), (if (v_68 i r M) = 0 then ((lr_71_5 i r 0 (m_68 i r M)).2) else (m_68 i r M)), J) :=
 fl_Co (B := fB70) rfl rfl <|
 fl_td (s' := (3, [.ref 0, .int i, .int r, .null], [.int r, .int i, .ref 0], M, J)) (fl_n 3 rfl) <|
 fl_td (s' := (6, [.ref 0, .int i, .int r, .null], [.int (v_68 i r M)], (m_68 i r M), J)) (fl_cv (o := some (.int (v_68 i r M))) rfl rfl rfl rfl (cc_68 M J i r) rfl) <|
 fx_gen (p := fun (MM120 : fl_M) => fl_dn fB70 (6, [.ref 0, .int i, .int r, .null], [.int (v_68 i r M)], MM120, J) (some (.int (v_70 i r M)), (if (v_68 i r M) = 0 then ((lr_71_5 i r 0 (m_68 i r M)).2) else (m_68 i r M)), J)) (m_68 i r M) (fun MM120 eMM120 =>
  fl_td (s' := (8, [.ref 0, .int i, .int r, .int (v_68 i r M)], [.int (v_68 i r M)], MM120, J)) (fl_n 2 rfl) <|
  fl_dtwo (fl_if (t := 13) rfl rfl) fl_cT (fun h2 =>
   fl_td (s' := (16, [.ref 0, .int i, .int r, .int (v_68 i r M)], [.int r, .int i, .ref 0], MM120, J)) (fl_n 3 rfl) <|
   fl_td (s' := (19, [.ref 0, .int i, .int r, .int (v_68 i r M)], [.int ((lr_71_5 i r 0 MM120).1)], ((lr_71_5 i r 0 MM120).2), J)) (fl_cv (o := some (.int ((lr_71_5 i r 0 MM120).1))) rfl rfl rfl rfl (cc_71 MM120 J i r) rfl) <|
   fx_gen (p := fun (MM121 : fl_M) => fl_dn fB70 (19, [.ref 0, .int i, .int r, .int (v_68 i r M)], [.int ((lr_71_5 i r 0 MM120).1)], MM121, J) (some (.int (v_70 i r M)), (if (v_68 i r M) = 0 then ((lr_71_5 i r 0 (m_68 i r M)).2) else (m_68 i r M)), J)) ((lr_71_5 i r 0 MM120).2) (fun MM121 eMM121 =>
    fx_gen (p := fun (II122 : Int32) => fl_dn fB70 (19, [.ref 0, .int i, .int r, .int (v_68 i r M)], [.int II122], MM121, J) (some (.int (v_70 i r M)), (if (v_68 i r M) = 0 then ((lr_71_5 i r 0 (m_68 i r M)).2) else (m_68 i r M)), J)) ((lr_71_5 i r 0 MM120).1) (fun II122 eII122 =>
     fl_rt rfl (fun _ => rfl) (by subst eMM120; subst eMM121; subst eII122; unfold v_70; first | (simp only [if_pos h2]; done) | rfl)))) (fun h2 =>
   fl_td (s' := (12, [.ref 0, .int i, .int r, .int (v_68 i r M)], [.int (v_68 i r M)], MM120, J)) (fl_n 1 rfl) <|
   fl_rt rfl (fun _ => rfl) (by subst eMM120; unfold v_70; first | (simp only [if_neg h2]; done) | rfl)))
def fB74 : sm_P := (fun pc => sm_ch sm_t74 pc, sm_Kn 2 4 none, fun x => sm_lk sm_ca2 x, none)
-- MiceRegisters.followKind 23
def ls_74_23 (i1 : Int32) (m : Nat) (q : fl_M) : fl_M := (fl_u (m_46 0 24 q) (fl_ar 59 (Int32.ofNat m).toNatClampNeg) (((m_46 0 24 q) 32 i1.toNatClampNeg).toNatClampNeg) (((m_46 0 24 q) (fl_ar 59 (Int32.ofNat m).toNatClampNeg) (((m_46 0 24 q) 32 i1.toNatClampNeg).toNatClampNeg)) + 1))
def lq_74_23 (i1 : Int32) (M : fl_M) (m : Nat) : fl_M := fx_it (ls_74_23 i1) m M
theorem lqs_74_23 (i1 : Int32) (M : fl_M) (m : Nat) : lq_74_23 i1 M (m + 1) = (ls_74_23 i1) m (lq_74_23 i1 M m) := by
  unfold lq_74_23
  exact fx_it_s _ _ _
def lr_74_23 (i1 : Int32) (M : fl_M) : fl_M := (lq_74_23 i1 M (20))
theorem ts_74_23 {r : fl_Q} (i1 i2 i3 : Int32) (M : fl_M) (J : fl_J) (q1 : (i3 < 20) → fl_dn fB74 (23, [.ref 0, .int i1, .int i2, .int (i3 + 1)], [], (fl_u (m_46 0 24 M) (fl_ar 59 i3.toNatClampNeg) (((m_46 0 24 M) 32 i1.toNatClampNeg).toNatClampNeg) (((m_46 0 24 M) (fl_ar 59 i3.toNatClampNeg) (((m_46 0 24 M) 32 i1.toNatClampNeg).toNatClampNeg)) + 1)), J) r) (q2 : (¬ (i3 < 20)) → fl_dn fB74 (64, [.ref 0, .int i1, .int i2, .int i3], [], M, J) r) : fl_dn fB74 (23, [.ref 0, .int i1, .int i2, .int i3], [], M, J) r :=
 fl_td (s' := (26, [.ref 0, .int i1, .int i2, .int i3], [.int 20, .int i3], M, J)) (fl_n 2 rfl) <|
 fl_dnot (fl_ic (t := 64) rfl rfl) fl_nlt (fun h1 =>
  fl_td (s' := (34, [.ref 0, .int i1, .int i2, .int i3], [.int 0, .ref 24], M, J)) (fl_n 3 rfl) <|
  fl_td (s' := (37, [.ref 0, .int i1, .int i2, .int i3], [.int ((lr_46_4 0 0 24 M).1)], (m_46 0 24 M), J)) (fl_cv (o := some (.int ((lr_46_4 0 0 24 M).1))) rfl rfl rfl rfl (cc_46 M J 0 24) rfl) <|
  fx_gen (p := fun (MM124 : fl_M) => fl_dn fB74 (37, [.ref 0, .int i1, .int i2, .int i3], [.int ((lr_46_4 0 0 24 M).1)], MM124, J) r) (m_46 0 24 M) (fun MM124 eMM124 =>
   fx_gen (p := fun (II125 : Int32) => fl_dn fB74 (37, [.ref 0, .int i1, .int i2, .int i3], [.int II125], MM124, J) r) ((lr_46_4 0 0 24 M).1) (fun II125 eII125 =>
    fl_td (s' := (23, [.ref 0, .int i1, .int i2, .int (i3 + 1)], [], (fl_u MM124 (fl_ar 59 i3.toNatClampNeg) ((MM124 32 i1.toNatClampNeg).toNatClampNeg) ((MM124 (fl_ar 59 i3.toNatClampNeg) ((MM124 32 i1.toNatClampNeg).toNatClampNeg)) + 1)), J)) (fl_n 17 rfl) <|
    (by subst eMM124; subst eII125; exact (q1 h1))))) (fun h1 =>
  (q2 h1))
theorem lp_74_23 {r : fl_Q} (i1 i2 : Int32) (M : fl_M) (J : fl_J) (hx : ∀ w3 : Value, fl_dn fB74 (64, [.ref 0, .int i1, .int i2, w3], [], (lr_74_23 i1 M), J) r) : fl_dn fB74 (23, [.ref 0, .int i1, .int i2, .int 0], [], M, J) r := by
  have hb : (20 : Int32).toNatClampNeg = 20 := rfl
  have key : ∀ (n m : Nat), m + n = 20 → fl_dn fB74 (23, [.ref 0, .int i1, .int i2, .int (Int32.ofNat m)], [], (lq_74_23 i1 M m), J) r := by
    intro n
    induction n with
    | zero =>
      intro m hm
      have hm : m = 20 := by omega
      have hn : ¬ ((Int32.ofNat m) < 20) := fun z => by have z := (fi_lt (by omega)).mp z; omega
      exact ts_74_23 i1 i2 (Int32.ofNat m) (lq_74_23 i1 M m) J (fun h1 => absurd h1 hn) (fun h1 => (by have e : lr_74_23 i1 M = lq_74_23 i1 M m := (by show lq_74_23 i1 M (20) = _; rw [← hm]); rw [e] at hx; exact hx _))
    | succ n ih =>
      intro m hm
      have hp : (Int32.ofNat m) < 20 := by exact (fi_lt (by omega)).mpr (by omega)
      refine ts_74_23 i1 i2 (Int32.ofNat m) (lq_74_23 i1 M m) J (fun h1 => ?_) (fun h1 => absurd hp h1)
      · have e : lq_74_23 i1 M (m + 1) = (fl_u (m_46 0 24 (lq_74_23 i1 M m)) (fl_ar 59 (Int32.ofNat m).toNatClampNeg) (((m_46 0 24 (lq_74_23 i1 M m)) 32 i1.toNatClampNeg).toNatClampNeg) (((m_46 0 24 (lq_74_23 i1 M m)) (fl_ar 59 (Int32.ofNat m).toNatClampNeg) (((m_46 0 24 (lq_74_23 i1 M m)) 32 i1.toNatClampNeg).toNatClampNeg)) + 1)) := by
          rw [lqs_74_23]
          unfold ls_74_23
          rfl
        have q := ih (m + 1) (by omega)
        rw [e] at q
        first | (rw [fi_s]; exact q) | (rw [← fi_s] at q; exact q) | (simp only [fi_s] at q ⊢; exact q)
  exact key (20) 0 (Nat.zero_add _)
theorem cc_74 (M : fl_M) (J : fl_J) (i kind : Int32) : fl_C 74 [.ref 0, .int i, .int kind] M J (none, (lr_74_23 i (fl_u (m_23 24 15 M) 29 i.toNatClampNeg kind)), J) :=
 fl_Co (B := fB74) rfl rfl <|
 fl_td (s' := (8, [.ref 0, .int i, .int kind, .null], [.ref 15, .ref 24], M, J)) (fl_n 4 rfl) <|
 fl_td (s' := (11, [.ref 0, .int i, .int kind, .null], [], (m_23 24 15 M), J)) (fl_cv (o := none) rfl rfl rfl rfl (cc_23 M J 24 15) rfl) <|
 fx_gen (p := fun (MM123 : fl_M) => fl_dn fB74 (11, [.ref 0, .int i, .int kind, .null], [], MM123, J) (none, (lr_74_23 i (fl_u (m_23 24 15 M) 29 i.toNatClampNeg kind)), J)) (m_23 24 15 M) (fun MM123 eMM123 =>
  fl_td (s' := (23, [.ref 0, .int i, .int kind, .int 0], [], (fl_u MM123 29 i.toNatClampNeg kind), J)) (fl_n 8 rfl) <|
  lp_74_23 i kind (fl_u MM123 29 i.toNatClampNeg kind) J (fun u126 =>
   fx_gen (p := fun (MM127 : fl_M) => fl_dn fB74 (64, [.ref 0, .int i, .int kind, u126], [], MM127, J) (none, (lr_74_23 i (fl_u (m_23 24 15 M) 29 i.toNatClampNeg kind)), J)) (lr_74_23 i (fl_u MM123 29 i.toNatClampNeg kind)) (fun MM127 eMM127 =>
    fl_rt rfl (fun _ => rfl) (by subst eMM123; subst eMM127; rfl))))
def fB73 : sm_P := (fun pc => sm_ch sm_t73 pc, sm_Kn 2 5 none, fun x => sm_lk sm_ca2 x, none)
-- MiceRegisters.followKinds 11
def ls_73_11 (i3 : Int32) (m : Nat) (q : fl_M) : fl_M := (fl_u q (fl_ar 59 i3.toNatClampNeg) (Int32.ofNat m).toNatClampNeg 0)
def lq_73_11 (i3 : Int32) (M : fl_M) (m : Nat) : fl_M := fx_it (ls_73_11 i3) m M
theorem lqs_73_11 (i3 : Int32) (M : fl_M) (m : Nat) : lq_73_11 i3 M (m + 1) = (ls_73_11 i3) m (lq_73_11 i3 M m) := by
  unfold lq_73_11
  exact fx_it_s _ _ _
def lr_73_11 (i3 : Int32) (M : fl_M) : fl_M := (lq_73_11 i3 M (8))
theorem ts_73_11 {r : fl_Q} (i1 i2 i3 i4 : Int32) (M : fl_M) (J : fl_J) (q1 : (i4 < 8) → fl_dn fB73 (11, [.ref 0, .int i1, .int i2, .int i3, .int (i4 + 1)], [], (fl_u M (fl_ar 59 i3.toNatClampNeg) i4.toNatClampNeg 0), J) r) (q2 : (¬ (i4 < 8)) → fl_dn fB73 (34, [.ref 0, .int i1, .int i2, .int i3, .int i4], [], M, J) r) : fl_dn fB73 (11, [.ref 0, .int i1, .int i2, .int i3, .int i4], [], M, J) r :=
 fl_td (s' := (15, [.ref 0, .int i1, .int i2, .int i3, .int i4], [.int 8, .int i4], M, J)) (fl_n 2 rfl) <|
 fl_dnot (fl_ic (t := 34) rfl rfl) fl_nlt (fun h1 =>
  fl_td (s' := (11, [.ref 0, .int i1, .int i2, .int i3, .int (i4 + 1)], [], (fl_u M (fl_ar 59 i3.toNatClampNeg) i4.toNatClampNeg 0), J)) (fl_n 9 rfl) <|
  (q1 h1)) (fun h1 =>
  (q2 h1))
theorem lp_73_11 {r : fl_Q} (i1 i2 i3 : Int32) (M : fl_M) (J : fl_J) (hx : ∀ w4 : Value, fl_dn fB73 (34, [.ref 0, .int i1, .int i2, .int i3, w4], [], (lr_73_11 i3 M), J) r) : fl_dn fB73 (11, [.ref 0, .int i1, .int i2, .int i3, .int 0], [], M, J) r := by
  have hb : (8 : Int32).toNatClampNeg = 8 := rfl
  have key : ∀ (n m : Nat), m + n = 8 → fl_dn fB73 (11, [.ref 0, .int i1, .int i2, .int i3, .int (Int32.ofNat m)], [], (lq_73_11 i3 M m), J) r := by
    intro n
    induction n with
    | zero =>
      intro m hm
      have hm : m = 8 := by omega
      have hn : ¬ ((Int32.ofNat m) < 8) := fun z => by have z := (fi_lt (by omega)).mp z; omega
      exact ts_73_11 i1 i2 i3 (Int32.ofNat m) (lq_73_11 i3 M m) J (fun h1 => absurd h1 hn) (fun h1 => (by have e : lr_73_11 i3 M = lq_73_11 i3 M m := (by show lq_73_11 i3 M (8) = _; rw [← hm]); rw [e] at hx; exact hx _))
    | succ n ih =>
      intro m hm
      have hp : (Int32.ofNat m) < 8 := by exact (fi_lt (by omega)).mpr (by omega)
      refine ts_73_11 i1 i2 i3 (Int32.ofNat m) (lq_73_11 i3 M m) J (fun h1 => ?_) (fun h1 => absurd hp h1)
      · have e : lq_73_11 i3 M (m + 1) = (fl_u (lq_73_11 i3 M m) (fl_ar 59 i3.toNatClampNeg) (Int32.ofNat m).toNatClampNeg 0) := by
          rw [lqs_73_11]
          unfold ls_73_11
          rfl
        have q := ih (m + 1) (by omega)
        rw [e] at q
        first | (rw [fi_s]; exact q) | (rw [← fi_s] at q; exact q) | (simp only [fi_s] at q ⊢; exact q)
  exact key (8) 0 (Nat.zero_add _)
-- MiceRegisters.followKinds 2
def ls_73_2 (m : Nat) (q : fl_M) : fl_M := (lr_73_11 (Int32.ofNat m) q)
def lq_73_2 (M : fl_M) (m : Nat) : fl_M := fx_it ls_73_2 m M
theorem lqs_73_2 (M : fl_M) (m : Nat) : lq_73_2 M (m + 1) = ls_73_2 m (lq_73_2 M m) := by
  unfold lq_73_2
  exact fx_it_s _ _ _
def lr_73_2 (M : fl_M) : fl_M := (lq_73_2 M (20))
theorem ts_73_2 {r : fl_Q} (i1 i2 i3 : Int32) (u4 : Value) (M : fl_M) (J : fl_J) (q1 : (i3 < 20) → ∀ u128 : Value, fl_dn fB73 (2, [.ref 0, .int i1, .int i2, .int (i3 + 1), u128], [], (lr_73_11 i3 M), J) r) (q2 : (¬ (i3 < 20)) → fl_dn fB73 (40, [.ref 0, .int i1, .int i2, .int i3, u4], [], M, J) r) : fl_dn fB73 (2, [.ref 0, .int i1, .int i2, .int i3, u4], [], M, J) r :=
 fl_td (s' := (5, [.ref 0, .int i1, .int i2, .int i3, u4], [.int 20, .int i3], M, J)) (fl_n 2 rfl) <|
 fl_dnot (fl_ic (t := 40) rfl rfl) fl_nlt (fun h1 =>
  fl_td (s' := (11, [.ref 0, .int i1, .int i2, .int i3, .int 0], [], M, J)) (fl_n 2 rfl) <|
  lp_73_11 i1 i2 i3 M J (fun u128 =>
   fx_gen (p := fun (MM129 : fl_M) => fl_dn fB73 (34, [.ref 0, .int i1, .int i2, .int i3, u128], [], MM129, J) r) (lr_73_11 i3 M) (fun MM129 eMM129 =>
    fl_td (s' := (2, [.ref 0, .int i1, .int i2, .int (i3 + 1), u128], [], MM129, J)) (fl_n 2 rfl) <|
    (by subst eMM129; exact (q1 h1 u128))))) (fun h1 =>
  (q2 h1))
theorem lp_73_2 {r : fl_Q} (i1 i2 : Int32) (u4 : Value) (M : fl_M) (J : fl_J) (hx : ∀ w3 w4 : Value, fl_dn fB73 (40, [.ref 0, .int i1, .int i2, w3, w4], [], (lr_73_2 M), J) r) : fl_dn fB73 (2, [.ref 0, .int i1, .int i2, .int 0, u4], [], M, J) r := by
  have hb : (20 : Int32).toNatClampNeg = 20 := rfl
  have key : ∀ (n m : Nat) (w4 : Value), m + n = 20 → fl_dn fB73 (2, [.ref 0, .int i1, .int i2, .int (Int32.ofNat m), w4], [], (lq_73_2 M m), J) r := by
    intro n
    induction n with
    | zero =>
      intro m w4 hm
      have hm : m = 20 := by omega
      have hn : ¬ ((Int32.ofNat m) < 20) := fun z => by have z := (fi_lt (by omega)).mp z; omega
      exact ts_73_2 i1 i2 (Int32.ofNat m) w4 (lq_73_2 M m) J (fun h1 u128 => absurd h1 hn) (fun h1 => (by have e : lr_73_2 M = lq_73_2 M m := (by show lq_73_2 M (20) = _; rw [← hm]); rw [e] at hx; exact hx _ _))
    | succ n ih =>
      intro m w4 hm
      have hp : (Int32.ofNat m) < 20 := by exact (fi_lt (by omega)).mpr (by omega)
      refine ts_73_2 i1 i2 (Int32.ofNat m) w4 (lq_73_2 M m) J (fun h1 u128 => ?_) (fun h1 => absurd hp h1)
      · have e : lq_73_2 M (m + 1) = (lr_73_11 (Int32.ofNat m) (lq_73_2 M m)) := by
          rw [lqs_73_2]
          unfold ls_73_2
          rfl
        have q := ih (m + 1) u128 (by omega)
        rw [e] at q
        first | (rw [fi_s]; exact q) | (rw [← fi_s] at q; exact q) | (simp only [fi_s] at q ⊢; exact q)
  exact key (20) 0 u4 (Nat.zero_add _)
