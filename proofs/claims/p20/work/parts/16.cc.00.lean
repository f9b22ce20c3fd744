def fB58 : sm_P := (fun pc => sm_ch sm_t58 pc, sm_Kn 2 2 none, fun x => sm_lk sm_ca2 x, none)
theorem cc_58 (M : fl_M) (J : fl_J) (n : Int32) : fl_C 58 [.ref 0, .int n] M J (none, (lr_59_2 n 24 (m_23 24 15 M)), J) :=
 fl_Co (B := fB58) rfl rfl <|
 fl_td (s' := (8, [.ref 0, .int n], [.ref 15, .ref 24], M, J)) (fl_n 4 rfl) <|
 fl_td (s' := (11, [.ref 0, .int n], [], (m_23 24 15 M), J)) (fl_cv (o := none) rfl rfl rfl rfl (cc_23 M J 24 15) rfl) <|
 fx_gen (p := fun (MM68 : fl_M) => fl_dn fB58 (11, [.ref 0, .int n], [], MM68, J) (none, (lr_59_2 n 24 (m_23 24 15 M)), J)) (m_23 24 15 M) (fun MM68 eMM68 =>
  fl_td (s' := (16, [.ref 0, .int n], [.int n, .ref 24], MM68, J)) (fl_n 3 rfl) <|
  fl_td (s' := (19, [.ref 0, .int n], [], (lr_59_2 n 24 MM68), J)) (fl_cv (o := none) rfl rfl rfl rfl (cc_59 MM68 J n 24) rfl) <|
  fx_gen (p := fun (MM69 : fl_M) => fl_dn fB58 (19, [.ref 0, .int n], [], MM69, J) (none, (lr_59_2 n 24 (m_23 24 15 M)), J)) (lr_59_2 n 24 MM68) (fun MM69 eMM69 =>
   fl_rt rfl (fun _ => rfl) (by subst eMM68; subst eMM69; rfl)))
def fB57 : sm_P := (fun pc => sm_ch sm_t57 pc, sm_Kn 2 3 none, fun x => sm_lk sm_ca2 x, some .int)
def v_57 (l n : Int32) (M : fl_M) : Int32 := (if (l < 0) ∨ (¬ (l < (M 15 0))) then (-1) else (if n < 0 then (-1) else (if 40 < n then (-1) else (lr_59_2 n 24 (m_23 24 15 M)) 27 l.toNatClampNeg)))
def m_57 (l n : Int32) (M : fl_M) : fl_M := (if (l < 0) ∨ (¬ (l < (M 15 0))) then M else (if n < 0 then M else (if 40 < n then M else (lr_59_2 n 24 (m_23 24 15 M)))))
theorem cc_57 (M : fl_M) (J : fl_J) (l n : Int32) : fl_C 57 [.ref 0, .int l, .int n] M J (some (.int (v_57 l n M)), (m_57 l n M), J) :=
 fl_Co (B := fB57) rfl rfl <|
 fl_td (s' := (2, [.ref 0, .int l, .int n], [.int l, .ref 0], M, J)) (fl_n 2 rfl) <|
 fl_td (s' := (5, [.ref 0, .int l, .int n], [.int (if (l < 0) ∨ (¬ (l < (M 15 0))) then 1 else 0)], M, J)) (fl_cv (o := some (.int (if (l < 0) ∨ (¬ (l < (M 15 0))) then 1 else 0))) rfl rfl rfl rfl (cc_25 M J l) rfl) <|
 fl_dtwo (fl_if (t := 18) rfl rfl) fl_b1 (fun h1 =>
  fl_td (s' := (19, [.ref 0, .int l, .int n], [.int (-1)], M, J)) (fl_n 1 rfl) <|
  fl_rt rfl (fun _ => rfl) (by unfold v_57 m_57; first | (simp only [if_pos h1]; done) | rfl)) (fun h1 =>
  fl_td (s' := (9, [.ref 0, .int l, .int n], [.int n], M, J)) (fl_n 1 rfl) <|
  fl_dtwo (fl_if (t := 18) rfl rfl) fl_cT (fun h2 =>
   fl_td (s' := (19, [.ref 0, .int l, .int n], [.int (-1)], M, J)) (fl_n 1 rfl) <|
   fl_rt rfl (fun _ => rfl) (by unfold v_57 m_57; first | (simp only [if_neg h1, if_pos h2]; done) | rfl)) (fun h2 =>
   fl_td (s' := (15, [.ref 0, .int l, .int n], [.int 40, .int n], M, J)) (fl_n 2 rfl) <|
   fl_dnot (fl_ic (t := 20) rfl rfl) fl_nle (fun h3 =>
    fl_td (s' := (19, [.ref 0, .int l, .int n], [.int (-1)], M, J)) (fl_n 1 rfl) <|
    fl_rt rfl (fun _ => rfl) (by unfold v_57 m_57; first | (simp only [if_neg h1, if_neg h2, if_pos h3]; done) | rfl)) (fun h3 =>
    fl_td (s' := (22, [.ref 0, .int l, .int n], [.int n, .ref 0], M, J)) (fl_n 2 rfl) <|
    fl_td (s' := (25, [.ref 0, .int l, .int n], [], (lr_59_2 n 24 (m_23 24 15 M)), J)) (fl_cv (o := none) rfl rfl rfl rfl (cc_58 M J n) rfl) <|
    fx_gen (p := fun (MM70 : fl_M) => fl_dn fB57 (25, [.ref 0, .int l, .int n], [], MM70, J) (some (.int (v_57 l n M)), (m_57 l n M), J)) (lr_59_2 n 24 (m_23 24 15 M)) (fun MM70 eMM70 =>
     fl_td (s' := (34, [.ref 0, .int l, .int n], [.int (MM70 27 l.toNatClampNeg)], MM70, J)) (fl_n 5 rfl) <|
     fl_rt rfl (fun _ => rfl) (by subst eMM70; unfold v_57 m_57; first | (simp only [if_neg h1, if_neg h2, if_neg h3]; done) | rfl)))))
def fB60 : sm_P := (fun pc => sm_ch sm_t60 pc, sm_Kn 2 2 none, fun x => sm_lk sm_ca2 x, some .int)
def v_60 (n : Int32) (M : fl_M) : Int32 := (if n < 0 then (-1) else (if 40 < n then (-1) else (if (M 15 1) = 0 then (-4) else (lr_61_4 0 24 (lr_59_2 n 24 (m_23 24 15 M))))))
def m_60 (n : Int32) (M : fl_M) : fl_M := (if n < 0 then M else (if 40 < n then M else (if (M 15 1) = 0 then M else (lr_59_2 n 24 (m_23 24 15 M)))))
theorem cc_60 (M : fl_M) (J : fl_J) (n : Int32) : fl_C 60 [.ref 0, .int n] M J (some (.int (v_60 n M)), (m_60 n M), J) :=
 fl_Co (B := fB60) rfl rfl <|
 fl_td (s' := (1, [.ref 0, .int n], [.int n], M, J)) (fl_n 1 rfl) <|
 fl_dtwo (fl_if (t := 10) rfl rfl) fl_cT (fun h1 =>
  fl_td (s' := (11, [.ref 0, .int n], [.int (-1)], M, J)) (fl_n 1 rfl) <|
  fl_rt rfl (fun _ => rfl) (by unfold v_60 m_60; first | (simp only [if_pos h1]; done) | rfl)) (fun h1 =>
  fl_td (s' := (7, [.ref 0, .int n], [.int 40, .int n], M, J)) (fl_n 2 rfl) <|
  fl_dnot (fl_ic (t := 12) rfl rfl) fl_nle (fun h2 =>
   fl_td (s' := (11, [.ref 0, .int n], [.int (-1)], M, J)) (fl_n 1 rfl) <|
   fl_rt rfl (fun _ => rfl) (by unfold v_60 m_60; first | (simp only [if_neg h1, if_pos h2]; done) | rfl)) (fun h2 =>
   fl_td (s' := (19, [.ref 0, .int n], [.int (M 15 1)], M, J)) (fl_n 3 rfl) <|
   fl_dnot (fl_if (t := 25) rfl rfl) fl_cF (fun h3 =>
    fl_td (s' := (24, [.ref 0, .int n], [.int (-4)], M, J)) (fl_n 1 rfl) <|
    fl_rt rfl (fun _ => rfl) (by unfold v_60 m_60; first | (simp only [if_neg h1, if_neg h2, if_pos h3]; done) | rfl)) (fun h3 =>
    fl_td (s' := (27, [.ref 0, .int n], [.int n, .ref 0], M, J)) (fl_n 2 rfl) <|
    fl_td (s' := (30, [.ref 0, .int n], [], (lr_59_2 n 24 (m_23 24 15 M)), J)) (fl_cv (o := none) rfl rfl rfl rfl (cc_58 M J n) rfl) <|
    fx_gen (p := fun (MM71 : fl_M) => fl_dn fB60 (30, [.ref 0, .int n], [], MM71, J) (some (.int (v_60 n M)), (m_60 n M), J)) (lr_59_2 n 24 (m_23 24 15 M)) (fun MM71 eMM71 =>
     fl_td (s' := (34, [.ref 0, .int n], [.ref 24], MM71, J)) (fl_n 2 rfl) <|
     fl_td (s' := (37, [.ref 0, .int n], [.int (lr_61_4 0 24 MM71)], MM71, J)) (fl_cv (o := some (.int (lr_61_4 0 24 MM71))) rfl rfl rfl rfl (cc_61 MM71 J 24) rfl) <|
     fx_gen (p := fun (II72 : Int32) => fl_dn fB60 (37, [.ref 0, .int n], [.int II72], MM71, J) (some (.int (v_60 n M)), (m_60 n M), J)) (lr_61_4 0 24 MM71) (fun II72 eII72 =>
      fl_rt rfl (fun _ => rfl) (by subst eMM71; subst eII72; unfold v_60 m_60; first | (simp only [if_neg h1, if_neg h2, if_neg h3]; done) | rfl))))))
def fB62 : sm_P := (fun pc => sm_ch sm_t62 pc, sm_Kn 2 3 none, fun x => sm_lk sm_ca2 x, some .int)
-- MiceRegisters.when 23
def ls_62_23 (i1 : Int32) (m : Nat) (q : fl_M) : (Int32 × fl_M) ⊕ fl_M := (if (q 27 i1.toNatClampNeg) = 0 then (.inl ((Int32.ofNat m), q)) else (.inr (m_46 0 24 q)))
def lq_62_23 (i1 : Int32) (M : fl_M) (m : Nat) : (Int32 × fl_M) ⊕ fl_M := fx_ix (ls_62_23 i1) m M
theorem lqs_62_23 (i1 : Int32) (M : fl_M) {m : Nat} {a : fl_M} {v : (Int32 × fl_M) ⊕ fl_M} (h : lq_62_23 i1 M m = .inr a) (e : (ls_62_23 i1) m a = v) : lq_62_23 i1 M (m + 1) = v := by
  unfold lq_62_23 at h ⊢
  exact ix_s1 h e
def lr_62_23 (i1 : Int32) (M : fl_M) : (Int32 × fl_M) ⊕ fl_M := (lq_62_23 i1 M (40))
theorem ts_62_23 {r : fl_Q} (i1 i2 : Int32) (M : fl_M) (J : fl_J) (e1 : (i2 < 40) → ((M 27 i1.toNatClampNeg) = 0) → (some (.int i2), M, J) = r) (q1 : (i2 < 40) → (¬ ((M 27 i1.toNatClampNeg) = 0)) → fl_dn fB62 (23, [.ref 0, .int i1, .int (i2 + 1)], [], (m_46 0 24 M), J) r) (q2 : (¬ (i2 < 40)) → fl_dn fB62 (58, [.ref 0, .int i1, .int i2], [], M, J) r) : fl_dn fB62 (23, [.ref 0, .int i1, .int i2], [], M, J) r :=
 fl_td (s' := (26, [.ref 0, .int i1, .int i2], [.int 40, .int i2], M, J)) (fl_n 2 rfl) <|
 fl_dnot (fl_ic (t := 58) rfl rfl) fl_nlt (fun h1 =>
  fl_td (s' := (38, [.ref 0, .int i1, .int i2], [.int (M 27 i1.toNatClampNeg)], M, J)) (fl_n 5 rfl) <|
  fl_dnot (fl_if (t := 43) rfl rfl) fl_cF (fun h2 =>
   fl_td (s' := (42, [.ref 0, .int i1, .int i2], [.int i2], M, J)) (fl_n 1 rfl) <|
   fl_rt rfl (fun _ => rfl) (e1 h1 h2)) (fun h2 =>
   fl_td (s' := (48, [.ref 0, .int i1, .int i2], [.int 0, .ref 24], M, J)) (fl_n 3 rfl) <|
   fl_td (s' := (51, [.ref 0, .int i1, .int i2], [.int ((lr_46_4 0 0 24 M).1)], (m_46 0 24 M), J)) (fl_cv (o := some (.int ((lr_46_4 0 0 24 M).1))) rfl rfl rfl rfl (cc_46 M J 0 24) rfl) <|
   fx_gen (p := fun (MM74 : fl_M) => fl_dn fB62 (51, [.ref 0, .int i1, .int i2], [.int ((lr_46_4 0 0 24 M).1)], MM74, J) r) (m_46 0 24 M) (fun MM74 eMM74 =>
    fx_gen (p := fun (II75 : Int32) => fl_dn fB62 (51, [.ref 0, .int i1, .int i2], [.int II75], MM74, J) r) ((lr_46_4 0 0 24 M).1) (fun II75 eII75 =>
     fl_td (s' := (23, [.ref 0, .int i1, .int (i2 + 1)], [], MM74, J)) (fl_n 3 rfl) <|
     (by subst eMM74; subst eII75; exact (q1 h1 h2)))))) (fun h1 =>
  (q2 h1))
theorem lp_62_23 {r : fl_Q} (i1 : Int32) (M : fl_M) (J : fl_J) (hq : ∀ c, lr_62_23 i1 M = .inl c → (some (.int c.1), c.2, J) = r) (hx : ∀ a, lr_62_23 i1 M = .inr a → ∀ w2 : Value, fl_dn fB62 (58, [.ref 0, .int i1, w2], [], a, J) r) : fl_dn fB62 (23, [.ref 0, .int i1, .int 0], [], M, J) r := by
  have hb : (40 : Int32).toNatClampNeg = 40 := rfl
  have key : ∀ (n m : Nat) (a : fl_M) (ha : lq_62_23 i1 M m = .inr a), m + n = 40 → fl_dn fB62 (23, [.ref 0, .int i1, .int (Int32.ofNat m)], [], a, J) r := by
    intro n
    induction n with
    | zero =>
      intro m a ha hm
      have hm : m = 40 := by omega
      have hn : ¬ ((Int32.ofNat m) < 40) := fun z => by have z := (fi_lt (by omega)).mp z; omega
      exact ts_62_23 i1 (Int32.ofNat m) a J (fun h1 h2 => absurd h1 hn) (fun h1 h2 => absurd h1 hn) (fun h1 => hx a (by show lq_62_23 i1 M (40) = _; rw [← hm]; exact ha) _)
    | succ n ih =>
      intro m a ha hm
      have hp : (Int32.ofNat m) < 40 := by exact (fi_lt (by omega)).mpr (by omega)
      refine ts_62_23 i1 (Int32.ofNat m) a J (fun h1 h2 => ?_) (fun h1 h2 => ?_) (fun h1 => absurd hp h1)
      · have e : lq_62_23 i1 M (m + 1) = .inl ((Int32.ofNat m), a) := lqs_62_23 i1 M ha (by
          show (ls_62_23 i1) m a = _
          unfold ls_62_23
          simp only [if_pos h2])
        have e : lq_62_23 i1 M (40) = .inl ((Int32.ofNat m), a) := ix_l e (by omega)
        exact hq _ e
      · have e : lq_62_23 i1 M (m + 1) = .inr (m_46 0 24 a) := lqs_62_23 i1 M ha (by
          show (ls_62_23 i1) m a = _
          unfold ls_62_23
          simp only [if_neg h2])
        have q := ih (m + 1) _ e (by omega)
        first | (rw [fi_s]; exact q) | (rw [← fi_s] at q; exact q) | (simp only [fi_s] at q ⊢; exact q)
  exact key (40) 0 _ rfl (Nat.zero_add _)
def v_62 (l : Int32) (M : fl_M) : Int32 := (if (l < 0) ∨ (¬ (l < (M 15 0))) then (-1) else (match (lr_62_23 l (m_23 24 15 M)) with | .inl c76 => c76.1 | .inr a77 => (if (a77 27 l.toNatClampNeg) = 0 then 40 else (-9))))
def m_62 (l : Int32) (M : fl_M) : fl_M := (if (l < 0) ∨ (¬ (l < (M 15 0))) then M else (match (lr_62_23 l (m_23 24 15 M)) with | .inl c76 => c76.2 | .inr a77 => a77))
theorem cc_62 (M : fl_M) (J : fl_J) (l : Int32) : fl_C 62 [.ref 0, .int l] M J (some (.int (v_62 l M)), (m_62 l M), J) :=
 fl_Co (B := fB62) rfl rfl <|
 fl_td (s' := (2, [.ref 0, .int l, .null], [.int l, .ref 0], M, J)) (fl_n 2 rfl) <|
 fl_td (s' := (5, [.ref 0, .int l, .null], [.int (if (l < 0) ∨ (¬ (l < (M 15 0))) then 1 else 0)], M, J)) (fl_cv (o := some (.int (if (l < 0) ∨ (¬ (l < (M 15 0))) then 1 else 0))) rfl rfl rfl rfl (cc_25 M J l) rfl) <|
 fl_dnot (fl_if (t := 10) rfl rfl) fl_b0 (fun h1 =>
  fl_td (s' := (9, [.ref 0, .int l, .null], [.int (-1)], M, J)) (fl_n 1 rfl) <|
  fl_rt rfl (fun _ => rfl) (by unfold v_62 m_62; first | (simp only [if_pos h1]; done) | rfl)) (fun h1 =>
  fl_td (s' := (18, [.ref 0, .int l, .null], [.ref 15, .ref 24], M, J)) (fl_n 4 rfl) <|
  fl_td (s' := (21, [.ref 0, .int l, .null], [], (m_23 24 15 M), J)) (fl_cv (o := none) rfl rfl rfl rfl (cc_23 M J 24 15) rfl) <|
  fx_gen (p := fun (MM73 : fl_M) => fl_dn fB62 (21, [.ref 0, .int l, .null], [], MM73, J) (some (.int (v_62 l M)), (m_62 l M), J)) (m_23 24 15 M) (fun MM73 eMM73 =>
   fl_td (s' := (23, [.ref 0, .int l, .int 0], [], MM73, J)) (fl_n 2 rfl) <|
   lp_62_23 l MM73 J (fun c76 h4 => by subst eMM73; unfold v_62 m_62; first | (simp only [if_neg h1, h4]; done) | rfl) (fun a77 h3 u78 =>
    fl_td (s' := (67, [.ref 0, .int l, u78], [.int (a77 27 l.toNatClampNeg)], a77, J)) (fl_n 5 rfl) <|
    fl_dnot (fl_if (t := 75) rfl rfl) fl_cF (fun h5 =>
     fl_td (s' := (77, [.ref 0, .int l, u78], [.int 40], a77, J)) (fl_n 2 rfl) <|
     fl_rt rfl (fun _ => rfl) (by subst eMM73; unfold v_62 m_62; first | (simp only [if_neg h1, h3, if_pos h5]; done) | rfl)) (fun h5 =>
     fl_td (s' := (77, [.ref 0, .int l, u78], [.int (-9)], a77, J)) (fl_n 1 rfl) <|
     fl_rt rfl (fun _ => rfl) (by subst eMM73; unfold v_62 m_62; first | (simp only [if_neg h1, h3, if_neg h5]; done) | rfl)))))
