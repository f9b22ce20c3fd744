theorem ts_63_52 {r : fl_Q} (i1 i2 i3 i4 : Int32) (M : fl_M) (J : fl_J) (q1 : (i4 < (M 15 0)) → (i4 = i1) → fl_dn fB63 (52, [.ref 0, .int i1, .int i2, .int i3, .int (i4 + 1)], [], M, J) r) (q2 : (i4 < (M 15 0)) → (¬ (i4 = i1)) → (20 < ((M 19 i4.toNatClampNeg) + i3)) → fl_dn fB63 (52, [.ref 0, .int i1, .int i2, .int i3, .int (i4 + 1)], [], M, J) r) (q3 : (i4 < (M 15 0)) → (¬ (i4 = i1)) → (¬ (20 < ((M 19 i4.toNatClampNeg) + i3))) → ((v_64 i1 i2 i4 i3 M) = 0) → fl_dn fB63 (52, [.ref 0, .int i1, .int i2, .int i3, .int (i4 + 1)], [], (m_64 i1 i2 i4 i3 M), J) r) (e1 : (i4 < (M 15 0)) → (¬ (i4 = i1)) → (¬ (20 < ((M 19 i4.toNatClampNeg) + i3))) → (¬ ((v_64 i1 i2 i4 i3 M) = 0)) → (some (.int i3), (fl_u (m_64 i1 i2 i4 i3 M) 0 12 i4), J) = r) (q4 : (¬ (i4 < (M 15 0))) → fl_dn fB63 (114, [.ref 0, .int i1, .int i2, .int i3, .int i4], [], M, J) r) : fl_dn fB63 (52, [.ref 0, .int i1, .int i2, .int i3, .int i4], [], M, J) r :=
 fl_td (s' := (61, [.ref 0, .int i1, .int i2, .int i3, .int i4], [.int (M 15 0), .int i4], M, J)) (fl_n 4 rfl) <|
 fl_dnot (fl_ic (t := 114) rfl rfl) fl_nlt (fun h1 =>
  fl_td (s' := (67, [.ref 0, .int i1, .int i2, .int i3, .int i4], [.int i1, .int i4], M, J)) (fl_n 2 rfl) <|
  fl_dtwo (fl_ic (t := 108) rfl rfl) fl_cT (fun h2 =>
   fl_td (s' := (52, [.ref 0, .int i1, .int i2, .int i3, .int (i4 + 1)], [], M, J)) (fl_n 2 rfl) <|
   (q1 h1 h2)) (fun h2 =>
   fl_td (s' := (84, [.ref 0, .int i1, .int i2, .int i3, .int i4], [.int 20, .int ((M 19 i4.toNatClampNeg) + i3)], M, J)) (fl_n 8 rfl) <|
   fl_dtwo (fl_ic (t := 108) rfl rfl) fl_cT (fun h3 =>
    fl_td (s' := (52, [.ref 0, .int i1, .int i2, .int i3, .int (i4 + 1)], [], M, J)) (fl_n 2 rfl) <|
    (q2 h1 h2 h3)) (fun h3 =>
    fl_td (s' := (93, [.ref 0, .int i1, .int i2, .int i3, .int i4], [.int i3, .int i4, .int i2, .int i1, .ref 0], M, J)) (fl_n 5 rfl) <|
    fl_td (s' := (96, [.ref 0, .int i1, .int i2, .int i3, .int i4], [.int (v_64 i1 i2 i4 i3 M)], (m_64 i1 i2 i4 i3 M), J)) (fl_cv (o := some (.int (v_64 i1 i2 i4 i3 M))) rfl rfl rfl rfl (cc_64 M J i1 i2 i4 i3) rfl) <|
    fx_gen (p := fun (MM85 : fl_M) => fl_dn fB63 (96, [.ref 0, .int i1, .int i2, .int i3, .int i4], [.int (v_64 i1 i2 i4 i3 M)], MM85, J) r) (m_64 i1 i2 i4 i3 M) (fun MM85 eMM85 =>
     fl_dtwo (fl_if (t := 108) rfl rfl) fl_cT (fun h5 =>
      fl_td (s' := (52, [.ref 0, .int i1, .int i2, .int i3, .int (i4 + 1)], [], MM85, J)) (fl_n 2 rfl) <|
      (by subst eMM85; exact (q3 h1 h2 h3 h5))) (fun h5 =>
      fl_td (s' := (102, [.ref 0, .int i1, .int i2, .int i3, .int i4], [.int i4, .ref 0], MM85, J)) (fl_n 2 rfl) <|
      fl_td (s' := (105, [.ref 0, .int i1, .int i2, .int i3, .int i4], [.int 1], (fl_u MM85 0 12 i4), J)) (fl_cv (o := some (.int 1)) rfl rfl rfl rfl (cc_5 MM85 J i4) rfl) <|
      fl_td (s' := (107, [.ref 0, .int i1, .int i2, .int i3, .int i4], [.int i3], (fl_u MM85 0 12 i4), J)) (fl_n 2 rfl) <|
      fl_rt rfl (fun _ => rfl) (by subst eMM85; exact (e1 h1 h2 h3 h5))))))) (fun h1 =>
  (q4 h1))
theorem lk_63_52 (i1 i2 i3 : Int32) (M : fl_M) (m : Nat) : ∀ a, lq_63_52 i1 i2 i3 M m = .inr a → (a 15 0) = (M 15 0) := by
  induction m with
  | zero => intro a h; cases h; rfl
  | succ m ih =>
    intro a h
    obtain ⟨q, h1, h2⟩ := ix_s h
    rw [← ih q h1]
    unfold ls_63_52 at h2
    (repeat' split at h2) <;> first | (cases h2; done) | (cases h2; with_reducible rfl) | (cases h2; simp [fl_u, fr_22_18, fr_22_53, fr_23_42, fr_23_106, fr_23, fr_46_4, fr_46_100, fr_46, fr_45, fr_59_2, fr_44, fr_54_10, fr_51_9, fr_64_28, fr_64]; done)
theorem lp_63_52 {r : fl_Q} (i1 i2 i3 : Int32) (M : fl_M) (J : fl_J) (hq : ∀ c, lr_63_52 i1 i2 i3 M = .inl c → (some (.int c.1), c.2, J) = r) (hx : ∀ a, lr_63_52 i1 i2 i3 M = .inr a → ∀ w4 : Value, fl_dn fB63 (114, [.ref 0, .int i1, .int i2, .int i3, w4], [], a, J) r) : fl_dn fB63 (52, [.ref 0, .int i1, .int i2, .int i3, .int 0], [], M, J) r := by
  have hb := fi_bd (M 15 0)
  have hB := fun m a h => lk_63_52 i1 i2 i3 M m a h
  have key : ∀ (n m : Nat) (a : fl_M) (ha : lq_63_52 i1 i2 i3 M m = .inr a), m + n = ((M 15 0)).toNatClampNeg → fl_dn fB63 (52, [.ref 0, .int i1, .int i2, .int i3, .int (Int32.ofNat m)], [], a, J) r := by
    intro n
    induction n with
    | zero =>
      intro m a ha hm
      have hm : m = ((M 15 0)).toNatClampNeg := by omega
      have hn : ¬ ((Int32.ofNat m) < (a 15 0)) := fun z => by rw [hB m a ha] at z; have z := (fi_lt (by omega)).mp z; omega
      exact ts_63_52 i1 i2 i3 (Int32.ofNat m) a J (fun h1 h2 => absurd h1 hn) (fun h1 h2 h3 => absurd h1 hn) (fun h1 h2 h3 h5 => absurd h1 hn) (fun h1 h2 h3 h5 => absurd h1 hn) (fun h1 => hx a (by show lq_63_52 i1 i2 i3 M (((M 15 0)).toNatClampNeg) = _; rw [← hm]; exact ha) _)
    | succ n ih =>
      intro m a ha hm
      have hp : (Int32.ofNat m) < (a 15 0) := by rw [hB m a ha]; exact (fi_lt (by omega)).mpr (by omega)
      refine ts_63_52 i1 i2 i3 (Int32.ofNat m) a J (fun h1 h2 => ?_) (fun h1 h2 h3 => ?_) (fun h1 h2 h3 h5 => ?_) (fun h1 h2 h3 h5 => ?_) (fun h1 => absurd hp h1)
      · have e : lq_63_52 i1 i2 i3 M (m + 1) = .inr a := lqs_63_52 i1 i2 i3 M ha (by
          show (ls_63_52 i1 i2 i3) m a = _
          unfold ls_63_52
          simp only [if_pos h2])
        have q := ih (m + 1) _ e (by omega)
        first | (rw [fi_s]; exact q) | (rw [← fi_s] at q; exact q) | (simp only [fi_s] at q ⊢; exact q)
      · have e : lq_63_52 i1 i2 i3 M (m + 1) = .inr a := lqs_63_52 i1 i2 i3 M ha (by
          show (ls_63_52 i1 i2 i3) m a = _
          unfold ls_63_52
          simp only [if_neg h2, if_pos h3])
        have q := ih (m + 1) _ e (by omega)
        first | (rw [fi_s]; exact q) | (rw [← fi_s] at q; exact q) | (simp only [fi_s] at q ⊢; exact q)
      · have e : lq_63_52 i1 i2 i3 M (m + 1) = .inr (m_64 i1 i2 (Int32.ofNat m) i3 a) := lqs_63_52 i1 i2 i3 M ha (by
          show (ls_63_52 i1 i2 i3) m a = _
          unfold ls_63_52
          simp only [if_neg h2, if_neg h3, if_pos h5])
        have q := ih (m + 1) _ e (by omega)
        first | (rw [fi_s]; exact q) | (rw [← fi_s] at q; exact q) | (simp only [fi_s] at q ⊢; exact q)
      · have e : lq_63_52 i1 i2 i3 M (m + 1) = .inl (i3, (fl_u (m_64 i1 i2 (Int32.ofNat m) i3 a) 0 12 (Int32.ofNat m))) := lqs_63_52 i1 i2 i3 M ha (by
          show (ls_63_52 i1 i2 i3) m a = _
          unfold ls_63_52
          simp only [if_neg h2, if_neg h3, if_neg h5])
        have e : lq_63_52 i1 i2 i3 M (((M 15 0)).toNatClampNeg) = .inl (i3, (fl_u (m_64 i1 i2 (Int32.ofNat m) i3 a) 0 12 (Int32.ofNat m))) := ix_l e (by omega)
        exact hq _ e
  exact key (((M 15 0)).toNatClampNeg) 0 _ rfl (Nat.zero_add _)
-- MiceRegisters.save 43
def ls_63_43 (i1 i2 : Int32) (m : Nat) (q : fl_M) : (Int32 × fl_M) ⊕ fl_M := (match (lr_63_52 i1 i2 (Int32.ofNat (1 + m)) q) with | .inl c86 => (.inl (c86.1, c86.2)) | .inr a87 => (.inr a87))
def lq_63_43 (i1 i2 : Int32) (M : fl_M) (m : Nat) : (Int32 × fl_M) ⊕ fl_M := fx_ix (ls_63_43 i1 i2) m M
theorem lqs_63_43 (i1 i2 : Int32) (M : fl_M) {m : Nat} {a : fl_M} {v : (Int32 × fl_M) ⊕ fl_M} (h : lq_63_43 i1 i2 M m = .inr a) (e : (ls_63_43 i1 i2) m a = v) : lq_63_43 i1 i2 M (m + 1) = v := by
  unfold lq_63_43 at h ⊢
  exact ix_s1 h e
def lr_63_43 (i1 i2 : Int32) (M : fl_M) : (Int32 × fl_M) ⊕ fl_M := (lq_63_43 i1 i2 M (20))
theorem ts_63_43 {r : fl_Q} (i1 i2 i3 : Int32) (u4 : Value) (M : fl_M) (J : fl_J) (q1 : (20 < i3) → fl_dn fB63 (120, [.ref 0, .int i1, .int i2, .int i3, u4], [], M, J) r) (e1 : (¬ (20 < i3)) → ∀ c86, (lr_63_52 i1 i2 i3 M) = .inl c86 → (some (.int c86.1), c86.2, J) = r) (q2 : (¬ (20 < i3)) → ∀ a87, (lr_63_52 i1 i2 i3 M) = .inr a87 → ∀ u88 : Value, fl_dn fB63 (43, [.ref 0, .int i1, .int i2, .int (i3 + 1), u88], [], a87, J) r) : fl_dn fB63 (43, [.ref 0, .int i1, .int i2, .int i3, u4], [], M, J) r :=
 fl_td (s' := (46, [.ref 0, .int i1, .int i2, .int i3, u4], [.int 20, .int i3], M, J)) (fl_n 2 rfl) <|
 fl_dtwo (fl_ic (t := 120) rfl rfl) fl_cT (fun h1 =>
  (q1 h1)) (fun h1 =>
  fl_td (s' := (52, [.ref 0, .int i1, .int i2, .int i3, .int 0], [], M, J)) (fl_n 2 rfl) <|
  lp_63_52 i1 i2 i3 M J (fun c86 h3 => (e1 h1 c86 h3)) (fun a87 h2 u88 =>
   fl_td (s' := (43, [.ref 0, .int i1, .int i2, .int (i3 + 1), u88], [], a87, J)) (fl_n 2 rfl) <|
   (q2 h1 a87 h2 u88)))
theorem lp_63_43 {r : fl_Q} (i1 i2 : Int32) (u4 : Value) (M : fl_M) (J : fl_J) (hq : ∀ c, lr_63_43 i1 i2 M = .inl c → (some (.int c.1), c.2, J) = r) (hx : ∀ a, lr_63_43 i1 i2 M = .inr a → ∀ w3 w4 : Value, fl_dn fB63 (120, [.ref 0, .int i1, .int i2, w3, w4], [], a, J) r) : fl_dn fB63 (43, [.ref 0, .int i1, .int i2, .int 1, u4], [], M, J) r := by
  have hb : (20 : Int32).toNatClampNeg = 20 := rfl
  have key : ∀ (n m : Nat) (w4 : Value) (a : fl_M) (ha : lq_63_43 i1 i2 M m = .inr a), m + n = 20 → fl_dn fB63 (43, [.ref 0, .int i1, .int i2, .int (Int32.ofNat (1 + m)), w4], [], a, J) r := by
    intro n
    induction n with
    | zero =>
      intro m w4 a ha hm
      have hm : m = 20 := by omega
      have hn : 20 < (Int32.ofNat (1 + m)) := by exact (fi_gt (by decide) (by omega)).mpr (by omega)
      exact ts_63_43 i1 i2 (Int32.ofNat (1 + m)) w4 a J (fun h1 => hx a (by show lq_63_43 i1 i2 M (20) = _; rw [← hm]; exact ha) _ _) (fun h1 c86 h3 => absurd hn h1) (fun h1 a87 h2 u88 => absurd hn h1)
    | succ n ih =>
      intro m w4 a ha hm
      have hp : ¬ (20 < (Int32.ofNat (1 + m))) := fun z => by have z := (fi_gt (by decide) (by omega)).mp z; omega
      refine ts_63_43 i1 i2 (Int32.ofNat (1 + m)) w4 a J (fun h1 => absurd h1 hp) (fun h1 c86 h3 => ?_) (fun h1 a87 h2 u88 => ?_)
      · have e : lq_63_43 i1 i2 M (m + 1) = .inl (c86.1, c86.2) := lqs_63_43 i1 i2 M ha (by
          show (ls_63_43 i1 i2) m a = _
          unfold ls_63_43
          simp only [h3])
        have e : lq_63_43 i1 i2 M (20) = .inl (c86.1, c86.2) := ix_l e (by omega)
        exact hq _ e
      · have e : lq_63_43 i1 i2 M (m + 1) = .inr a87 := lqs_63_43 i1 i2 M ha (by
          show (ls_63_43 i1 i2) m a = _
          unfold ls_63_43
          simp only [h2])
        have q := ih (m + 1) u88 _ e (by omega)
        first | (rw [fi_s]; exact q) | (rw [← fi_s] at q; exact q) | (simp only [fi_s] at q ⊢; exact q)
  exact key (20) 0 u4 _ rfl (Nat.zero_add _)
def v_63 (l n : Int32) (M : fl_M) : Int32 := (if (l < 0) ∨ (¬ (l < (M 15 0))) then (-1) else (if n < 1 then (-1) else (if 20 < n then (-1) else (if (v_64 l n l 0 M) = 0 then (match (lr_63_43 l n (m_64 l n l 0 M)) with | .inl c89 => c89.1 | .inr a90 => (-9)) else 0))))
def m_63 (l n : Int32) (M : fl_M) : fl_M := (if (l < 0) ∨ (¬ (l < (M 15 0))) then M else (if n < 1 then M else (if 20 < n then M else (if (v_64 l n l 0 M) = 0 then (match (lr_63_43 l n (m_64 l n l 0 M)) with | .inl c89 => c89.2 | .inr a90 => a90) else (fl_u (m_64 l n l 0 M) 0 12 (-9))))))
theorem cc_63 (M : fl_M) (J : fl_J) (l n : Int32) : fl_C 63 [.ref 0, .int l, .int n] M J (some (.int (v_63 l n M)), (m_63 l n M), J) :=
 fl_Co (B := fB63) rfl rfl <|
 fl_td (s' := (2, [.ref 0, .int l, .int n, .null, .null], [.int l, .ref 0], M, J)) (fl_n 2 rfl) <|
 fl_td (s' := (5, [.ref 0, .int l, .int n, .null, .null], [.int (if (l < 0) ∨ (¬ (l < (M 15 0))) then 1 else 0)], M, J)) (fl_cv (o := some (.int (if (l < 0) ∨ (¬ (l < (M 15 0))) then 1 else 0))) rfl rfl rfl rfl (cc_25 M J l) rfl) <|
 fl_dtwo (fl_if (t := 19) rfl rfl) fl_b1 (fun h1 =>
  fl_td (s' := (20, [.ref 0, .int l, .int n, .null, .null], [.int (-1)], M, J)) (fl_n 1 rfl) <|
  fl_rt rfl (fun _ => rfl) (by unfold v_63 m_63; first | (simp only [if_pos h1]; done) | rfl)) (fun h1 =>
  fl_td (s' := (10, [.ref 0, .int l, .int n, .null, .null], [.int 1, .int n], M, J)) (fl_n 2 rfl) <|
  fl_dtwo (fl_ic (t := 19) rfl rfl) fl_cT (fun h2 =>
   fl_td (s' := (20, [.ref 0, .int l, .int n, .null, .null], [.int (-1)], M, J)) (fl_n 1 rfl) <|
   fl_rt rfl (fun _ => rfl) (by unfold v_63 m_63; first | (simp only [if_neg h1, if_pos h2]; done) | rfl)) (fun h2 =>
   fl_td (s' := (16, [.ref 0, .int l, .int n, .null, .null], [.int 20, .int n], M, J)) (fl_n 2 rfl) <|
   fl_dnot (fl_ic (t := 21) rfl rfl) fl_nle (fun h3 =>
    fl_td (s' := (20, [.ref 0, .int l, .int n, .null, .null], [.int (-1)], M, J)) (fl_n 1 rfl) <|
    fl_rt rfl (fun _ => rfl) (by unfold v_63 m_63; first | (simp only [if_neg h1, if_neg h2, if_pos h3]; done) | rfl)) (fun h3 =>
    fl_td (s' := (26, [.ref 0, .int l, .int n, .null, .null], [.int 0, .int l, .int n, .int l, .ref 0], M, J)) (fl_n 5 rfl) <|
    fl_td (s' := (29, [.ref 0, .int l, .int n, .null, .null], [.int (v_64 l n l 0 M)], (m_64 l n l 0 M), J)) (fl_cv (o := some (.int (v_64 l n l 0 M))) rfl rfl rfl rfl (cc_64 M J l n l 0) rfl) <|
    fx_gen (p := fun (MM84 : fl_M) => fl_dn fB63 (29, [.ref 0, .int l, .int n, .null, .null], [.int (v_64 l n l 0 M)], MM84, J) (some (.int (v_63 l n M)), (m_63 l n M), J)) (m_64 l n l 0 M) (fun MM84 eMM84 =>
     fl_dtwo (fl_if (t := 41) rfl rfl) fl_cT (fun h5 =>
      fl_td (s' := (43, [.ref 0, .int l, .int n, .int 1, .null], [], MM84, J)) (fl_n 2 rfl) <|
      lp_63_43 l n .null MM84 J (fun c89 h7 => by subst eMM84; unfold v_63 m_63; first | (simp only [if_neg h1, if_neg h2, if_neg h3, if_pos h5, h7]; done) | rfl) (fun a90 h6 u91 u92 =>
       fl_td (s' := (122, [.ref 0, .int l, .int n, u91, u92], [.int (-9)], a90, J)) (fl_n 1 rfl) <|
       fl_rt rfl (fun _ => rfl) (by subst eMM84; unfold v_63 m_63; first | (simp only [if_neg h1, if_neg h2, if_neg h3, if_pos h5, h6]; done) | rfl))) (fun h5 =>
      fl_td (s' := (35, [.ref 0, .int l, .int n, .null, .null], [.int (-9), .ref 0], MM84, J)) (fl_n 2 rfl) <|
      fl_td (s' := (38, [.ref 0, .int l, .int n, .null, .null], [.int 1], (fl_u MM84 0 12 (-9)), J)) (fl_cv (o := some (.int 1)) rfl rfl rfl rfl (cc_5 MM84 J (-9)) rfl) <|
      fl_td (s' := (40, [.ref 0, .int l, .int n, .null, .null], [.int 0], (fl_u MM84 0 12 (-9)), J)) (fl_n 2 rfl) <|
      fl_rt rfl (fun _ => rfl) (by subst eMM84; unfold v_63 m_63; first | (simp only [if_neg h1, if_neg h2, if_neg h3, if_neg h5]; done) | rfl))))))
