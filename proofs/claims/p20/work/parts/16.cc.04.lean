def fB68 : sm_P := (fun pc => sm_ch sm_t68 pc, sm_Kn 2 5 none, fun x => sm_lk sm_ca2 x, some .int)
-- MiceRegisters.refusalOfTrace 55
def ls_68_55 (i2 : Int32) (M : fl_M) (m : Nat) (q : Unit) : (Int32 × fl_M) ⊕ Unit := (if ((M (fl_ar 2 i2.toNatClampNeg) (Int32.ofNat m).toNatClampNeg) < 0) ∨ (¬ ((M (fl_ar 2 i2.toNatClampNeg) (Int32.ofNat m).toNatClampNeg) < (M 15 0))) then (.inl ((-3), (fl_u (fl_u M 0 11 3) 80 3 ((M 80 3) + 1)))) else (.inr ()))
def lq_68_55 (i2 : Int32) (M : fl_M) (m : Nat) : (Int32 × fl_M) ⊕ Unit := fx_ix (ls_68_55 i2 M) m ()
theorem lqs_68_55 (i2 : Int32) (M : fl_M) {m : Nat} {a : Unit} {v : (Int32 × fl_M) ⊕ Unit} (h : lq_68_55 i2 M m = .inr a) (e : (ls_68_55 i2 M) m a = v) : lq_68_55 i2 M (m + 1) = v := by
  unfold lq_68_55 at h ⊢
  exact ix_s1 h e
def lr_68_55 (i2 i3 : Int32) (M : fl_M) : (Int32 × fl_M) ⊕ Unit := (lq_68_55 i2 M ((i3).toNatClampNeg))
theorem ts_68_55 {r : fl_Q} (i1 i2 i3 i4 : Int32) (M : fl_M) (J : fl_J) (e1 : (i4 < i3) → (((M (fl_ar 2 i2.toNatClampNeg) i4.toNatClampNeg) < 0) ∨ (¬ ((M (fl_ar 2 i2.toNatClampNeg) i4.toNatClampNeg) < (M 15 0)))) → (some (.int (-3)), (fl_u (fl_u M 0 11 3) 80 3 ((M 80 3) + 1)), J) = r) (q1 : (i4 < i3) → (¬ (((M (fl_ar 2 i2.toNatClampNeg) i4.toNatClampNeg) < 0) ∨ (¬ ((M (fl_ar 2 i2.toNatClampNeg) i4.toNatClampNeg) < (M 15 0))))) → fl_dn fB68 (55, [.ref 0, .int i1, .int i2, .int i3, .int (i4 + 1)], [], M, J) r) (q2 : (¬ (i4 < i3)) → fl_dn fB68 (89, [.ref 0, .int i1, .int i2, .int i3, .int i4], [], M, J) r) : fl_dn fB68 (55, [.ref 0, .int i1, .int i2, .int i3, .int i4], [], M, J) r :=
 fl_td (s' := (58, [.ref 0, .int i1, .int i2, .int i3, .int i4], [.int i3, .int i4], M, J)) (fl_n 2 rfl) <|
 fl_dnot (fl_ic (t := 89) rfl rfl) fl_nlt (fun h1 =>
  fl_td (s' := (71, [.ref 0, .int i1, .int i2, .int i3, .int i4], [.int (M (fl_ar 2 i2.toNatClampNeg) i4.toNatClampNeg), .ref 0], M, J)) (fl_n 7 rfl) <|
  fl_td (s' := (74, [.ref 0, .int i1, .int i2, .int i3, .int i4], [.int (if ((M (fl_ar 2 i2.toNatClampNeg) i4.toNatClampNeg) < 0) ∨ (¬ ((M (fl_ar 2 i2.toNatClampNeg) i4.toNatClampNeg) < (M 15 0))) then 1 else 0)], M, J)) (fl_cv (o := some (.int (if ((M (fl_ar 2 i2.toNatClampNeg) i4.toNatClampNeg) < 0) ∨ (¬ ((M (fl_ar 2 i2.toNatClampNeg) i4.toNatClampNeg) < (M 15 0))) then 1 else 0))) rfl rfl rfl rfl (cc_25 M J (M (fl_ar 2 i2.toNatClampNeg) i4.toNatClampNeg)) rfl) <|
  fl_dnot (fl_if (t := 83) rfl rfl) fl_b0 (fun h2 =>
   fl_td (s' := (79, [.ref 0, .int i1, .int i2, .int i3, .int i4], [.int 3, .ref 0], M, J)) (fl_n 2 rfl) <|
   fl_td (s' := (82, [.ref 0, .int i1, .int i2, .int i3, .int i4], [.int (-3)], (fl_u (fl_u M 0 11 3) 80 3 ((M 80 3) + 1)), J)) (fl_cv (o := some (.int (-3))) rfl rfl rfl rfl (cc_2 M J 3) rfl) <|
   fl_rt rfl (fun _ => rfl) (e1 h1 h2)) (fun h2 =>
   fl_td (s' := (55, [.ref 0, .int i1, .int i2, .int i3, .int (i4 + 1)], [], M, J)) (fl_n 2 rfl) <|
   (q1 h1 h2))) (fun h1 =>
  (q2 h1))
theorem lp_68_55 {r : fl_Q} (i1 i2 i3 : Int32) (M : fl_M) (J : fl_J) (hq : ∀ c, lr_68_55 i2 i3 M = .inl c → (some (.int c.1), c.2, J) = r) (hx : ∀ a, lr_68_55 i2 i3 M = .inr a → ∀ w4 : Value, fl_dn fB68 (89, [.ref 0, .int i1, .int i2, .int i3, w4], [], M, J) r) : fl_dn fB68 (55, [.ref 0, .int i1, .int i2, .int i3, .int 0], [], M, J) r := by
  have hb := fi_bd i3
  have key : ∀ (n m : Nat) (a : Unit) (ha : lq_68_55 i2 M m = .inr a), m + n = (i3).toNatClampNeg → fl_dn fB68 (55, [.ref 0, .int i1, .int i2, .int i3, .int (Int32.ofNat m)], [], M, J) r := by
    intro n
    induction n with
    | zero =>
      intro m a ha hm
      have hm : m = (i3).toNatClampNeg := by omega
      have hn : ¬ ((Int32.ofNat m) < i3) := fun z => by have z := (fi_lt (by omega)).mp z; omega
      exact ts_68_55 i1 i2 i3 (Int32.ofNat m) M J (fun h1 h2 => absurd h1 hn) (fun h1 h2 => absurd h1 hn) (fun h1 => hx a (by show lq_68_55 i2 M ((i3).toNatClampNeg) = _; rw [← hm]; exact ha) _)
    | succ n ih =>
      intro m a ha hm
      have hp : (Int32.ofNat m) < i3 := by exact (fi_lt (by omega)).mpr (by omega)
      refine ts_68_55 i1 i2 i3 (Int32.ofNat m) M J (fun h1 h2 => ?_) (fun h1 h2 => ?_) (fun h1 => absurd hp h1)
      · have e : lq_68_55 i2 M (m + 1) = .inl ((-3), (fl_u (fl_u M 0 11 3) 80 3 ((M 80 3) + 1))) := lqs_68_55 i2 M ha (by
          show (ls_68_55 i2 M) m a = _
          unfold ls_68_55
          simp only [if_pos h2])
        have e : lq_68_55 i2 M ((i3).toNatClampNeg) = .inl ((-3), (fl_u (fl_u M 0 11 3) 80 3 ((M 80 3) + 1))) := ix_l e (by omega)
        exact hq _ e
      · have e : lq_68_55 i2 M (m + 1) = .inr () := lqs_68_55 i2 M ha (by
          show (ls_68_55 i2 M) m a = _
          unfold ls_68_55
          simp only [if_neg h2])
        have q := ih (m + 1) _ e (by omega)
        first | (rw [fi_s]; exact q) | (rw [← fi_s] at q; exact q) | (simp only [fi_s] at q ⊢; exact q)
  exact key ((i3).toNatClampNeg) 0 _ rfl (Nat.zero_add _)
def v_68 (i r : Int32) (M : fl_M) : Int32 := (if (i < 0) ∨ (¬ (i < (M 15 1))) then (-1) else (if (r < 0) ∨ (¬ (r < 6)) then (-1) else (if (M 1 r.toNatClampNeg) = (-1) then (-3) else (if (M 1 r.toNatClampNeg) < 1 then (-3) else (if 10 < (M 1 r.toNatClampNeg) then (-3) else (match (lr_68_55 r (M 1 r.toNatClampNeg) M) with | .inl c101 => c101.1 | .inr a102 => 0))))))
def m_68 (i r : Int32) (M : fl_M) : fl_M := (if (i < 0) ∨ (¬ (i < (M 15 1))) then M else (if (r < 0) ∨ (¬ (r < 6)) then M else (if (M 1 r.toNatClampNeg) = (-1) then (fl_u (fl_u M 0 11 1) 80 1 ((M 80 1) + 1)) else (if (M 1 r.toNatClampNeg) < 1 then (fl_u (fl_u M 0 11 5) 80 5 ((M 80 5) + 1)) else (if 10 < (M 1 r.toNatClampNeg) then (fl_u (fl_u M 0 11 5) 80 5 ((M 80 5) + 1)) else (match (lr_68_55 r (M 1 r.toNatClampNeg) M) with | .inl c101 => c101.2 | .inr a102 => M))))))
theorem cc_68 (M : fl_M) (J : fl_J) (i r : Int32) : fl_C 68 [.ref 0, .int i, .int r] M J (some (.int (v_68 i r M)), (m_68 i r M), J) :=
 fl_Co (B := fB68) rfl rfl <|
 fl_td (s' := (2, [.ref 0, .int i, .int r, .null, .null], [.int i, .ref 0], M, J)) (fl_n 2 rfl) <|
 fl_td (s' := (5, [.ref 0, .int i, .int r, .null, .null], [.int (if (i < 0) ∨ (¬ (i < (M 15 1))) then 1 else 0)], M, J)) (fl_cv (o := some (.int (if (i < 0) ∨ (¬ (i < (M 15 1))) then 1 else 0))) rfl rfl rfl rfl (cc_33 M J i) rfl) <|
 fl_dtwo (fl_if (t := 15) rfl rfl) fl_b1 (fun h1 =>
  fl_td (s' := (16, [.ref 0, .int i, .int r, .null, .null], [.int (-1)], M, J)) (fl_n 1 rfl) <|
  fl_rt rfl (fun _ => rfl) (by unfold v_68 m_68; first | (simp only [if_pos h1]; done) | rfl)) (fun h1 =>
  fl_td (s' := (9, [.ref 0, .int i, .int r, .null, .null], [.int r], M, J)) (fl_n 1 rfl) <|
  fl_td (s' := (12, [.ref 0, .int i, .int r, .null, .null], [.int (if (r < 0) ∨ (¬ (r < 6)) then 1 else 0)], M, J)) (fl_cs (o := some (.int (if (r < 0) ∨ (¬ (r < 6)) then 1 else 0))) rfl rfl rfl (cc_1 M J r) rfl) <|
  fl_dnot (fl_if (t := 17) rfl rfl) fl_b0 (fun h2 =>
   fl_td (s' := (16, [.ref 0, .int i, .int r, .null, .null], [.int (-1)], M, J)) (fl_n 1 rfl) <|
   fl_rt rfl (fun _ => rfl) (by unfold v_68 m_68; first | (simp only [if_neg h1, if_pos h2]; done) | rfl)) (fun h2 =>
   fl_td (s' := (26, [.ref 0, .int i, .int r, .int (M 1 r.toNatClampNeg), .null], [.int (-1), .int (M 1 r.toNatClampNeg)], M, J)) (fl_n 7 rfl) <|
   fl_dnot (fl_ic (t := 35) rfl rfl) fl_cF (fun h3 =>
    fl_td (s' := (31, [.ref 0, .int i, .int r, .int (M 1 r.toNatClampNeg), .null], [.int 1, .ref 0], M, J)) (fl_n 2 rfl) <|
    fl_td (s' := (34, [.ref 0, .int i, .int r, .int (M 1 r.toNatClampNeg), .null], [.int (-3)], (fl_u (fl_u M 0 11 1) 80 1 ((M 80 1) + 1)), J)) (fl_cv (o := some (.int (-3))) rfl rfl rfl rfl (cc_2 M J 1) rfl) <|
    fl_rt rfl (fun _ => rfl) (by unfold v_68 m_68; first | (simp only [if_neg h1, if_neg h2, if_pos h3]; done) | rfl)) (fun h3 =>
    fl_td (s' := (37, [.ref 0, .int i, .int r, .int (M 1 r.toNatClampNeg), .null], [.int 1, .int (M 1 r.toNatClampNeg)], M, J)) (fl_n 2 rfl) <|
    fl_dtwo (fl_ic (t := 46) rfl rfl) fl_cT (fun h4 =>
     fl_td (s' := (48, [.ref 0, .int i, .int r, .int (M 1 r.toNatClampNeg), .null], [.int 5, .ref 0], M, J)) (fl_n 2 rfl) <|
     fl_td (s' := (51, [.ref 0, .int i, .int r, .int (M 1 r.toNatClampNeg), .null], [.int (-3)], (fl_u (fl_u M 0 11 5) 80 5 ((M 80 5) + 1)), J)) (fl_cv (o := some (.int (-3))) rfl rfl rfl rfl (cc_2 M J 5) rfl) <|
     fl_rt rfl (fun _ => rfl) (by unfold v_68 m_68; first | (simp only [if_neg h1, if_neg h2, if_neg h3, if_pos h4]; done) | rfl)) (fun h4 =>
     fl_td (s' := (43, [.ref 0, .int i, .int r, .int (M 1 r.toNatClampNeg), .null], [.int 10, .int (M 1 r.toNatClampNeg)], M, J)) (fl_n 2 rfl) <|
     fl_dnot (fl_ic (t := 52) rfl rfl) fl_nle (fun h5 =>
      fl_td (s' := (48, [.ref 0, .int i, .int r, .int (M 1 r.toNatClampNeg), .null], [.int 5, .ref 0], M, J)) (fl_n 2 rfl) <|
      fl_td (s' := (51, [.ref 0, .int i, .int r, .int (M 1 r.toNatClampNeg), .null], [.int (-3)], (fl_u (fl_u M 0 11 5) 80 5 ((M 80 5) + 1)), J)) (fl_cv (o := some (.int (-3))) rfl rfl rfl rfl (cc_2 M J 5) rfl) <|
      fl_rt rfl (fun _ => rfl) (by unfold v_68 m_68; first | (simp only [if_neg h1, if_neg h2, if_neg h3, if_neg h4, if_pos h5]; done) | rfl)) (fun h5 =>
      fl_td (s' := (55, [.ref 0, .int i, .int r, .int (M 1 r.toNatClampNeg), .int 0], [], M, J)) (fl_n 2 rfl) <|
      lp_68_55 i r (M 1 r.toNatClampNeg) M J (fun c101 h7 => by unfold v_68 m_68; first | (simp only [if_neg h1, if_neg h2, if_neg h3, if_neg h4, if_neg h5, h7]; done) | rfl) (fun a102 h6 u103 =>
       fl_td (s' := (90, [.ref 0, .int i, .int r, .int (M 1 r.toNatClampNeg), u103], [.int 0], M, J)) (fl_n 1 rfl) <|
       fl_rt rfl (fun _ => rfl) (by unfold v_68 m_68; first | (simp only [if_neg h1, if_neg h2, if_neg h3, if_neg h4, if_neg h5, h6]; done) | rfl)))))))
def fB69 : sm_P := (fun pc => sm_ch sm_t69 pc, sm_Kn 2 4 none, fun x => sm_lk sm_ca2 x, some .boolean)
-- MiceRegisters.goesAsRow 2
def ls_69_2 (i1 i2 : Int32) (m : Nat) (q : fl_M) : (Int32 × fl_M) ⊕ fl_M := (if ((m_46 0 24 q) 32 i1.toNatClampNeg) = ((m_46 0 24 q) (fl_ar 2 i2.toNatClampNeg) (Int32.ofNat m).toNatClampNeg) then (.inr (m_46 0 24 q)) else (.inl (0, (m_46 0 24 q))))
def lq_69_2 (i1 i2 : Int32) (M : fl_M) (m : Nat) : (Int32 × fl_M) ⊕ fl_M := fx_ix (ls_69_2 i1 i2) m M
theorem lqs_69_2 (i1 i2 : Int32) (M : fl_M) {m : Nat} {a : fl_M} {v : (Int32 × fl_M) ⊕ fl_M} (h : lq_69_2 i1 i2 M m = .inr a) (e : (ls_69_2 i1 i2) m a = v) : lq_69_2 i1 i2 M (m + 1) = v := by
  unfold lq_69_2 at h ⊢
  exact ix_s1 h e
def lr_69_2 (i1 i2 : Int32) (M : fl_M) : (Int32 × fl_M) ⊕ fl_M := (lq_69_2 i1 i2 M (((M 1 i2.toNatClampNeg)).toNatClampNeg))
