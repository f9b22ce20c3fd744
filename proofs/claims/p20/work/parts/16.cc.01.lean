def fB64 : sm_P := (fun pc => sm_ch sm_t64 pc, sm_Kn 2 6 none, fun x => sm_lk sm_ca2 x, some .boolean)
-- MiceRegisters.isSavedBy 28
def ls_64_28 (i1 : Int32) (m : Nat) (q : fl_M) : fl_M ⊕ fl_M := (if 0 < (q 27 i1.toNatClampNeg) then (.inr (m_46 0 24 q)) else (.inl q))
def lq_64_28 (i1 : Int32) (M : fl_M) (m : Nat) : fl_M ⊕ fl_M := fx_ix (ls_64_28 i1) m M
theorem lqs_64_28 (i1 : Int32) (M : fl_M) {m : Nat} {a : fl_M} {v : fl_M ⊕ fl_M} (h : lq_64_28 i1 M m = .inr a) (e : (ls_64_28 i1) m a = v) : lq_64_28 i1 M (m + 1) = v := by
  unfold lq_64_28 at h ⊢
  exact ix_s1 h e
def lr_64_28 (i1 i2 : Int32) (M : fl_M) : fl_M := fx_ib (lq_64_28 i1 M ((i2).toNatClampNeg))
theorem ts_64_28 {r : fl_Q} (i1 i2 i3 i4 i5 : Int32) (M : fl_M) (J : fl_J) (q1 : (i5 < i2) → (0 < (M 27 i1.toNatClampNeg)) → fl_dn fB64 (28, [.ref 0, .int i1, .int i2, .int i3, .int i4, .int (i5 + 1)], [], (m_46 0 24 M), J) r) (q2 : (i5 < i2) → (¬ (0 < (M 27 i1.toNatClampNeg))) → fl_dn fB64 (61, [.ref 0, .int i1, .int i2, .int i3, .int i4, .int i5], [], M, J) r) (q3 : (¬ (i5 < i2)) → fl_dn fB64 (61, [.ref 0, .int i1, .int i2, .int i3, .int i4, .int i5], [], M, J) r) : fl_dn fB64 (28, [.ref 0, .int i1, .int i2, .int i3, .int i4, .int i5], [], M, J) r :=
 fl_td (s' := (31, [.ref 0, .int i1, .int i2, .int i3, .int i4, .int i5], [.int i2, .int i5], M, J)) (fl_n 2 rfl) <|
 fl_dnot (fl_ic (t := 61) rfl rfl) fl_nlt (fun h1 =>
  fl_td (s' := (43, [.ref 0, .int i1, .int i2, .int i3, .int i4, .int i5], [.int (M 27 i1.toNatClampNeg)], M, J)) (fl_n 5 rfl) <|
  fl_dnot (fl_if (t := 61) rfl rfl) fl_nle (fun h2 =>
   fl_td (s' := (51, [.ref 0, .int i1, .int i2, .int i3, .int i4, .int i5], [.int 0, .ref 24], M, J)) (fl_n 3 rfl) <|
   fl_td (s' := (54, [.ref 0, .int i1, .int i2, .int i3, .int i4, .int i5], [.int ((lr_46_4 0 0 24 M).1)], (m_46 0 24 M), J)) (fl_cv (o := some (.int ((lr_46_4 0 0 24 M).1))) rfl rfl rfl rfl (cc_46 M J 0 24) rfl) <|
   fx_gen (p := fun (MM80 : fl_M) => fl_dn fB64 (54, [.ref 0, .int i1, .int i2, .int i3, .int i4, .int i5], [.int ((lr_46_4 0 0 24 M).1)], MM80, J) r) (m_46 0 24 M) (fun MM80 eMM80 =>
    fx_gen (p := fun (II81 : Int32) => fl_dn fB64 (54, [.ref 0, .int i1, .int i2, .int i3, .int i4, .int i5], [.int II81], MM80, J) r) ((lr_46_4 0 0 24 M).1) (fun II81 eII81 =>
     fl_td (s' := (28, [.ref 0, .int i1, .int i2, .int i3, .int i4, .int (i5 + 1)], [], MM80, J)) (fl_n 3 rfl) <|
     (by subst eMM80; subst eII81; exact (q1 h1 h2))))) (fun h2 =>
   (q2 h1 h2))) (fun h1 =>
  (q3 h1))
theorem lp_64_28 {r : fl_Q} (i1 i2 i3 i4 : Int32) (M : fl_M) (J : fl_J) (hx : ∀ w5 : Value, fl_dn fB64 (61, [.ref 0, .int i1, .int i2, .int i3, .int i4, w5], [], (lr_64_28 i1 i2 M), J) r) : fl_dn fB64 (28, [.ref 0, .int i1, .int i2, .int i3, .int i4, .int 0], [], M, J) r := by
  have hb := fi_bd i2
  have key : ∀ (n m : Nat) (a : fl_M) (ha : lq_64_28 i1 M m = .inr a), m + n = (i2).toNatClampNeg → fl_dn fB64 (28, [.ref 0, .int i1, .int i2, .int i3, .int i4, .int (Int32.ofNat m)], [], a, J) r := by
    intro n
    induction n with
    | zero =>
      intro m a ha hm
      have hm : m = (i2).toNatClampNeg := by omega
      have hn : ¬ ((Int32.ofNat m) < i2) := fun z => by have z := (fi_lt (by omega)).mp z; omega
      exact ts_64_28 i1 i2 i3 i4 (Int32.ofNat m) a J (fun h1 h2 => absurd h1 hn) (fun h1 h2 => absurd h1 hn) (fun h1 => (by have e : lr_64_28 i1 i2 M = a := (by show fx_ib (lq_64_28 i1 M ((i2).toNatClampNeg)) = _; rw [← hm, ha]; rfl); rw [e] at hx; exact hx _))
    | succ n ih =>
      intro m a ha hm
      have hp : (Int32.ofNat m) < i2 := by exact (fi_lt (by omega)).mpr (by omega)
      refine ts_64_28 i1 i2 i3 i4 (Int32.ofNat m) a J (fun h1 h2 => ?_) (fun h1 h2 => ?_) (fun h1 => absurd hp h1)
      · have e : lq_64_28 i1 M (m + 1) = .inr (m_46 0 24 a) := lqs_64_28 i1 M ha (by
          show (ls_64_28 i1) m a = _
          unfold ls_64_28
          simp only [if_pos h2])
        have q := ih (m + 1) _ e (by omega)
        first | (rw [fi_s]; exact q) | (rw [← fi_s] at q; exact q) | (simp only [fi_s] at q ⊢; exact q)
      · have e : lq_64_28 i1 M (m + 1) = .inl a := lqs_64_28 i1 M ha (by
          show (ls_64_28 i1) m a = _
          unfold ls_64_28
          simp only [if_neg h2])
        have e : lq_64_28 i1 M ((i2).toNatClampNeg) = .inl a := ix_l e (by omega)
        have e2 : lr_64_28 i1 i2 M = a := (by show fx_ib (lq_64_28 i1 M ((i2).toNatClampNeg)) = _; rw [e]; rfl)
        rw [e2] at hx
        exact hx _
  exact key ((i2).toNatClampNeg) 0 _ rfl (Nat.zero_add _)
def v_64 (l y ot mo : Int32) (M : fl_M) : Int32 := (if 0 < ((lr_64_28 l y (fl_u (m_23 24 15 M) 28 ot.toNatClampNeg (((m_23 24 15 M) 28 ot.toNatClampNeg) + mo))) 27 l.toNatClampNeg) then 1 else 0)
def m_64 (l y ot mo : Int32) (M : fl_M) : fl_M := (lr_64_28 l y (fl_u (m_23 24 15 M) 28 ot.toNatClampNeg (((m_23 24 15 M) 28 ot.toNatClampNeg) + mo)))
theorem cc_64 (M : fl_M) (J : fl_J) (l y ot mo : Int32) : fl_C 64 [.ref 0, .int l, .int y, .int ot, .int mo] M J (some (.int (v_64 l y ot mo M)), (m_64 l y ot mo M), J) :=
 fl_Co (B := fB64) rfl rfl <|
 fl_td (s' := (8, [.ref 0, .int l, .int y, .int ot, .int mo, .null], [.ref 15, .ref 24], M, J)) (fl_n 4 rfl) <|
 fl_td (s' := (11, [.ref 0, .int l, .int y, .int ot, .int mo, .null], [], (m_23 24 15 M), J)) (fl_cv (o := none) rfl rfl rfl rfl (cc_23 M J 24 15) rfl) <|
 fx_gen (p := fun (MM79 : fl_M) => fl_dn fB64 (11, [.ref 0, .int l, .int y, .int ot, .int mo, .null], [], MM79, J) (some (.int (v_64 l y ot mo M)), (m_64 l y ot mo M), J)) (m_23 24 15 M) (fun MM79 eMM79 =>
  fl_td (s' := (28, [.ref 0, .int l, .int y, .int ot, .int mo, .int 0], [], (fl_u MM79 28 ot.toNatClampNeg ((MM79 28 ot.toNatClampNeg) + mo)), J)) (fl_n 11 rfl) <|
  lp_64_28 l y ot mo (fl_u MM79 28 ot.toNatClampNeg ((MM79 28 ot.toNatClampNeg) + mo)) J (fun u82 =>
   fx_gen (p := fun (MM83 : fl_M) => fl_dn fB64 (61, [.ref 0, .int l, .int y, .int ot, .int mo, u82], [], MM83, J) (some (.int (v_64 l y ot mo M)), (m_64 l y ot mo M), J)) (lr_64_28 l y (fl_u MM79 28 ot.toNatClampNeg ((MM79 28 ot.toNatClampNeg) + mo))) (fun MM83 eMM83 =>
    fl_td (s' := (70, [.ref 0, .int l, .int y, .int ot, .int mo, u82], [.int (MM83 27 l.toNatClampNeg)], MM83, J)) (fl_n 5 rfl) <|
    fl_dnot (fl_if (t := 77) rfl rfl) fl_nle (fun h3 =>
     fl_td (s' := (78, [.ref 0, .int l, .int y, .int ot, .int mo, u82], [.int 1], MM83, J)) (fl_n 2 rfl) <|
     fl_rt rfl (fun _ => rfl) (by subst eMM79; subst eMM83; unfold v_64 m_64; first | (simp only [if_pos h3]; done) | rfl)) (fun h3 =>
     fl_td (s' := (78, [.ref 0, .int l, .int y, .int ot, .int mo, u82], [.int 0], MM83, J)) (fl_n 1 rfl) <|
     fl_rt rfl (fun _ => rfl) (by subst eMM79; subst eMM83; unfold v_64 m_64; first | (simp only [if_neg h3]; done) | rfl)))))
theorem fr_64_28 {i1 i2 : Int32} {M : fl_M} {c j : Nat} (hc : c < 24 ∨ 24 + 9 ≤ c) : (lr_64_28 i1 i2 M) c j = M c j := by
  have g0 : ¬ c = 24 := by omega
  have g1 : ¬ c = 24 + 1 := by omega
  have g2 : ¬ c = 24 + 2 := by omega
  have g3 : ¬ c = 24 + 3 := by omega
  have g4 : ¬ c = 24 + 4 := by omega
  have g5 : ¬ c = 24 + 5 := by omega
  have g6 : ¬ c = 24 + 6 := by omega
  have g7 : ¬ c = 24 + 7 := by omega
  have g8 : ¬ c = 24 + 8 := by omega
  unfold lr_64_28 lq_64_28
  refine ib_k (fun q : fl_M => q c j = M c j) rfl (fun m q d hq h => ?_)
  unfold ls_64_28 at h
  rcases h with h | h <;> (repeat' split at h) <;> first | (cases h; done) | (cases h; with_reducible exact hq) | (cases h; simp [fl_u, g0, g1, g2, g3, g4, g5, g6, g7, g8, fr_46 hc, hq]; done)
theorem fr_64 {l y ot mo : Int32} {M : fl_M} {c j : Nat} (hc : c < 24 ∨ 24 + 9 ≤ c) : (m_64 l y ot mo M) c j = M c j := by
  have g0 : ¬ c = 24 := by omega
  have g1 : ¬ c = 24 + 1 := by omega
  have g2 : ¬ c = 24 + 2 := by omega
  have g3 : ¬ c = 24 + 3 := by omega
  have g4 : ¬ c = 24 + 4 := by omega
  have g5 : ¬ c = 24 + 5 := by omega
  have g6 : ¬ c = 24 + 6 := by omega
  have g7 : ¬ c = 24 + 7 := by omega
  have g8 : ¬ c = 24 + 8 := by omega
  unfold m_64
  (try repeat' split) <;> first | with_reducible rfl | (simp [fl_u, g0, g1, g2, g3, g4, g5, g6, g7, g8, fr_64_28 hc, fr_23 hc]; done)
def fB63 : sm_P := (fun pc => sm_ch sm_t63 pc, sm_Kn 2 5 none, fun x => sm_lk sm_ca2 x, some .int)
-- MiceRegisters.save 52
def ls_63_52 (i1 i2 i3 : Int32) (m : Nat) (q : fl_M) : (Int32 × fl_M) ⊕ fl_M := (if (Int32.ofNat m) = i1 then (.inr q) else (if 20 < ((q 19 (Int32.ofNat m).toNatClampNeg) + i3) then (.inr q) else (if (v_64 i1 i2 (Int32.ofNat m) i3 q) = 0 then (.inr (m_64 i1 i2 (Int32.ofNat m) i3 q)) else (.inl (i3, (fl_u (m_64 i1 i2 (Int32.ofNat m) i3 q) 0 12 (Int32.ofNat m)))))))
def lq_63_52 (i1 i2 i3 : Int32) (M : fl_M) (m : Nat) : (Int32 × fl_M) ⊕ fl_M := fx_ix (ls_63_52 i1 i2 i3) m M
theorem lqs_63_52 (i1 i2 i3 : Int32) (M : fl_M) {m : Nat} {a : fl_M} {v : (Int32 × fl_M) ⊕ fl_M} (h : lq_63_52 i1 i2 i3 M m = .inr a) (e : (ls_63_52 i1 i2 i3) m a = v) : lq_63_52 i1 i2 i3 M (m + 1) = v := by
  unfold lq_63_52 at h ⊢
  exact ix_s1 h e
def lr_63_52 (i1 i2 i3 : Int32) (M : fl_M) : (Int32 × fl_M) ⊕ fl_M := (lq_63_52 i1 i2 i3 M (((M 15 0)).toNatClampNeg))
