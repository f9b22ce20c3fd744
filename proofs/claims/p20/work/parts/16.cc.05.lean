theorem ts_69_2 {r : fl_Q} (i1 i2 i3 : Int32) (M : fl_M) (J : fl_J) (q1 : (i3 < (M 1 i2.toNatClampNeg)) → (((m_46 0 24 M) 32 i1.toNatClampNeg) = ((m_46 0 24 M) (fl_ar 2 i2.toNatClampNeg) i3.toNatClampNeg)) → fl_dn fB69 (2, [.ref 0, .int i1, .int i2, .int (i3 + 1)], [], (m_46 0 24 M), J) r) (e1 : (i3 < (M 1 i2.toNatClampNeg)) → (¬ (((m_46 0 24 M) 32 i1.toNatClampNeg) = ((m_46 0 24 M) (fl_ar 2 i2.toNatClampNeg) i3.toNatClampNeg))) → (some (.int 0), (m_46 0 24 M), J) = r) (q2 : (¬ (i3 < (M 1 i2.toNatClampNeg))) → fl_dn fB69 (49, [.ref 0, .int i1, .int i2, .int i3], [], M, J) r) : fl_dn fB69 (2, [.ref 0, .int i1, .int i2, .int i3], [], M, J) r :=
 fl_td (s' := (9, [.ref 0, .int i1, .int i2, .int i3], [.int (M 1 i2.toNatClampNeg), .int i3], M, J)) (fl_n 5 rfl) <|
 fl_dnot (fl_ic (t := 49) rfl rfl) fl_nlt (fun h1 =>
  fl_td (s' := (17, [.ref 0, .int i1, .int i2, .int i3], [.int 0, .ref 24], M, J)) (fl_n 3 rfl) <|
  fl_td (s' := (20, [.ref 0, .int i1, .int i2, .int i3], [.int ((lr_46_4 0 0 24 M).1)], (m_46 0 24 M), J)) (fl_cv (o := some (.int ((lr_46_4 0 0 24 M).1))) rfl rfl rfl rfl (cc_46 M J 0 24) rfl) <|
  fx_gen (p := fun (MM104 : fl_M) => fl_dn fB69 (20, [.ref 0, .int i1, .int i2, .int i3], [.int ((lr_46_4 0 0 24 M).1)], MM104, J) r) (m_46 0 24 M) (fun MM104 eMM104 =>
   fx_gen (p := fun (II105 : Int32) => fl_dn fB69 (20, [.ref 0, .int i1, .int i2, .int i3], [.int II105], MM104, J) r) ((lr_46_4 0 0 24 M).1) (fun II105 eII105 =>
    fl_td (s' := (38, [.ref 0, .int i1, .int i2, .int i3], [.int (MM104 (fl_ar 2 i2.toNatClampNeg) i3.toNatClampNeg), .int (MM104 32 i1.toNatClampNeg)], MM104, J)) (fl_n 12 rfl) <|
    fl_dtwo (fl_ic (t := 43) rfl rfl) fl_cT (fun h3 =>
     fl_td (s' := (2, [.ref 0, .int i1, .int i2, .int (i3 + 1)], [], MM104, J)) (fl_n 2 rfl) <|
     (by subst eMM104; subst eII105; exact (q1 h1 h3))) (fun h3 =>
     fl_td (s' := (42, [.ref 0, .int i1, .int i2, .int i3], [.int 0], MM104, J)) (fl_n 1 rfl) <|
     fl_rt rfl (fun _ => rfl) (by subst eMM104; subst eII105; exact (e1 h1 h3)))))) (fun h1 =>
  (q2 h1))
theorem lk_69_2 (i1 i2 : Int32) (M : fl_M) (m : Nat) : ∀ a, lq_69_2 i1 i2 M m = .inr a → (a 1 i2.toNatClampNeg) = (M 1 i2.toNatClampNeg) := by
  induction m with
  | zero => intro a h; cases h; rfl
  | succ m ih =>
    intro a h
    obtain ⟨q, h1, h2⟩ := ix_s h
    rw [← ih q h1]
    unfold ls_69_2 at h2
    (repeat' split at h2) <;> first | (cases h2; done) | (cases h2; with_reducible rfl) | (cases h2; simp [fl_u, fr_22_18, fr_22_53, fr_23_42, fr_23_106, fr_23, fr_46_4, fr_46_100, fr_46, fr_45, fr_59_2, fr_44, fr_54_10, fr_51_9, fr_64_28, fr_64]; done)
theorem lp_69_2 {r : fl_Q} (i1 i2 : Int32) (M : fl_M) (J : fl_J) (hq : ∀ c, lr_69_2 i1 i2 M = .inl c → (some (.int c.1), c.2, J) = r) (hx : ∀ a, lr_69_2 i1 i2 M = .inr a → ∀ w3 : Value, fl_dn fB69 (49, [.ref 0, .int i1, .int i2, w3], [], a, J) r) : fl_dn fB69 (2, [.ref 0, .int i1, .int i2, .int 0], [], M, J) r := by
  have hb := fi_bd (M 1 i2.toNatClampNeg)
  have hB := fun m a h => lk_69_2 i1 i2 M m a h
  have key : ∀ (n m : Nat) (a : fl_M) (ha : lq_69_2 i1 i2 M m = .inr a), m + n = ((M 1 i2.toNatClampNeg)).toNatClampNeg → fl_dn fB69 (2, [.ref 0, .int i1, .int i2, .int (Int32.ofNat m)], [], a, J) r := by
    intro n
    induction n with
    | zero =>
      intro m a ha hm
      have hm : m = ((M 1 i2.toNatClampNeg)).toNatClampNeg := by omega
      have hn : ¬ ((Int32.ofNat m) < (a 1 i2.toNatClampNeg)) := fun z => by rw [hB m a ha] at z; have z := (fi_lt (by omega)).mp z; omega
      exact ts_69_2 i1 i2 (Int32.ofNat m) a J (fun h1 h3 => absurd h1 hn) (fun h1 h3 => absurd h1 hn) (fun h1 => hx a (by show lq_69_2 i1 i2 M (((M 1 i2.toNatClampNeg)).toNatClampNeg) = _; rw [← hm]; exact ha) _)
    | succ n ih =>
      intro m a ha hm
      have hp : (Int32.ofNat m) < (a 1 i2.toNatClampNeg) := by rw [hB m a ha]; exact (fi_lt (by omega)).mpr (by omega)
      refine ts_69_2 i1 i2 (Int32.ofNat m) a J (fun h1 h3 => ?_) (fun h1 h3 => ?_) (fun h1 => absurd hp h1)
      · have e : lq_69_2 i1 i2 M (m + 1) = .inr (m_46 0 24 a) := lqs_69_2 i1 i2 M ha (by
          show (ls_69_2 i1 i2) m a = _
          unfold ls_69_2
          simp only [if_pos h3])
        have q := ih (m + 1) _ e (by omega)
        first | (rw [fi_s]; exact q) | (rw [← fi_s] at q; exact q) | (simp only [fi_s] at q ⊢; exact q)
      · have e : lq_69_2 i1 i2 M (m + 1) = .inl (0, (m_46 0 24 a)) := lqs_69_2 i1 i2 M ha (by
          show (ls_69_2 i1 i2) m a = _
          unfold ls_69_2
          simp only [if_neg h3])
        have e : lq_69_2 i1 i2 M (((M 1 i2.toNatClampNeg)).toNatClampNeg) = .inl (0, (m_46 0 24 a)) := ix_l e (by omega)
        exact hq _ e
  exact key (((M 1 i2.toNatClampNeg)).toNatClampNeg) 0 _ rfl (Nat.zero_add _)
def v_69 (i r : Int32) (M : fl_M) : Int32 := (match (lr_69_2 i r M) with | .inl c106 => c106.1 | .inr a107 => 1)
def m_69 (i r : Int32) (M : fl_M) : fl_M := (match (lr_69_2 i r M) with | .inl c106 => c106.2 | .inr a107 => a107)
theorem cc_69 (M : fl_M) (J : fl_J) (i r : Int32) : fl_C 69 [.ref 0, .int i, .int r] M J (some (.int (v_69 i r M)), (m_69 i r M), J) :=
 fl_Co (B := fB69) rfl rfl <|
 fl_td (s' := (2, [.ref 0, .int i, .int r, .int 0], [], M, J)) (fl_n 2 rfl) <|
 lp_69_2 i r M J (fun c106 h2 => by unfold v_69 m_69; first | (simp only [h2]; done) | rfl) (fun a107 h1 u108 =>
  fl_td (s' := (50, [.ref 0, .int i, .int r, u108], [.int 1], a107, J)) (fl_n 1 rfl) <|
  fl_rt rfl (fun _ => rfl) (by unfold v_69 m_69; first | (simp only [h1]; done) | rfl))
theorem fr_69_2 {i1 i2 : Int32} {M : fl_M} {c j : Nat} (hc : c < 24 ∨ 24 + 9 ≤ c) : fx_pq (fun q : fl_M => q c j = M c j) (fun q : (Int32 × fl_M) => q.2 c j = M c j) (lr_69_2 i1 i2 M) := by
  have g0 : ¬ c = 24 := by omega
  have g1 : ¬ c = 24 + 1 := by omega
  have g2 : ¬ c = 24 + 2 := by omega
  have g3 : ¬ c = 24 + 3 := by omega
  have g4 : ¬ c = 24 + 4 := by omega
  have g5 : ¬ c = 24 + 5 := by omega
  have g6 : ¬ c = 24 + 6 := by omega
  have g7 : ¬ c = 24 + 7 := by omega
  have g8 : ¬ c = 24 + 8 := by omega
  unfold lr_69_2 lq_69_2
  refine ix_k (fun q : fl_M => q c j = M c j) (fun q : (Int32 × fl_M) => q.2 c j = M c j) rfl (fun m q hq => ?_)
  cases h : ls_69_2 i1 i2 m q with
  | inl d =>
    unfold ls_69_2 at h
    (repeat' split at h) <;> first | (cases h; done) | (cases h; with_reducible exact hq) | (cases h; simp [fx_pq, fl_u, g0, g1, g2, g3, g4, g5, g6, g7, g8, fr_46 hc, hq]; done)
  | inr d =>
    unfold ls_69_2 at h
    (repeat' split at h) <;> first | (cases h; done) | (cases h; with_reducible exact hq) | (cases h; simp [fx_pq, fl_u, g0, g1, g2, g3, g4, g5, g6, g7, g8, fr_46 hc, hq]; done)
theorem fr_69 {i r : Int32} {M : fl_M} {c j : Nat} (hc : c < 24 ∨ 24 + 9 ≤ c) : m_69 i r M c j = M c j := by
  have h := fr_69_2 (i1 := i) (i2 := r) (M := M) (j := j) hc
  unfold m_69
  cases e : lr_69_2 i r M with
  | inl q => rw [e] at h; exact h
  | inr q => rw [e] at h; exact h
def fB67 : sm_P := (fun pc => sm_ch sm_t67 pc, sm_Kn 2 6 none, fun x => sm_lk sm_ca2 x, some .int)
-- MiceRegisters.places 19
def ls_67_19 (i1 i2 : Int32) (m : Nat) (q : (Int32 × fl_M)) : (Int32 × fl_M) := (if (v_69 i1 i2 (fl_u (m_23 24 15 q.2) 32 i1.toNatClampNeg (Int32.ofNat m))) = 0 then (q.1, (m_69 i1 i2 (fl_u (m_23 24 15 q.2) 32 i1.toNatClampNeg (Int32.ofNat m)))) else ((q.1 ||| ((1 : Int32) <<< ((Int32.ofNat m) &&& 31))), (m_69 i1 i2 (fl_u (m_23 24 15 q.2) 32 i1.toNatClampNeg (Int32.ofNat m)))))
def lq_67_19 (i1 i2 i4 : Int32) (M : fl_M) (m : Nat) : (Int32 × fl_M) := fx_it (ls_67_19 i1 i2) m (i4, M)
theorem lqs_67_19 (i1 i2 i4 : Int32) (M : fl_M) (m : Nat) : lq_67_19 i1 i2 i4 M (m + 1) = (ls_67_19 i1 i2) m (lq_67_19 i1 i2 i4 M m) := by
  unfold lq_67_19
  exact fx_it_s _ _ _
def lr_67_19 (i1 i2 i4 : Int32) (M : fl_M) : (Int32 × fl_M) := (lq_67_19 i1 i2 i4 M (((M 15 0)).toNatClampNeg))
theorem ts_67_19 {r : fl_Q} (i1 i2 i3 i4 i5 : Int32) (M : fl_M) (J : fl_J) (q1 : (i5 < (M 15 0)) → ((v_69 i1 i2 (fl_u (m_23 24 15 M) 32 i1.toNatClampNeg i5)) = 0) → fl_dn fB67 (19, [.ref 0, .int i1, .int i2, .int i3, .int i4, .int (i5 + 1)], [], (m_69 i1 i2 (fl_u (m_23 24 15 M) 32 i1.toNatClampNeg i5)), J) r) (q2 : (i5 < (M 15 0)) → (¬ ((v_69 i1 i2 (fl_u (m_23 24 15 M) 32 i1.toNatClampNeg i5)) = 0)) → fl_dn fB67 (19, [.ref 0, .int i1, .int i2, .int i3, .int (i4 ||| ((1 : Int32) <<< (i5 &&& 31))), .int (i5 + 1)], [], (m_69 i1 i2 (fl_u (m_23 24 15 M) 32 i1.toNatClampNeg i5)), J) r) (q3 : (¬ (i5 < (M 15 0))) → fl_dn fB67 (77, [.ref 0, .int i1, .int i2, .int i3, .int i4, .int i5], [], M, J) r) : fl_dn fB67 (19, [.ref 0, .int i1, .int i2, .int i3, .int i4, .int i5], [], M, J) r :=
 fl_td (s' := (28, [.ref 0, .int i1, .int i2, .int i3, .int i4, .int i5], [.int (M 15 0), .int i5], M, J)) (fl_n 4 rfl) <|
 fl_dnot (fl_ic (t := 77) rfl rfl) fl_nlt (fun h1 =>
  fl_td (s' := (39, [.ref 0, .int i1, .int i2, .int i3, .int i4, .int i5], [.ref 15, .ref 24], M, J)) (fl_n 4 rfl) <|
  fl_td (s' := (42, [.ref 0, .int i1, .int i2, .int i3, .int i4, .int i5], [], (m_23 24 15 M), J)) (fl_cv (o := none) rfl rfl rfl rfl (cc_23 M J 24 15) rfl) <|
  fx_gen (p := fun (MM110 : fl_M) => fl_dn fB67 (42, [.ref 0, .int i1, .int i2, .int i3, .int i4, .int i5], [], MM110, J) r) (m_23 24 15 M) (fun MM110 eMM110 =>
   fl_td (s' := (56, [.ref 0, .int i1, .int i2, .int i3, .int i4, .int i5], [.int i2, .int i1, .ref 0], (fl_u MM110 32 i1.toNatClampNeg i5), J)) (fl_n 9 rfl) <|
   fl_td (s' := (59, [.ref 0, .int i1, .int i2, .int i3, .int i4, .int i5], [.int (v_69 i1 i2 (fl_u MM110 32 i1.toNatClampNeg i5))], (m_69 i1 i2 (fl_u MM110 32 i1.toNatClampNeg i5)), J)) (fl_cv (o := some (.int (v_69 i1 i2 (fl_u MM110 32 i1.toNatClampNeg i5)))) rfl rfl rfl rfl (cc_69 (fl_u MM110 32 i1.toNatClampNeg i5) J i1 i2) rfl) <|
   fx_gen (p := fun (MM111 : fl_M) => fl_dn fB67 (59, [.ref 0, .int i1, .int i2, .int i3, .int i4, .int i5], [.int (v_69 i1 i2 (fl_u MM110 32 i1.toNatClampNeg i5))], MM111, J) r) (m_69 i1 i2 (fl_u MM110 32 i1.toNatClampNeg i5)) (fun MM111 eMM111 =>
    fl_dtwo (fl_if (t := 71) rfl rfl) fl_cT (fun h4 =>
     fl_td (s' := (19, [.ref 0, .int i1, .int i2, .int i3, .int i4, .int (i5 + 1)], [], MM111, J)) (fl_n 2 rfl) <|
     (by subst eMM110; subst eMM111; exact (q1 h1 h4))) (fun h4 =>
     fl_td (s' := (19, [.ref 0, .int i1, .int i2, .int i3, .int (i4 ||| ((1 : Int32) <<< (i5 &&& 31))), .int (i5 + 1)], [], MM111, J)) (fl_n 8 rfl) <|
     (by subst eMM110; subst eMM111; exact (q2 h1 h4)))))) (fun h1 =>
  (q3 h1))
theorem lk_67_19 (i1 i2 i4 : Int32) (M : fl_M) (m : Nat) : (((lq_67_19 i1 i2 i4 M m).2) 15 0) = (M 15 0) := by
  induction m with
  | zero => rfl
  | succ m ih =>
    rw [← ih]
    rw [lqs_67_19]
    generalize lq_67_19 i1 i2 i4 M m = q
    unfold ls_67_19
    (repeat' split) <;> first | with_reducible rfl | (simp [fl_u, fr_22_18, fr_22_53, fr_23_42, fr_23_106, fr_23, fr_46_4, fr_46_100, fr_46, fr_45, fr_59_2, fr_44, fr_54_10, fr_51_9, fr_64_28, fr_64, fr_69]; done) | rfl
theorem lp_67_19 {r : fl_Q} (i1 i2 i3 i4 : Int32) (M : fl_M) (J : fl_J) (hx : ∀ w5 : Value, fl_dn fB67 (77, [.ref 0, .int i1, .int i2, .int i3, .int ((lr_67_19 i1 i2 i4 M).1), w5], [], ((lr_67_19 i1 i2 i4 M).2), J) r) : fl_dn fB67 (19, [.ref 0, .int i1, .int i2, .int i3, .int i4, .int 0], [], M, J) r := by
  have hb := fi_bd (M 15 0)
  have hB := fun m => lk_67_19 i1 i2 i4 M m
  have key : ∀ (n m : Nat), m + n = ((M 15 0)).toNatClampNeg → fl_dn fB67 (19, [.ref 0, .int i1, .int i2, .int i3, .int ((lq_67_19 i1 i2 i4 M m).1), .int (Int32.ofNat m)], [], ((lq_67_19 i1 i2 i4 M m).2), J) r := by
    intro n
    induction n with
    | zero =>
      intro m hm
      have hm : m = ((M 15 0)).toNatClampNeg := by omega
      have hn : ¬ ((Int32.ofNat m) < (((lq_67_19 i1 i2 i4 M m).2) 15 0)) := fun z => by rw [hB m] at z; have z := (fi_lt (by omega)).mp z; omega
      exact ts_67_19 i1 i2 i3 ((lq_67_19 i1 i2 i4 M m).1) (Int32.ofNat m) ((lq_67_19 i1 i2 i4 M m).2) J (fun h1 h4 => absurd h1 hn) (fun h1 h4 => absurd h1 hn) (fun h1 => (by have e : lr_67_19 i1 i2 i4 M = lq_67_19 i1 i2 i4 M m := (by show lq_67_19 i1 i2 i4 M (((M 15 0)).toNatClampNeg) = _; rw [← hm]); rw [e] at hx; exact hx _))
    | succ n ih =>
      intro m hm
      have hp : (Int32.ofNat m) < (((lq_67_19 i1 i2 i4 M m).2) 15 0) := by rw [hB m]; exact (fi_lt (by omega)).mpr (by omega)
      refine ts_67_19 i1 i2 i3 ((lq_67_19 i1 i2 i4 M m).1) (Int32.ofNat m) ((lq_67_19 i1 i2 i4 M m).2) J (fun h1 h4 => ?_) (fun h1 h4 => ?_) (fun h1 => absurd hp h1)
      · have e : lq_67_19 i1 i2 i4 M (m + 1) = (((lq_67_19 i1 i2 i4 M m).1), (m_69 i1 i2 (fl_u (m_23 24 15 ((lq_67_19 i1 i2 i4 M m).2)) 32 i1.toNatClampNeg (Int32.ofNat m)))) := by
          rw [lqs_67_19]
          unfold ls_67_19
          simp only [if_pos h4]
        have q := ih (m + 1) (by omega)
        rw [e] at q
        first | (rw [fi_s]; exact q) | (rw [← fi_s] at q; exact q) | (simp only [fi_s] at q ⊢; exact q)
      · have e : lq_67_19 i1 i2 i4 M (m + 1) = ((((lq_67_19 i1 i2 i4 M m).1) ||| ((1 : Int32) <<< ((Int32.ofNat m) &&& 31))), (m_69 i1 i2 (fl_u (m_23 24 15 ((lq_67_19 i1 i2 i4 M m).2)) 32 i1.toNatClampNeg (Int32.ofNat m)))) := by
          rw [lqs_67_19]
          unfold ls_67_19
          simp only [if_neg h4]
        have q := ih (m + 1) (by omega)
        rw [e] at q
        first | (rw [fi_s]; exact q) | (rw [← fi_s] at q; exact q) | (simp only [fi_s] at q ⊢; exact q)
  exact key (((M 15 0)).toNatClampNeg) 0 (Nat.zero_add _)
