/-! Undone, kept, gone on from. -/
theorem ix_r {α γ : Type} {f : Nat → α → γ ⊕ α} {g : Nat → α → α} (h : ∀ m q, f m q = .inr (g m q)) (n : Nat) (a : α) : fx_ix f n a = .inr (fx_it g n a) := by
  induction n with
  | zero => rfl
  | succ n ih => exact ix_s1 ih (h n _)
theorem un_e {R : fl_M} {n many : Int32} {k : Nat} (hk : n.toInt = k) (h4 : k ≤ 40) (hm : 0 < many) : ∀ c j, lr_154_29 n many R c j = if c = 82 ∧ 1 ≤ j ∧ j < 1 + 23 then R 82 (24 + 23 * k + (j - 1)) else R c j := by
  unfold lr_154_29 lq_154_29
  rw [ix_r (g := fun m q => fl_u q 82 ((1 + (Int32.ofNat m)).toNatClampNeg) (q 82 (((24 + (23 * n)) + (Int32.ofNat m)).toNatClampNeg))) (fun m q => by unfold ls_154_29; rw [if_pos hm])]
  unfold fx_ib
  dsimp only
  refine cp_it (fun m q hm' hq => ?_) (Or.inl (by omega))
  have em := fi_ti (m := m) (by omega)
  have e1 : (23 * n : Int32).toInt = ((23 * k : Nat) : Int) := by
    rw [fi_mul (by rw [hk, show (23 : Int32).toInt = 23 from rfl]; omega) (by rw [hk, show (23 : Int32).toInt = 23 from rfl]; omega), hk, show (23 : Int32).toInt = 23 from rfl]
    omega
  have e2 := fj_pa (x := 24) (y := 23 * n) (a := 24) (c := 23 * k) rfl e1 (by omega)
  have e3 := fj_pa (x := 24 + 23 * n) (y := Int32.ofNat m) e2 em (by omega)
  have e4 := fj_pa (x := 1) (y := Int32.ofNat m) (a := 1) (c := m) rfl em (by omega)
  show fl_u q 82 ((1 + (Int32.ofNat m)).toNatClampNeg) (q 82 (((24 + (23 * n)) + (Int32.ofNat m)).toNatClampNeg)) = _
  rw [fj_nn e3, fj_nn e4]
theorem un_0 {R : fl_M} {n many : Int32} (hm : ¬ 0 < many) : lr_154_29 n many R = R := by
  unfold lr_154_29 lq_154_29
  have e : fx_ix (ls_154_29 n many) 1 R = .inl R := ix_s1 (m := 0) (b := R) rfl (by unfold ls_154_29; rw [if_neg hm])
  rw [ix_l e (by decide)]
  rfl
theorem un_p {C R : fl_M} (h : tt C R) (n : Int32) : (¬ n = C 42 0 → v_50 n C = v_154 n R) ∧ tt (m_50 n C) (m_154 n R) := by
  obtain ⟨a0, a1, s1, s4, sd, d0, d4⟩ := tt_n h
  have ed := fi_cl (C 42 0)
  have en := fi_cl n
  unfold v_50 v_154 m_50 m_154
  rw [← sd]
  by_cases c1 : n < 0
  · simp only [if_pos c1, if_neg (fun z : (¬ (n < 0)) ∧ (¬ (C 42 0 < n)) => z.1 c1)]
    exact ⟨fun _ => trivial, h⟩
  · simp only [if_neg c1]
    have n0 := fi_ge.mp c1
    rw [fi_i0] at n0
    by_cases c2 : n < C 42 0
    · have n2 := fi_l.mp c2
      have c3 : ¬ C 42 0 < n := fun z => by rw [fi_l] at z; omega
      simp only [if_pos c2, if_pos (⟨c1, c3⟩ : (¬ (n < 0)) ∧ (¬ (C 42 0 < n)))]
      refine ⟨fun _ => trivial, ?_⟩
      have hmany : 0 < C 42 0 - n := by rw [fi_l, fi_i0, fi_sub (by omega) (by omega)]; omega
      have eR := un_e (R := R) (n := n) (many := C 42 0 - n) (k := n.toNatClampNeg) (by omega) (by omega) hmany
      obtain ⟨t1, ⟨k1, k2, k3, k4⟩, t3, t4⟩ := h
      obtain ⟨hw, hf⟩ := k4 t3
      have h8 := tr_n t1
      -- the reference
      obtain ⟨R', hR'⟩ : ∃ R' : fl_M, R' = fl_u (lr_154_29 n (C 42 0 - n) R) 82 0 n := ⟨_, rfl⟩
      rw [← hR']
      have q : ∀ c, c ≠ 82 → R' c = R c := fun c hc => by funext j; rw [hR', fl_uo (Or.inl hc), eR, if_neg (fun z => hc z.1)]
      have q0 : R' 82 0 = n := by rw [hR', fl_us]
      have q1 : ∀ j, 1 ≤ j → j < 24 → R' 82 j = R 82 (23 + 23 * n.toNatClampNeg + j) := fun j h1 h2 => by
        rw [hR', fl_uo (Or.inr (by omega)), eR, if_pos ⟨rfl, by omega, by omega⟩, show 24 + 23 * n.toNatClampNeg + (j - 1) = 23 + 23 * n.toNatClampNeg + j by omega]
      have q2 : ∀ j, 24 ≤ j → R' 82 j = R 82 j := fun j h1 => by
        rw [hR', fl_uo (Or.inr (by omega)), eR, if_neg (by omega)]
      -- the class
      obtain ⟨E, hE⟩ : ∃ E : fl_M, E = fl_u C 42 0 n := ⟨_, rfl⟩
      have eE : ∀ c, c ≠ 42 → E c = C c := fun c hc => by rw [hE, fl_un hc]
      have eb : lr_22_53 15 (lr_22_18 15 (fl_u (fl_u (fl_u (fl_u C 42 0 n) 15 2 0) 15 3 (-9)) 15 4 0)) = bgn 15 E := by unfold bgn; rw [hE]
      rw [eb]
      have tE : tr_s 15 E R := (tr_cc t1 (fun k hk => eE _ (by omega))).1
      have fE : ch_f (hb 0 (C 42 0).toNatClampNeg 0) E R := by
        unfold ch_f
        rw [eE 15 (by decide), eE 22 (by decide)]
        exact hf
      have b1 := bg_tr tE fE
      obtain ⟨g0, g1, g2, -⟩ := bg_eq (T := 15) (C := E) (by rw [eE 15 (by decide)]; exact h8.1) (by rw [eE 15 (by decide)]; exact h8.2)
      have x42 : bgn 15 E 42 = E 42 := g0 42 (by omega) (by omega) (by omega) (by omega)
      obtain ⟨r1, r2, r3, r4⟩ := ag_tr (D := 42) (b := 0) (sz := (C 42 0).toNatClampNeg) (n := n.toNatClampNeg) (C := C) (R := R) (E := bgn 15 E) hw (by omega) (by omega) b1 (by rw [x42, hE, fl_us]) (fun m hm => by rw [g0 43 (by omega) (by omega) (by omega) (by omega), g0 44 (by omega) (by omega) (by omega) (by omega), g0 45 (by omega) (by omega) (by omega) (by omega), eE 43 (by decide), eE 44 (by decide), eE 45 (by decide)]; exact ⟨rfl, rfl, rfl⟩)
      have hbn : hb 0 (C 42 0).toNatClampNeg n.toNatClampNeg = 0 + 23 + 23 * n.toNatClampNeg := if_pos (by omega)
      have f42 : lr_51_9 (bgn 15 E) 42 0 = n := by rw [r2 42 (by omega), x42, hE, fl_us]
      have fO : ∀ c, (c < 15 ∨ 24 ≤ c) → c ≠ 42 → lr_51_9 (bgn 15 E) c = C c := fun c hc h42 => by rw [r2 c hc, g0 c (by omega) (by omega) (by omega) (by omega), eE c h42]
      have f0 : lr_51_9 (bgn 15 E) 15 0 = C 15 0 := by rw [r3 0 (Or.inl rfl), g1, eE 15 (by decide)]
      have f1 : lr_51_9 (bgn 15 E) 15 1 = C 15 1 := by rw [r3 1 (Or.inr rfl), g2, eE 15 (by decide)]
      have f22 : lr_51_9 (bgn 15 E) 22 = C 22 := by rw [r4, g0 22 (by omega) (by omega) (by omega) (by omega), eE 22 (by decide)]
      have sR1 : R' 81 1 = R 81 1 := by rw [q 81 (by decide)]
      have sR4 : R' 81 4 = R 81 4 := by rw [q 81 (by decide)]
      have sRR : ∀ k, (83 ≤ k ∧ k ≤ 86) → R' k = R k := fun k hk => q k (by omega)
      refine ⟨tr_rc r1 sR1 sR4 sRR (fun k h1 h2 => ?_), ⟨by rw [f42, q0], by rw [f42]; omega, by rw [f42]; omega, fun _ => ?_⟩, by rw [f42]; exact n0, fun k hk => ?_⟩
      · rw [hbn, Nat.zero_add, Nat.zero_add, q1 k h1 h2]
      · rw [f42]
        -- the chain up to n
        have hx : ∀ m k, m ≤ n.toNatClampNeg → 1 ≤ k → k < 24 → R' 82 (hb 0 n.toNatClampNeg m + k) = R 82 (hb 0 (C 42 0).toNatClampNeg m + k) := by
          intro m k hm h1 h2
          unfold hb
          rw [if_pos (show m < (C 42 0).toNatClampNeg by omega)]
          by_cases hmn : m < n.toNatClampNeg
          · rw [if_pos hmn, q2 _ (by omega)]
          · have e : m = n.toNatClampNeg := by omega
            rw [if_neg hmn, Nat.zero_add, Nat.zero_add, q1 k h1 h2, e]
        refine ⟨fun m hm M hM => ?_, ?_⟩
        · have g : tr 15 (hb 0 (C 42 0).toNatClampNeg m) M R := tr_rc hM sR1.symm sR4.symm (fun k hk => (sRR k hk).symm) (fun k h1 h2 => (hx m k (by omega) h1 h2).symm)
          have g2 := hw m (by omega) M g
          rw [fO (42 + 1) (by omega) (by omega), fO (42 + 2) (by omega) (by omega), fO (42 + 3) (by omega) (by omega)]
          exact tr_rc g2 sR1 sR4 sRR (fun k h1 h2 => hx (m + 1) k (by omega) h1 h2)
        · have y := fun k => hx 0 k (Nat.zero_le _)
          obtain ⟨f1', f2', f3', f4', f5', f6'⟩ := hf
          unfold ch_f
          rw [f0, f1, f22, y 1 (by omega) (by omega), y 2 (by omega) (by omega), y 3 (by omega) (by omega), sRR 84 (by omega)]
          refine ⟨f1', f2', f3', fun l hl => ?_, fun l hl => ?_, fun i hi => ?_⟩
          · have a1 := y (4 + l) (by omega) (by omega)
            rw [← Nat.add_assoc, ← Nat.add_assoc] at a1
            rw [a1]
            exact f4' l hl
          · have a1 := y (12 + l) (by omega) (by omega)
            rw [← Nat.add_assoc, ← Nat.add_assoc] at a1
            rw [a1]
            exact f5' l hl
          · have a1 := y (20 + i) (by omega) (by omega)
            rw [← Nat.add_assoc, ← Nat.add_assoc] at a1
            rw [a1]
            exact f6' i hi
      · refine kh_mv (t4 k hk) h8 sR1 sR4 sRR (fun j hj => q2 _ (by omega)) (by rw [fO _ (by omega) (by omega)]) (fun n _ => by rw [fO _ (by omega) (by omega), fO _ (by omega) (by omega), fO _ (by omega) (by omega)]; exact ⟨rfl, rfl, rfl⟩) f0 f1 f22
    · simp only [if_neg c2]
      have n2 := fi_ge.mp c2
      by_cases c3 : C 42 0 < n
      · simp only [if_neg (fun z : (¬ (n < 0)) ∧ (¬ (C 42 0 < n)) => z.2 c3)]
        exact ⟨fun _ => trivial, h⟩
      · have n3 := fi_ge.mp c3
        simp only [if_pos (⟨c1, c3⟩ : (¬ (n < 0)) ∧ (¬ (C 42 0 < n)))]
        have e : n = C 42 0 := fi_e.mpr (by omega)
        refine ⟨fun z => absurd e z, ?_⟩
        have hmany : ¬ 0 < C 42 0 - n := by rw [fi_l, fi_i0, fi_sub (by omega) (by omega)]; omega
        rw [un_0 hmany]
        refine tt_c h (fun _ _ => rfl) (fl_uo (Or.inl (by decide))) (fl_uo (Or.inl (by decide))) (fun k hk => fl_un (by omega)) (fun j hj => ?_)
        by_cases hj0 : j = 0
        · subst hj0
          rw [fl_us, e, sd]
        · rw [fl_uo (Or.inr hj0)]
