/-! Stretches copied; a register taken from another. -/
/-- a stretch of one row copied place by place to a stretch apart from it -/
theorem cp_it {f : Nat → fl_M → fl_M} {D S N : Nat} {a : fl_M} (hf : ∀ m q, m < N → (∀ j, j < D ∨ D + N ≤ j → q 82 j = a 82 j) → f m q = fl_u q 82 (D + m) (q 82 (S + m))) (hd : D + N ≤ S ∨ S + N ≤ D) : ∀ c j, fx_it f N a c j = if c = 82 ∧ D ≤ j ∧ j < D + N then a 82 (S + (j - D)) else a c j := by
  have key := it_p (f := f) (n := N) (a := a) (fun m q => ∀ c j, q c j = if c = 82 ∧ D ≤ j ∧ j < D + m then a 82 (S + (j - D)) else a c j) (fun c j => by rw [if_neg (fun z => by omega)]) (fun m q hm hq c j => ?_)
  · exact key
  · rw [hf m q hm (fun j hj => by rw [hq, if_neg (fun z => by omega)])]
    by_cases h : c = 82 ∧ j = D + m
    · obtain ⟨rfl, rfl⟩ := h
      rw [fl_us, hq, if_neg (fun z => by omega), if_pos ⟨rfl, by omega, by omega⟩]
      congr 1
      omega
    · rw [fl_uo (by omega), hq]
      by_cases h2 : c = 82 ∧ D ≤ j ∧ j < D + m
      · rw [if_pos h2, if_pos (by omega)]
      · rw [if_neg h2, if_neg (by omega)]
/-- what is tried out is laid -/
theorem lt_eq (R : fl_M) : ∀ c j, lr_160_2 R c j = if c = 82 ∧ 3776 ≤ j ∧ j < 3776 + 24 then R 82 (0 + (j - 3776)) else R c j := by
  unfold lr_160_2 lq_160_2
  refine cp_it (fun m q hm _ => ?_) (Or.inr (by omega))
  have en := fi_at (m := m) (by omega)
  have em := fi_ti (m := m) (by omega)
  unfold ls_160_2
  rw [en, tr_i1 tr_bt (k := Int32.ofNat m) (c := m) em (by omega), Nat.zero_add]
theorem tr_rc {T b b' : Nat} {C R R' : fl_M} (h : tr T b C R) (r1 : R' 81 1 = R 81 1) (r4 : R' 81 4 = R 81 4) (eR : ∀ k, (83 ≤ k ∧ k ≤ 86) → R' k = R k) (hb : ∀ k, 1 ≤ k → k < 24 → R' 82 (b' + k) = R 82 (b + k)) : tr T b' C R' := by
  have n8 := tr_n h
  refine ⟨tr_sc h.1 rfl rfl (fun _ _ => rfl) r1 r4 eR, ?_⟩
  obtain ⟨d1, d2, d3, d4, d5, d6⟩ := h.2
  unfold tr_d
  rw [hb 1 (by omega) (by omega), hb 2 (by omega) (by omega), hb 3 (by omega) (by omega)]
  refine ⟨d1, d2, d3, fun l hl => ?_, fun i hi => ?_, fun l h1 h2 => ?_⟩
  · have a1 := hb (4 + l) (by omega) (by omega)
    have a2 := hb (12 + l) (by omega) (by omega)
    rw [← Nat.add_assoc, ← Nat.add_assoc] at a1 a2
    rw [a1, a2]
    exact d4 l hl
  · have a1 := hb (20 + i) (by omega) (by omega)
    rw [← Nat.add_assoc, ← Nat.add_assoc] at a1
    rw [a1]
    exact d5 i hi
  · have a1 := hb (12 + l) (by omega) (by omega)
    rw [← Nat.add_assoc, ← Nat.add_assoc] at a1
    rw [a1]
    exact d6 l h1 h2
theorem lt_rg {T : Nat} {C R : fl_M} (h : tr T 0 C R) : tr T 3776 C (lr_160_2 R) := by
  have e := lt_eq R
  have o : ∀ c, c ≠ 82 → lr_160_2 R c = R c := fun c hc => by funext j; rw [e, if_neg (fun z => hc z.1)]
  refine tr_rc h (by rw [o 81 (by decide)]) (by rw [o 81 (by decide)]) (fun k hk => o k (by omega)) (fun k h1 h2 => ?_)
  rw [e, if_pos ⟨rfl, by omega, by omega⟩, show 3776 + k - 3776 = k by omega]
/-- the class' register from another's -/
theorem tk_m {T O : Nat} (hd : T + 9 ≤ O ∨ O + 9 ≤ T) (M : fl_M) (m : Nat) (hm : m < 8) : ∀ c j, ls_23_42 T O m M c j = if (T + 1 ≤ c ∧ c ≤ T + 4) ∧ j = m then M (O + (c - T)) m else M c j := by
  intro c j
  have en := fi_at (m := m) (by omega)
  unfold ls_23_42
  rw [en]
  by_cases h : (T + 1 ≤ c ∧ c ≤ T + 4) ∧ j = m
  · rw [if_pos h]
    obtain ⟨h1, rfl⟩ := h
    have hk : c = T + 1 ∨ c = T + 2 ∨ c = T + 3 ∨ c = T + 4 := by omega
    rcases hk with rfl | rfl | rfl | rfl
    · rw [fl_uo (Or.inl (by omega)), fl_uo (Or.inl (by omega)), fl_uo (Or.inl (by omega)), fl_us, show T + 1 - T = 1 by omega]
    · rw [fl_uo (Or.inl (by omega)), fl_uo (Or.inl (by omega)), fl_us, fl_uo (Or.inl (by omega)), show T + 2 - T = 2 by omega]
    · rw [fl_uo (Or.inl (by omega)), fl_us, fl_uo (Or.inl (by omega)), fl_uo (Or.inl (by omega)), show T + 3 - T = 3 by omega]
    · rw [fl_us, fl_uo (Or.inl (by omega)), fl_uo (Or.inl (by omega)), fl_uo (Or.inl (by omega)), show T + 4 - T = 4 by omega]
  · rw [if_neg h]
    have n : ∀ k, 1 ≤ k → k ≤ 4 → c ≠ T + k ∨ j ≠ m := fun k h1 h2 => by omega
    rw [fl_uo (n 4 (by omega) (by omega)), fl_uo (n 3 (by omega) (by omega)), fl_uo (n 2 (by omega) (by omega)), fl_uo (n 1 (by omega) (by omega))]
theorem tk_n {T O : Nat} (hd : T + 9 ≤ O ∨ O + 9 ≤ T) (M : fl_M) (m : Nat) (hm : m < 8) : ∀ c j, ls_23_106 T O m M c j = if (T + 5 ≤ c ∧ c ≤ T + 8) ∧ j = m then M (O + (c - T)) m else M c j := by
  intro c j
  have en := fi_at (m := m) (by omega)
  unfold ls_23_106
  rw [en]
  by_cases h : (T + 5 ≤ c ∧ c ≤ T + 8) ∧ j = m
  · rw [if_pos h]
    obtain ⟨h1, rfl⟩ := h
    have hk : c = T + 5 ∨ c = T + 6 ∨ c = T + 7 ∨ c = T + 8 := by omega
    rcases hk with rfl | rfl | rfl | rfl
    · rw [fl_uo (Or.inl (by omega)), fl_uo (Or.inl (by omega)), fl_uo (Or.inl (by omega)), fl_us, show T + 5 - T = 5 by omega]
    · rw [fl_uo (Or.inl (by omega)), fl_uo (Or.inl (by omega)), fl_us, fl_uo (Or.inl (by omega)), show T + 6 - T = 6 by omega]
    · rw [fl_uo (Or.inl (by omega)), fl_us, fl_uo (Or.inl (by omega)), fl_uo (Or.inl (by omega)), show T + 7 - T = 7 by omega]
    · rw [fl_us, fl_uo (Or.inl (by omega)), fl_uo (Or.inl (by omega)), fl_uo (Or.inl (by omega)), show T + 8 - T = 8 by omega]
  · rw [if_neg h]
    have n : ∀ k, 5 ≤ k → k ≤ 8 → c ≠ T + k ∨ j ≠ m := fun k h1 h2 => by omega
    rw [fl_uo (n 8 (by omega) (by omega)), fl_uo (n 7 (by omega) (by omega)), fl_uo (n 6 (by omega) (by omega)), fl_uo (n 5 (by omega) (by omega))]
/-- a loop that copies rows side by side -/
theorem ck_it {f : Nat → fl_M → fl_M} {T O lo hi N : Nat} {a : fl_M} (hd : T + 9 ≤ O ∨ O + 9 ≤ T) (h8 : 1 ≤ lo ∧ hi ≤ 8) (hf : ∀ m q, m < N → ∀ c j, f m q c j = if (T + lo ≤ c ∧ c ≤ T + hi) ∧ j = m then q (O + (c - T)) m else q c j) : ∀ c j, fx_it f N a c j = if (T + lo ≤ c ∧ c ≤ T + hi) ∧ j < N then a (O + (c - T)) j else a c j := by
  have key := it_p (f := f) (n := N) (a := a) (fun m q => ∀ c j, q c j = if (T + lo ≤ c ∧ c ≤ T + hi) ∧ j < m then a (O + (c - T)) j else a c j) (fun c j => by rw [if_neg (fun z => by omega)]) (fun m q hm hq c j => ?_)
  · exact key
  · rw [hf m q hm c j]
    by_cases hk : (T + lo ≤ c ∧ c ≤ T + hi)
    · have hn : ¬ (T + lo ≤ O + (c - T) ∧ O + (c - T) ≤ T + hi) := by omega
      by_cases hj : j = m
      · subst hj
        rw [if_pos ⟨hk, rfl⟩, hq, if_neg (fun z => hn z.1), if_pos ⟨hk, by omega⟩]
      · rw [if_neg (fun z => hj z.2), hq]
        by_cases h2 : j < m
        · rw [if_pos ⟨hk, h2⟩, if_pos ⟨hk, by omega⟩]
        · rw [if_neg (fun z => h2 z.2), if_neg (fun z => by omega)]
    · rw [if_neg (fun z => hk z.1), hq, if_neg (fun z => hk z.1), if_neg (fun z => hk z.1)]
theorem tk_rg {T O b : Nat} {C R : fl_M} (hd : T + 9 ≤ O ∨ O + 9 ≤ T) (h : tr O b C R) : tr T b (m_23 T O C) R := by
  have n8 := tr_n h
  -- the five ints
  obtain ⟨E, hE⟩ : ∃ E : fl_M, E = fl_u (fl_u (fl_u (fl_u (fl_u C T 0 (C O 0)) T 1 (C O 1)) T 2 (C O 2)) T 3 (C O 3)) T 4 (C O 4) := ⟨_, rfl⟩
  have eO : ∀ c, c ≠ T → E c = C c := fun c hc => by rw [hE, fl_un hc, fl_un hc, fl_un hc, fl_un hc, fl_un hc]
  have e0 : E T 0 = C O 0 := by rw [hE, fl_uo (Or.inr (by decide)), fl_uo (Or.inr (by decide)), fl_uo (Or.inr (by decide)), fl_uo (Or.inr (by decide)), fl_us]
  have e1 : E T 1 = C O 1 := by rw [hE, fl_uo (Or.inr (by decide)), fl_uo (Or.inr (by decide)), fl_uo (Or.inr (by decide)), fl_us]
  have e2 : E T 2 = C O 2 := by rw [hE, fl_uo (Or.inr (by decide)), fl_uo (Or.inr (by decide)), fl_us]
  have e3 : E T 3 = C O 3 := by rw [hE, fl_uo (Or.inr (by decide)), fl_us]
  have e4 : E T 4 = C O 4 := by rw [hE, fl_us]
  have eM : m_23 T O C = lr_23_106 T O (lr_23_42 T O E) := by
    unfold m_23
    rw [hE]
    have n : ∀ (M : fl_M) (i : Nat) (v : Int32), fl_u M T i v O = M O := fun M i v => fl_un (by omega)
    simp only [n]
  have f1 : ∀ c j, lr_23_42 T O E c j = if (T + 1 ≤ c ∧ c ≤ T + 4) ∧ j < (C O 0).toNatClampNeg then E (O + (c - T)) j else E c j := by
    unfold lr_23_42 lq_23_42
    rw [e0]
    exact ck_it hd (by omega) (fun m q hm => tk_m hd q m (by omega))
  have g1 : lr_23_42 T O E T = E T := by
    funext j
    rw [f1, if_neg (fun z => by omega)]
  have f2 : ∀ c j, m_23 T O C c j = if (T + 5 ≤ c ∧ c ≤ T + 8) ∧ j < (C O 1).toNatClampNeg then lr_23_42 T O E (O + (c - T)) j else lr_23_42 T O E c j := by
    rw [eM]
    unfold lr_23_106 lq_23_106
    rw [g1, e1]
    exact ck_it hd (by omega) (fun m q hm => tk_n hd q m (by omega))
  have a0 : ∀ j, m_23 T O C T j = E T j := fun j => by
    rw [f2, if_neg (fun z => by omega), g1]
  have a1 : ∀ k, 1 ≤ k → k ≤ 4 → ∀ j, j < (C O 0).toNatClampNeg → m_23 T O C (T + k) j = C (O + k) j := fun k h1 h2 j hj => by
    rw [f2, if_neg (fun z => by omega), f1, if_pos ⟨⟨by omega, by omega⟩, hj⟩, show O + (T + k - T) = O + k by omega, eO _ (by omega)]
  have a2 : ∀ k, 5 ≤ k → k ≤ 8 → ∀ j, j < (C O 1).toNatClampNeg → m_23 T O C (T + k) j = C (O + k) j := fun k h1 h2 j hj => by
    rw [f2, if_pos ⟨⟨by omega, by omega⟩, hj⟩, show O + (T + k - T) = O + k by omega, f1, if_neg (fun z => by omega), eO _ (by omega)]
  obtain ⟨⟨s1, s2, s3, s4, s5, s6⟩, d1, d2, d3, d4, d5, d6⟩ := h
  refine ⟨?_, ?_⟩
  · unfold tr_s
    rw [a0, a0, e0, e1]
    refine ⟨s1, s2, s3, s4, fun l hl => ?_, fun i hi => ?_⟩
    · rw [a1 1 (by omega) (by omega) l hl, a1 2 (by omega) (by omega) l hl]
      exact s5 l hl
    · rw [a2 5 (by omega) (by omega) i hi, a2 6 (by omega) (by omega) i hi]
      exact s6 i hi
  · unfold tr_d
    rw [a0, a0, a0, a0, a0, e0, e1, e2, e3, e4]
    refine ⟨d1, d2, d3, fun l hl => ?_, fun i hi => ?_, d6⟩
    · rw [a1 3 (by omega) (by omega) l hl, a1 4 (by omega) (by omega) l hl]
      exact d4 l hl
    · rw [a2 8 (by omega) (by omega) i hi]
      exact d5 i hi
