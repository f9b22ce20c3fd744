/-! Register: the loops of its end. -/
theorem rg_39 (B : fl_M) : ∀ c j, lr_129_39 B c j = if c = 82 ∧ j < 944 then 0 else B c j := by
  unfold lr_129_39 lq_129_39
  refine it_p (f := ls_129_39) (n := 944) (a := B) (fun m q => ∀ c j, q c j = if c = 82 ∧ j < m then 0 else B c j) (fun c j => by rw [if_neg (by omega)]) (fun m q hm hq c j => ?_)
  have en := fi_at (m := m) (by omega)
  unfold ls_129_39
  rw [en]
  unfold fl_u
  rw [hq]
  (repeat' split) <;> first | rfl | omega
theorem rg_85 {Y : fl_M} (h8 : (Y 81 1).toNatClampNeg ≤ 8) : ∀ c j, lr_129_85 Y c j = if c = 83 ∧ j < (Y 81 1).toNatClampNeg then Y 92 j else if c = 84 ∧ j < (Y 81 1).toNatClampNeg then Y 93 j else if c = 82 ∧ 4 ≤ j ∧ j < 4 + (Y 81 1).toNatClampNeg then Y 93 (j - 4) else Y c j := by
  unfold lr_129_85 lq_129_85
  refine it_p (f := ls_129_85) (n := (Y 81 1).toNatClampNeg) (a := Y) (fun m q => ∀ c j, q c j = if c = 83 ∧ j < m then Y 92 j else if c = 84 ∧ j < m then Y 93 j else if c = 82 ∧ 4 ≤ j ∧ j < 4 + m then Y 93 (j - 4) else Y c j) (fun c j => by rw [if_neg (by omega), if_neg (by omega), if_neg (by omega)]) (fun m q hm hq c j => ?_)
  have en := fi_at (m := m) (by omega)
  have em := fi_ti (m := m) (by omega)
  have e4 := fj_nn (fj_pa (x := 4) (y := Int32.ofNat m) (a := 4) (c := m) rfl em (by omega))
  have q2 : q 92 m = Y 92 m := by rw [hq, if_neg (by omega), if_neg (by omega), if_neg (by omega)]
  have q3 : q 93 m = Y 93 m := by rw [hq, if_neg (by omega), if_neg (by omega), if_neg (by omega)]
  unfold ls_129_85
  rw [en, e4, q2, q3]
  unfold fl_u
  rw [hq]
  (repeat' split) <;> first | rfl | omega | (congr 1; omega)
theorem rg_139 {Y : fl_M} (h8 : (Y 81 4).toNatClampNeg ≤ 4) : ∀ c j, lr_129_139 Y c j = if c = 85 ∧ j < (Y 81 4).toNatClampNeg then Y 94 (3 * j) else if c = 86 ∧ j < (Y 81 4).toNatClampNeg then Y 94 (3 * j + 2) else if c = 82 ∧ 20 ≤ j ∧ j < 20 + (Y 81 4).toNatClampNeg then Y 94 (3 * (j - 20) + 1) else Y c j := by
  unfold lr_129_139 lq_129_139
  refine it_p (f := ls_129_139) (n := (Y 81 4).toNatClampNeg) (a := Y) (fun m q => ∀ c j, q c j = if c = 85 ∧ j < m then Y 94 (3 * j) else if c = 86 ∧ j < m then Y 94 (3 * j + 2) else if c = 82 ∧ 20 ≤ j ∧ j < 20 + m then Y 94 (3 * (j - 20) + 1) else Y c j) (fun c j => by rw [if_neg (by omega), if_neg (by omega), if_neg (by omega)]) (fun m q hm hq c j => ?_)
  have en := fi_at (m := m) (by omega)
  have em := fi_ti (m := m) (by omega)
  have e20 := fj_nn (fj_pa (x := 20) (y := Int32.ofNat m) (a := 20) (c := m) rfl em (by omega))
  have m3 : (3 * Int32.ofNat m).toInt = ((3 * m : Nat) : Int) := by
    rw [fi_mul (by rw [em, fi_i3]; omega) (by rw [em, fi_i3]; omega), em, fi_i3]
    omega
  have e30 := fj_nn m3
  have e31 := fj_nn (fj_pa (x := 3 * Int32.ofNat m) (y := 1) (a := 3 * m) (c := 1) m3 rfl (by omega))
  have e32 := fj_nn (fj_pa (x := 3 * Int32.ofNat m) (y := 2) (a := 3 * m) (c := 2) m3 rfl (by omega))
  have q4 : ∀ i, q 94 i = Y 94 i := fun i => by rw [hq, if_neg (by omega), if_neg (by omega), if_neg (by omega)]
  unfold ls_129_139
  rw [en, e20, e30, e31, e32, q4, q4, q4]
  unfold fl_u
  rw [hq]
  (repeat' split) <;> first | rfl | omega | (congr 1; omega)
theorem rg_204 (Q : fl_M) : (∀ c j, ¬ (c = 82 ∧ 944 ≤ j) → lr_129_204 Q c j = Q c j) ∧ ∀ k, k < 3 → lr_129_204 Q 82 (944 + 944 * k) = -1 := by
  unfold lr_129_204 lq_129_204
  refine it_p (f := ls_129_204) (n := 3) (a := Q) (fun m q => (∀ c j, ¬ (c = 82 ∧ 944 ≤ j) → q c j = Q c j) ∧ ∀ k, k < m → q 82 (944 + 944 * k) = -1) ⟨fun c j _ => rfl, fun k hk => by omega⟩ (fun m q hm hq => ?_)
  have em := fi_ti (m := 1 + m) (by omega)
  have e9 : (944 * Int32.ofNat (1 + m)).toInt = ((944 * (1 + m) : Nat) : Int) := by
    rw [fi_mul (by rw [em, show (944 : Int32).toInt = 944 from rfl]; omega) (by rw [em, show (944 : Int32).toInt = 944 from rfl]; omega), em, show (944 : Int32).toInt = 944 from rfl]
    omega
  have e := fj_nn e9
  unfold ls_129_204
  rw [Int32.add_zero, e]
  refine ⟨fun c j hc => ?_, fun k hk => ?_⟩
  · rw [← hq.1 c j hc]
    by_cases h : c = 82
    · exact fl_uo (Or.inr (by omega))
    · exact fl_uo (Or.inl h)
  · by_cases h : k = m
    · rw [h, show 944 + 944 * m = 944 * (1 + m) by omega, fl_us]
    · rw [fl_uo (Or.inr (by omega))]
      exact hq.2 k (by omega)
theorem rg_66 (E : fl_M) : (∀ c, (c < 47 ∨ 58 < c) → lr_21_66 E c = E c) ∧ ∀ k, k < 3 → lr_21_66 E (47 + 4 * k) 0 = -1 := by
  unfold lr_21_66 lq_21_66
  refine it_p (f := ls_21_66) (n := 3) (a := E) (fun m q => (∀ c, (c < 47 ∨ 58 < c) → q c = E c) ∧ ∀ k, k < m → q (47 + 4 * k) 0 = -1) ⟨fun c _ => rfl, fun k hk => by omega⟩ (fun m q hm hq => ?_)
  have en := fi_at (m := m) (by omega)
  unfold ls_21_66
  rw [en, ka_46]
  refine ⟨fun c hc => (fl_un (by omega)).trans (hq.1 c hc), fun k hk => ?_⟩
  by_cases h : k = m
  · rw [h, fl_us]
  · rw [fl_un (by omega)]
    exact hq.2 k (by omega)
theorem tk_7 {T O b : Nat} {C R : fl_M} (hd : T + 9 ≤ O ∨ O + 9 ≤ T) (h : tr O b C R) : ∀ j, j < (C O 1).toNatClampNeg → m_23 T O C (T + 7) j = C (O + 7) j := by
  have n8 := tr_n h
  -- the five ints
  obtain ⟨E, hE⟩ : ∃ E : fl_M, E = fl_u (fl_u (fl_u (fl_u (fl_u C T 0 (C O 0)) T 1 (C O 1)) T 2 (C O 2)) T 3 (C O 3)) T 4 (C O 4) := ⟨_, rfl⟩
  have eO : ∀ c, c ≠ T → E c = C c := fun c hc => by rw [hE, fl_un hc, fl_un hc, fl_un hc, fl_un hc, fl_un hc]
  have e0 : E T 0 = C O 0 := by rw [hE, fl_uo (Or.inr (by decide)), fl_uo (Or.inr (by decide)), fl_uo (Or.inr (by decide)), fl_uo (Or.inr (by decide)), fl_us]
  have e1 : E T 1 = C O 1 := by rw [hE, fl_uo (Or.inr (by decide)), fl_uo (Or.inr (by decide)), fl_uo (Or.inr (by decide)), fl_us]
  have e2 : E T 2 = C O 2 := by rw [hE, fl_uo (Or.inr (by decide)), fl_uo (Or.inr (by decide)), fl_us]
  have e3 : E T 3 = C O 3 := by rw [hE, fl_uo (Or.inr (by decide)), fl_us]
  have e4 : E T 4 = C O 4 := by rw [hE, fl_us]
  have eM : m_23 T O C = lr_23_106 T O (lr_23_42 T O E) := by
    unfold m_23
    rw [hE]
    have n : ∀ (M : fl_M) (i : Nat) (v : Int32), fl_u M T i v O = M O := fun M i v => fl_un (by omega)
    simp only [n]
  have f1 : ∀ c j, lr_23_42 T O E c j = if (T + 1 ≤ c ∧ c ≤ T + 4) ∧ j < (C O 0).toNatClampNeg then E (O + (c - T)) j else E c j := by
    unfold lr_23_42 lq_23_42
    rw [e0]
    exact ck_it hd (by omega) (fun m q hm => tk_m hd q m (by omega))
  have g1 : lr_23_42 T O E T = E T := by
    funext j
    rw [f1, if_neg (fun z => by omega)]
  have f2 : ∀ c j, m_23 T O C c j = if (T + 5 ≤ c ∧ c ≤ T + 8) ∧ j < (C O 1).toNatClampNeg then lr_23_42 T O E (O + (c - T)) j else lr_23_42 T O E c j := by
    rw [eM]
    unfold lr_23_106 lq_23_106
    rw [g1, e1]
    exact ck_it hd (by omega) (fun m q hm => tk_n hd q m (by omega))
  have a0 : ∀ j, m_23 T O C T j = E T j := fun j => by
    rw [f2, if_neg (fun z => by omega), g1]
  have a1 : ∀ k, 1 ≤ k → k ≤ 4 → ∀ j, j < (C O 0).toNatClampNeg → m_23 T O C (T + k) j = C (O + k) j := fun k h1 h2 j hj => by
    rw [f2, if_neg (fun z => by omega), f1, if_pos ⟨⟨by omega, by omega⟩, hj⟩, show O + (T + k - T) = O + k by omega, eO _ (by omega)]
  have a2 : ∀ k, 5 ≤ k → k ≤ 8 → ∀ j, j < (C O 1).toNatClampNeg → m_23 T O C (T + k) j = C (O + k) j := fun k h1 h2 j hj => by
    rw [f2, if_pos ⟨⟨by omega, by omega⟩, hj⟩, show O + (T + k - T) = O + k by omega, f1, if_neg (fun z => by omega), eO _ (by omega)]
  exact a2 7 (by omega) (by omega)
