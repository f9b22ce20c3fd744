/-! Register: the loops of its end. -/
theorem rg_39 (B : fl_M) : ∀ c j, lr_129_39 B c j = if c = 82 ∧ j < 944 then 0 else B c j := by
  unfold lr_129_39 lq_129_39
  refine it_p (f := ls_129_39) (n := 944) (a := B) (fun m q => ∀ c j, q c j = if c = 82 ∧ j < m then 0 else B c j) (fun c j => by rw [if_neg (by omega)]) (fun m q hm hq c j => ?_)
  have en := fi_at (m := m) (by omega)
  unfold ls_129_39
  rw [en]
  unfold fl_u
  rw [hq]
  (repeat' split) <;> first | rfl | omega
theorem rg_85 {Y : fl_M} (h8 : (Y 81 1).toNatClampNeg ≤ 8) : ∀ c j, lr_129_85 Y c j = if c = 83 ∧ j < (Y 81 1).toNatClampNeg then Y 92 j else if c = 84 ∧ j < (Y 81 1).toNatClampNeg then Y 93 j else if c = 82 ∧ 4 ≤ j ∧ j < 4 + (Y 81 1).toNatClampNeg then Y 93 (j - 4) else Y c j := by
  unfold lr_129_85 lq_129_85
  refine it_p (f := ls_129_85) (n := (Y 81 1).toNatClampNeg) (a := Y) (fun m q => ∀ c j, q c j = if c = 83 ∧ j < m then Y 92 j else if c = 84 ∧ j < m then Y 93 j else if c = 82 ∧ 4 ≤ j ∧ j < 4 + m then Y 93 (j - 4) else Y c j) (fun c j => by rw [if_neg (by omega), if_neg (by omega), if_neg (by omega)]) (fun m q hm hq c j => ?_)
  have en := fi_at (m := m) (by omega)
  have em := fi_ti (m := m) (by omega)
  have e4 := fj_nn (fj_pa (x := 4) (y := Int32.ofNat m) (a := 4) (c := m) rfl em (by omega))
  have q2 : q 92 m = Y 92 m := by rw [hq, if_neg (by omega), if_neg (by omega), if_neg (by omega)]
  have q3 : q 93 m = Y 93 m := by rw [hq, if_neg (by omega), if_neg (by omega), if_neg (by omega)]
  unfold ls_129_85
  rw [en, e4, q2, q3]
  unfold fl_u
  rw [hq]
  (repeat' split) <;> first | rfl | omega | (congr 1; omega)
theorem rg_139 {Y : fl_M} (h8 : (Y 81 4).toNatClampNeg ≤ 4) : ∀ c j, lr_129_139 Y c j = if c = 85 ∧ j < (Y 81 4).toNatClampNeg then Y 94 (3 * j) else if c = 86 ∧ j < (Y 81 4).toNatClampNeg then Y 94 (3 * j + 2) else if c = 82 ∧ 20 ≤ j ∧ j < 20 + (Y 81 4).toNatClampNeg then Y 94 (3 * (j - 20) + 1) else Y c j := by
  unfold lr_129_139 lq_129_139
  refine it_p (f := ls_129_139) (n := (Y 81 4).toNatClampNeg) (a := Y) (fun m q => ∀ c j, q c j = if c = 85 ∧ j < m then Y 94 (3 * j) else if c = 86 ∧ j < m then Y 94 (3 * j + 2) else if c = 82 ∧ 20 ≤ j ∧ j < 20 + m then Y 94 (3 * (j - 20) + 1) else Y c j) (fun c j => by rw [if_neg (by omega), if_neg (by omega), if_neg (by omega)]) (fun m q hm hq c j => ?_)
  have en := fi_at (m := m) (by omega)
  have em := fi_ti (m := m) (by omega)
  have e20 := fj_nn (fj_pa (x := 20) (y := Int32.ofNat m) (a := 20) (c := m) rfl em (by omega))
  have m3 : (3 * Int32.ofNat m).toInt = ((3 * m : Nat) : Int) := by
    rw [fi_mul (by rw [em, fi_i3]; omega) (by rw [em, fi_i3]; omega), em, fi_i3]
    omega
  have e30 := fj_nn m3
  have e31 := fj_nn (fj_pa (x := 3 * Int32.ofNat m) (y := 1) (a := 3 * m) (c := 1) m3 rfl (by omega))
  have e32 := fj_nn (fj_pa (x := 3 * Int32.ofNat m) (y := 2) (a := 3 * m) (c := 2) m3 rfl (by omega))
  have q4 : ∀ i, q 94 i = Y 94 i := fun i => by rw [hq, if_neg (by omega), if_neg (by omega), if_neg (by omega)]
  unfold ls_129_139
  rw [en, e20, e30, e31, e32, q4, q4, q4]
  unfold fl_u
  rw [hq]
  (repeat' split) <;> first | rfl | omega | (congr 1; omega)
theorem rg_204 (Q : fl_M) : (∀ c j, ¬ (c = 82 ∧ 944 ≤ j) → lr_129_204 Q c j = Q c j) ∧ ∀ k, k < 3 → lr_129_204 Q 82 (944 + 944 * k) = -1 := by
  unfold lr_129_204 lq_129_204
  refine it_p (f := ls_129_204) (n := 3) (a := Q) (fun m q => (∀ c j, ¬ (c = 82 ∧ 944 ≤ j) → q c j = Q c j) ∧ ∀ k, k < m → q 82 (944 + 944 * k) = -1) ⟨fun c j _ => rfl, fun k hk => by omega⟩ (fun m q hm hq => ?_)
  have em := fi_ti (m := 1 + m) (by omega)
  have e9 : (944 * Int32.ofNat (1 + m)).toInt = ((944 * (1 + m) : Nat) : Int) := by
    rw [fi_mul (by rw [em, show (944 : Int32).toInt = 944 from rfl]; omega) (by rw [em, show (944 : Int32).toInt = 944 from rfl]; omega), em, show (944 : Int32).toInt = 944 from rfl]
    omega
  have e := fj_nn e9
  unfold ls_129_204
  rw [Int32.add_zero, e]
  refine ⟨fun c j hc => ?_, fun k hk => ?_⟩
  · rw [← hq.1 c j hc]
    by_cases h : c = 82
    · exact fl_uo (Or.inr (by omega))
    · exact fl_uo (Or.inl h)
  · by_cases h : k = m
    · rw [h, show 944 + 944 * m = 944 * (1 + m) by omega, fl_us]
    · rw [fl_uo (Or.inr (by omega))]
      exact hq.2 k (by omega)
theorem rg_66 (E : fl_M) : (∀ c, (c < 47 ∨ 58 < c) → lr_21_66 E c = E c) ∧ ∀ k, k < 3 → lr_21_66 E (47 + 4 * k) 0 = -1 := by
  unfold lr_21_66 lq_21_66
  refine it_p (f := ls_21_66) (n := 3) (a := E) (fun m q => (∀ c, (c < 47 ∨ 58 < c) → q c = E c) ∧ ∀ k, k < m → q (47 + 4 * k) 0 = -1) ⟨fun c _ => rfl, fun k hk => by omega⟩ (fun m q hm hq => ?_)
  have en := fi_at (m := m) (by omega)
  unfold ls_21_66
  rw [en, ka_46]
  refine ⟨fun c hc => (fl_un (by omega)).trans (hq.1 c hc), fun k hk => ?_⟩
  by_cases h : k = m
  · rw [h, fl_us]
  · rw [fl_un (by omega)]
    exact hq.2 k (by omega)
theorem tk_7 {T O b : Nat} {C R : fl_M} (hd : T + 9 ≤ O ∨ O + 9 ≤ T) (h : tr O b C R) : ∀ j, j < (C O 1).toNatClampNeg → m_23 T O C (T + 7) j = C (O + 7) j := by
  have n8 := tr_n h
  -- the five ints
  obtain ⟨E, hE⟩ : ∃ E : fl_M, E = fl_u (fl_u (fl_u (fl_u (fl_u C T 0 (C O 0)) T 1 (C O 1)) T 2 (C O 2)) T 3 (C O 3)) T 4 (C O 4) := ⟨_, rfl⟩
  have eO : ∀ c, c ≠ T → E c = C c := fun c hc => by rw [hE, fl_un hc, fl_un hc, fl_un hc, fl_un hc, fl_un hc]
  have e0 : E T 0 = C O 0 := by rw [hE, fl_uo (Or.inr (by decide)), fl_uo (Or.inr (by decide)), fl_uo (Or.inr (by decide)), fl_uo (Or.inr (by decide)), fl_us]
  have e1 : E T 1 = C O 1 := by rw [hE, fl_uo (Or.inr (by decide)), fl_uo (Or.inr (by decide)), fl_uo (Or.inr (by decide)), fl_us]
  have e2 : E T 2 = C O 2 := by rw [hE, fl_uo (Or.inr (by decide)), fl_uo (Or.inr (by decide)), fl_us]
  have e3 : E T 3 = C O 3 := by rw [hE, fl_uo (Or.inr (by decide)), fl_us]
  have e4 : E T 4 = C O 4 := by rw [hE, fl_us]
  have eM : m_23 T O C = lr_23_106 T O (lr_23_42 T O E) := by
    unfold m_23
    rw [hE]
    have n : ∀ (M : fl_M) (i : Nat) (v : Int32), fl_u M T i v O = M O := fun M i v => fl_un (by omega)
    simp only [n]
  have f1 : ∀ c j, lr_23_42 T O E c j = if (T + 1 ≤ c ∧ c ≤ T + 4) ∧ j < (C O 0).toNatClampNeg then E (O + (c - T)) j else E c j := by
    unfold lr_23_42 lq_23_42
    rw [e0]
    exact ck_it hd (by omega) (fun m q hm => tk_m hd q m (by omega))
  have g1 : lr_23_42 T O E T = E T := by
    funext j
    rw [f1, if_neg (fun z => by omega)]
  have f2 : ∀ c j, m_23 T O C c j = if (T + 5 ≤ c ∧ c ≤ T + 8) ∧ j < (C O 1).toNatClampNeg then lr_23_42 T O E (O + (c - T)) j else lr_23_42 T O E c j := by
    rw [eM]
    unfold lr_23_106 lq_23_106
    rw [g1, e1]
    exact ck_it hd (by omega) (fun m q hm => tk_n hd q m (by omega))
  have a0 : ∀ j, m_23 T O C T j = E T j := fun j => by
    rw [f2, if_neg (fun z => by omega), g1]
  have a1 : ∀ k, 1 ≤ k → k ≤ 4 → ∀ j, j < (C O 0).toNatClampNeg → m_23 T O C (T + k) j = C (O + k) j := fun k h1 h2 j hj => by
    rw [f2, if_neg (fun z => by omega), f1, if_pos ⟨⟨by omega, by omega⟩, hj⟩, show O + (T + k - T) = O + k by omega, eO _ (by omega)]
  have a2 : ∀ k, 5 ≤ k → k ≤ 8 → ∀ j, j < (C O 1).toNatClampNeg → m_23 T O C (T + k) j = C (O + k) j := fun k h1 h2 j hj => by
    rw [f2, if_pos ⟨⟨by omega, by omega⟩, hj⟩, show O + (T + k - T) = O + k by omega, f1, if_neg (fun z => by omega), eO _ (by omega)]
  exact a2 7 (by omega) (by omega)
/-! Register: both sides answer alike, and the tie stands. -/
theorem rg_R {A B Z : fl_M} (hZ : ∀ c j, Z c j = if c = 82 ∧ j < 944 then 0 else B c j) (e0 : A 24 0 = B 81 19) (e1 : A 24 1 = B 81 22) (h8 : (A 24 0).toNatClampNeg ≤ 8) (h4 : (A 24 1).toNatClampNeg ≤ 4) :
    (∀ c j, ¬ (c = 82 ∧ 944 ≤ j) → lr_129_204 (lr_129_139 (lr_129_85 (fl_u (fl_u (fl_u Z 82 2 (-9)) 81 1 (Z 81 19)) 81 4 (Z 81 22)))) c j =
      if c = 85 ∧ j < (A 24 1).toNatClampNeg then B 94 (3 * j) else if c = 86 ∧ j < (A 24 1).toNatClampNeg then B 94 (3 * j + 2) else if c = 82 ∧ 20 ≤ j ∧ j < 20 + (A 24 1).toNatClampNeg then B 94 (3 * (j - 20) + 1) else
      if c = 83 ∧ j < (A 24 0).toNatClampNeg then B 92 j else if c = 84 ∧ j < (A 24 0).toNatClampNeg then B 93 j else if c = 82 ∧ 4 ≤ j ∧ j < 4 + (A 24 0).toNatClampNeg then B 93 (j - 4) else
      if c = 81 ∧ j = 4 then A 24 1 else if c = 81 ∧ j = 1 then A 24 0 else if c = 82 ∧ j = 2 then -9 else if c = 82 then 0 else B c j) ∧
    ∀ k, k < 3 → lr_129_204 (lr_129_139 (lr_129_85 (fl_u (fl_u (fl_u Z 82 2 (-9)) 81 1 (Z 81 19)) 81 4 (Z 81 22)))) 82 (944 + 944 * k) = -1 := by
  obtain ⟨Y, hY⟩ : ∃ Y : fl_M, Y = fl_u (fl_u (fl_u Z 82 2 (-9)) 81 1 (Z 81 19)) 81 4 (Z 81 22) := ⟨_, rfl⟩
  rw [← hY]
  have z1 : Z 81 19 = A 24 0 := by rw [hZ, if_neg (by omega), e0]
  have z4 : Z 81 22 = A 24 1 := by rw [hZ, if_neg (by omega), e1]
  have eY : ∀ c j, Y c j = if c = 81 ∧ j = 4 then A 24 1 else if c = 81 ∧ j = 1 then A 24 0 else if c = 82 ∧ j = 2 then -9 else if c = 82 ∧ j < 944 then 0 else B c j := fun c j => by
    rw [hY, z1, z4]
    unfold fl_u
    rw [hZ]
  have y1 : Y 81 1 = A 24 0 := by rw [eY, if_neg (by omega), if_pos ⟨rfl, rfl⟩]
  have y4 : Y 81 4 = A 24 1 := by rw [eY, if_pos ⟨rfl, rfl⟩]
  have eP := rg_85 (Y := Y) (by rw [y1]; exact h8)
  rw [y1] at eP
  obtain ⟨P, hP⟩ : ∃ P : fl_M, P = lr_129_85 Y := ⟨_, rfl⟩
  rw [← hP] at eP ⊢
  have p4 : P 81 4 = A 24 1 := by rw [eP, if_neg (by omega), if_neg (by omega), if_neg (by omega), y4]
  have eQ := rg_139 (Y := P) (by rw [p4]; exact h4)
  rw [p4] at eQ
  obtain ⟨Q, hQ⟩ : ∃ Q : fl_M, Q = lr_129_139 P := ⟨_, rfl⟩
  rw [← hQ] at eQ ⊢
  obtain ⟨r1, r2⟩ := rg_204 Q
  refine ⟨fun c j hc => ?_, r2⟩
  have yB : ∀ c, c ≠ 81 → c ≠ 82 → ∀ i, Y c i = B c i := fun c h1 h2 i => by rw [eY, if_neg (by omega), if_neg (by omega), if_neg (by omega), if_neg (by omega)]
  have pB : ∀ i, P 94 i = B 94 i := fun i => by rw [eP, if_neg (by omega), if_neg (by omega), if_neg (by omega), yB 94 (by decide) (by decide)]
  rw [r1 c j hc, eQ, pB, pB, pB, eP, yB 92 (by decide) (by decide), yB 93 (by decide) (by decide), yB 93 (by decide) (by decide), eY]
  by_cases h : c = 82
  · by_cases h9 : j < 944
    · simp only [h, h9, and_self, if_true]
    · exact absurd ⟨h, by omega⟩ hc
  · simp only [h, false_and, if_false]
theorem rg_tt {a : Nat} {n t : Int32} {b : Nat → Int32} {A B : fl_M} (h : ps a n t b A B) (hv : iv A) : tt (lr_21_66 (fl_u (m_23 15 24 (bgn 24 A)) 42 0 0)) (lr_129_204 (lr_129_139 (lr_129_85 (fl_u (fl_u (fl_u (lr_129_39 B) 82 2 (-9)) 81 1 ((lr_129_39 B) 81 19)) 81 4 ((lr_129_39 B) 81 22))))) := by
  obtain ⟨-, -, -, e0, e1, ⟨⟨i1, i2⟩, ⟨i3, i4⟩, -⟩, -, p10, p11⟩ := h
  obtain ⟨v1, v2⟩ := hv
  have c0 := fi_cl (A 24 0)
  have c1 := fi_cl (A 24 1)
  obtain ⟨rr, rk⟩ := rg_R (A := A) (B := B) (Z := lr_129_39 B) (rg_39 B) e0 e1 (by omega) (by omega)
  obtain ⟨R, hR⟩ : ∃ R : fl_M, R = lr_129_204 (lr_129_139 (lr_129_85 (fl_u (fl_u (fl_u (lr_129_39 B) 82 2 (-9)) 81 1 ((lr_129_39 B) 81 19)) 81 4 ((lr_129_39 B) 81 22)))) := ⟨_, rfl⟩
  rw [← hR] at rr rk ⊢
  have r811 : R 81 1 = A 24 0 := by rw [rr 81 1 (by omega)]; rfl
  have r814 : R 81 4 = A 24 1 := by rw [rr 81 4 (by omega)]; rfl
  have r83 : ∀ l, l < (A 24 0).toNatClampNeg → R 83 l = B 92 l := fun l hl => by
    rw [rr 83 l (by omega), if_neg (by omega), if_neg (by omega), if_neg (by omega), if_pos ⟨rfl, hl⟩]
  have r84 : ∀ l, l < (A 24 0).toNatClampNeg → R 84 l = B 93 l := fun l hl => by
    rw [rr 84 l (by omega), if_neg (by omega), if_neg (by omega), if_neg (by omega), if_neg (by omega), if_pos ⟨rfl, hl⟩]
  have r85 : ∀ l, l < (A 24 1).toNatClampNeg → R 85 l = B 94 (3 * l) := fun l hl => by
    rw [rr 85 l (by omega), if_pos ⟨rfl, hl⟩]
  have r86 : ∀ l, l < (A 24 1).toNatClampNeg → R 86 l = B 94 (3 * l + 2) := fun l hl => by
    rw [rr 86 l (by omega), if_neg (by omega), if_pos ⟨rfl, hl⟩]
  have rp : ∀ l, l < (A 24 1).toNatClampNeg → R 82 (20 + l) = B 94 (3 * l + 1) := fun l hl => by
    rw [rr 82 (20 + l) (by omega), if_neg (by omega), if_neg (by omega), if_pos ⟨rfl, by omega, by omega⟩, show 20 + l - 20 = l by omega]
  have rl : ∀ l, l < (A 24 0).toNatClampNeg → R 82 (4 + l) = B 93 l := fun l hl => by
    rw [rr 82 (4 + l) (by omega), if_neg (by omega), if_neg (by omega), if_neg (by omega), if_neg (by omega), if_neg (by omega), if_pos ⟨rfl, by omega, by omega⟩, show 4 + l - 4 = l by omega]
  have r0 : ∀ j, j < 20 → (j < 4 ∨ 12 ≤ j) → R 82 j = if j = 2 then -9 else 0 := fun j h1 h2 => by
    rw [rr 82 j (by omega), if_neg (by omega), if_neg (by omega), if_neg (by omega), if_neg (by omega), if_neg (by omega), if_neg (by omega), if_neg (by omega), if_neg (by omega)]
    by_cases h3 : j = 2
    · rw [if_pos ⟨rfl, h3⟩, if_pos h3]
    · rw [if_neg (fun z => h3 z.2), if_pos rfl, if_neg h3]
  have rz : ∀ l, l < 8 → R 82 (0 + 12 + l) = 0 := fun l hl => by
    rw [r0 (0 + 12 + l) (by omega) (by omega), if_neg (by omega)]
  have r1 : R 82 (0 + 1) = 0 := by rw [r0 (0 + 1) (by omega) (by omega), if_neg (by omega)]
  have r2 : R 82 (0 + 2) = -9 := by rw [r0 (0 + 2) (by omega) (by omega), if_pos rfl]
  have r3 : R 82 (0 + 3) = 0 := by rw [r0 (0 + 3) (by omega) (by omega), if_neg (by omega)]
  have rl' : ∀ l, l < (A 24 0).toNatClampNeg → R 82 (0 + 4 + l) = A 26 l ∧ 0 ≤ (A 26 l).toInt ∧ (A 26 l).toInt ≤ 40 := fun l hl => ⟨(rl l hl).trans (p10 l (by omega)).2.symm, v1 l (by omega)⟩
  have rp' : ∀ i, i < (A 24 1).toNatClampNeg → R 82 (0 + 20 + i) = A 31 i ∧ 0 ≤ (A 31 i).toInt ∧ (A 31 i).toInt < (A 24 0).toInt := fun i hi => ⟨(rp i hi).trans (p11 i (by omega)).2.1.symm, (v2 i (by omega)).2⟩
  obtain ⟨g0, g1, g2, g3, g4, g5, g6, g7⟩ := bg_eq (T := 24) (C := A) (by omega) (by omega)
  obtain ⟨G, hG⟩ : ∃ G : fl_M, G = bgn 24 A := ⟨_, rfl⟩
  rw [← hG] at g0 g1 g2 g3 g4 g5 g6 g7 ⊢
  have tG : tr 24 0 G R := by
    refine ⟨⟨g1.trans r811.symm, g2.trans r814.symm, by rw [g1]; exact ⟨i1, i2⟩, by rw [g2]; exact ⟨i3, i4⟩, fun l hl => ?_, fun i hi => ?_⟩, g3.trans r1.symm, g4.trans r2.symm, g5.trans r3.symm, fun l hl => ?_, fun i hi => ?_, fun l _ h8 => rz l h8⟩
    · rw [g1] at hl
      have q := p10 l (by omega)
      exact ⟨((congrFun (g0 25 (by decide) (by decide) (by decide) (by decide)) l).trans q.1).trans (r83 l hl).symm, ((congrFun (g0 26 (by decide) (by decide) (by decide) (by decide)) l).trans q.2).trans (r84 l hl).symm⟩
    · rw [g2] at hi
      have q := p11 i (by omega)
      have w := (v2 i (by omega)).1
      have e30 : G (24 + 6) i = A 30 i := congrFun (g0 30 (by decide) (by decide) (by decide) (by decide)) i
      exact ⟨((congrFun (g0 29 (by decide) (by decide) (by decide) (by decide)) i).trans q.1).trans (r85 i hi).symm, (e30.trans q.2.2).trans (r86 i hi).symm, by rw [e30]; exact w⟩
    · rw [g1] at hl
      obtain ⟨x1, x2⟩ := g6 l hl
      obtain ⟨y1, y2⟩ := rl' l hl
      have x1 : G (24 + 3) l = A 26 l := x1
      have l8 : l < 8 := by omega
      refine ⟨⟨x1.trans y1.symm, by rw [x1]; exact y2⟩, x2.trans (rz l l8).symm, ?_⟩
      rw [x2]
      exact ⟨by decide, by decide⟩
    · rw [g2] at hi
      have x := g7 i hi
      have x : G (24 + 8) i = A 31 i := x
      obtain ⟨y1, y2⟩ := rp' i hi
      exact ⟨x.trans y1.symm, by rw [x, g1]; exact y2⟩
  have tD := tk_rg (T := 15) (O := 24) (Or.inl (by omega)) tG
  have t7 := tk_7 (T := 15) (O := 24) (Or.inl (by omega)) tG
  obtain ⟨D, hD⟩ : ∃ D : fl_M, D = m_23 15 24 G := ⟨_, rfl⟩
  rw [← hD] at tD t7 ⊢
  obtain ⟨k1, k2⟩ := rg_66 (fl_u D 42 0 0)
  obtain ⟨C, hC⟩ : ∃ C : fl_M, C = lr_21_66 (fl_u D 42 0 0) := ⟨_, rfl⟩
  rw [← hC] at k1 k2 ⊢
  have oC : ∀ c, c < 42 → C c = D c := fun c hc => (k1 c (by omega)).trans (fl_un (by omega))
  have c42 : C 42 0 = 0 := by rw [k1 42 (by omega), fl_us]
  have tC : tr 15 0 C R := tr_cc tD (fun k hk => oC _ (by omega))
  have d0 : C 15 0 = A 24 0 := tC.1.1.trans r811
  have d1 : C 15 1 = A 24 1 := tC.1.2.1.trans r814
  have d22 : ∀ i, i < (A 24 1).toNatClampNeg → C 22 i = A 31 i := fun i hi => by
    rw [oC 22 (by omega)]
    exact (t7 i (by rw [g2]; exact hi)).trans (congrFun (g0 31 (by decide) (by decide) (by decide) (by decide)) i)
  have r00 : R 82 0 = 0 := by rw [r0 0 (by omega) (by omega), if_neg (by omega)]
  refine ⟨tC, ?_, by rw [c42]; decide, fun k hk => ?_⟩
  · unfold kh
    rw [c42, r00]
    refine ⟨rfl, by decide, by decide, fun _ => ⟨fun n hn => absurd hn (Nat.not_lt_zero n), ?_⟩⟩
    have hb0 : hb 0 (0 : Int32).toNatClampNeg 0 = 0 := if_neg (Nat.not_lt_zero 0)
    rw [hb0]
    refine ⟨r1, r2, r3, fun l hl => ?_, rz, fun i hi => ?_⟩
    · rw [d0] at hl
      obtain ⟨y1, y2⟩ := rl' l hl
      have e : R 84 l = A 26 l := (r84 l hl).trans (p10 l (by omega)).2.symm
      exact ⟨y1.trans e.symm, by rw [e]; exact y2⟩
    · rw [d1] at hi
      rw [d22 i hi, d0]
      exact rp' i hi
  · unfold kh
    rw [k2 k hk, rk k hk]
    exact ⟨rfl, by decide, by decide, fun z => absurd z (by decide)⟩
section RE
variable {C R : fl_M}
theorem re_p (h : t2 C R) (hf : f2 C R) (hK : C 999 = sm_kl) (t : Int32) : v_21 t C = v_129 t R ∧ t2 (m_21 t C) (m_129 t R) := by
  unfold v_21 v_129 m_21 m_129
  by_cases hA : (t < 0) ∨ (¬ (t < 4))
  · simp only [if_pos hA, if_neg (fun z => ft_A3.mp z hA)]
    exact ⟨trivial, h⟩
  · obtain ⟨r1, r2, r3⟩ := ft_R4 hA
    obtain ⟨t1, gl, gu, t2'⟩ := hf.2 _ r3
    simp only [if_neg hA, if_pos (ft_A3.mpr hA)]
    rw [← t1]
    by_cases hB : C 9 t.toNatClampNeg = -1
    · simp only [if_pos hB, if_pos ((ft_B gl).mpr hB)]
      exact ⟨trivial, t2_no h 1 (f := 1) (by decide)⟩
    · simp only [if_neg hB, if_neg (fun z => hB ((ft_B gl).mp z))]
      rw [← ra_fo hf hK r1 r2 hB]
      by_cases hz : ra_v C t = (-9)
      · simp only [if_pos hz]
        have hps := ra_ps hf hK r1 r2 hB hz
        have ht := rg_tt hps (iv_ra hK r1 r2)
        have zC := az_ra C t
        have zR := fz_fo R t
        obtain ⟨-, -, -, e0, e1, ⟨⟨i1, i2⟩, ⟨i3, i4⟩, -⟩, -⟩ := hps
        have c0 := fi_cl (ra_M C t 24 0)
        have c1 := fi_cl (ra_M C t 24 1)
        obtain ⟨rr, -⟩ := rg_R (A := ra_M C t) (B := fo_M R t) (Z := lr_129_39 (fo_M R t)) (rg_39 _) e0 e1 (by omega) (by omega)
        have ebg : lr_22_53 24 (lr_22_18 24 (fl_u (fl_u (fl_u (ra_M C t) 24 2 0) 24 3 (-9)) 24 4 0)) = bgn 24 (ra_M C t) := rfl
        rw [ebg]
        obtain ⟨g0, -⟩ := bg_eq (T := 24) (C := ra_M C t) (by omega) (by omega)
        have oC : ∀ c, (c < 15 ∨ 58 < c) → lr_21_66 (fl_u (m_23 15 24 (bgn 24 (ra_M C t))) 42 0 0) c = C c := fun c hc => by
          rw [(rg_66 _).1 c (by omega), fl_un (by omega)]
          have e : m_23 15 24 (bgn 24 (ra_M C t)) c = bgn 24 (ra_M C t) c := by funext j; exact fr_23 (by omega)
          rw [e, g0 c (by omega) (by omega) (by omega) (by omega), zC c (by omega)]
        obtain ⟨q1, q2, q3⟩ := h.2
        refine ⟨ht.1.1.2.1, ht, ?_, ?_, fun f hf => ?_⟩
        · intro z
          rw [oC 0 (by omega), rr 81 11 (by omega), q1 z]
          exact (zR.2 11 (by decide)).symm
        · rw [oC 0 (by omega), rr 81 14 (by omega), q2]
          exact (zR.2 14 (by decide)).symm
        · rw [oC 80 (by omega), rr 91 f (by omega), q3 f hf]
          exact (congrFun (zR.1 91 (by decide)) f).symm
      · simp only [if_neg hz]
        exact ⟨trivial, t2_z h (az_ra C t) (fz_fo R t)⟩
end RE
/-! Look: the year with the fewest at one place, sought alike. -/
/-- counts by year and place -/
def nb (C R : fl_M) (m : Int) : Prop := ∀ y l, y < 20 → l < 8 → C (60 + y) l = R 95 (8 * (1 + y) + l) ∧ 0 ≤ (C (60 + y) l).toInt ∧ (C (60 + y) l).toInt ≤ m
theorem ka_59 (j : Nat) : fl_ar 59 j = 60 + j := by
  unfold fl_ar
  rw [if_neg (by decide)]
section NB
variable {C R : fl_M} {k : Int}
/-- the most at one place in a year -/
theorem mx_e (h : nb C R k) (h0 : 0 ≤ k) {y : Nat} (hy : y < 20) : lr_75_4 (Int32.ofNat y) 0 C = lr_174_76 (Int32.ofNat (1 + y)) 0 R ∧ (lr_75_4 (Int32.ofNat y) 0 C).toInt ≤ k := by
  have en := fi_at (m := y) (by omega)
  have e1 := fi_ti (m := 1 + y) (by omega)
  have e8 : (8 * Int32.ofNat (1 + y)).toInt = ((8 * (1 + y) : Nat) : Int) := by
    rw [fi_mul (by rw [e1, fj_8]; omega) (by rw [e1, fj_8]; omega), e1, fj_8]
    omega
  unfold lr_75_4 lr_174_76 lq_75_4 lq_174_76
  refine it_r (f := ls_75_4 (Int32.ofNat y) C) (g := ls_174_76 (Int32.ofNat (1 + y)) R) (fun _ x z => x = z ∧ x.toInt ≤ k) ⟨rfl, by rw [fi_i0]; exact h0⟩ (fun m x z hm hR => ?_)
  obtain ⟨t1, t2'⟩ := hR
  have t1 : x = z := t1
  subst t1
  have em := fi_at (m := m) (by omega)
  have e := fj_nn (fj_pa (x := 8 * Int32.ofNat (1 + y)) (y := Int32.ofNat m) e8 (fi_ti (m := m) (by omega)) (by omega))
  obtain ⟨q1, q2, q3⟩ := h y m hy hm
  unfold ls_75_4 ls_174_76
  rw [en, em, e, ka_59, ← q1]
  by_cases c : x < C (60 + y) m
  · rw [if_pos c]
    exact ⟨rfl, q3⟩
  · rw [if_neg c]
    exact ⟨rfl, t2'⟩
theorem sk_e (h : nb C R k) (h0 : 0 ≤ k) (h6 : k ≤ 6) : lr_72_46 0 7 C = lr_174_63 (-9) 99999 R := by
  have key := it_r (f := ls_72_46 C) (g := ls_174_63 R) (n := 20) (a := ((0 : Int32), (7 : Int32))) (b := ((-9 : Int32), (99999 : Int32))) (fun m x z => (m = 0 → x = ((0 : Int32), (7 : Int32)) ∧ z = ((-9 : Int32), (99999 : Int32))) ∧ (m ≠ 0 → x = z)) ⟨fun _ => ⟨rfl, rfl⟩, fun z => absurd rfl z⟩ (fun m x z hm hR => ?_)
  · exact key.2 (by decide)
  · refine ⟨fun z => absurd z (by omega), fun _ => ?_⟩
    obtain ⟨w1, w2⟩ := mx_e h h0 (y := m) hm
    have es : Int32.ofNat m + 1 = Int32.ofNat (1 + m) := by
      rw [fi_e, fi_p1 (by rw [fi_ti (by omega)]; omega), fi_ti (by omega), fi_ti (by omega)]
      omega
    unfold ls_72_46 ls_174_63
    rw [← w1, es]
    by_cases hz : m = 0
    · obtain ⟨x1, z1⟩ := hR.1 hz
      rw [x1, z1]
      have c1 : lr_75_4 (Int32.ofNat m) 0 C < 7 := by
        rw [fi_l, show (7 : Int32).toInt = 7 from rfl]
        omega
      have c2 : lr_75_4 (Int32.ofNat m) 0 C < 99999 := by
        rw [fi_l, show (99999 : Int32).toInt = 99999 from rfl]
        omega
      rw [if_pos c1, if_pos c2]
    · rw [hR.2 hz]
end NB
/-! Look: the counting, year by year. -/
def nc (C R : fl_M) (k : Int) (m : Nat) : Prop := ∀ y l, y < 20 → l < 8 → C (60 + y) l = R 95 (8 * (1 + y) + l) ∧ 0 ≤ (C (60 + y) l).toInt ∧ (C (60 + y) l).toInt ≤ k + 1 ∧ (m ≤ y → (C (60 + y) l).toInt ≤ k)
/-- what is counted with, over a base that moves -/
def lw (i : Nat) (C R A B : fl_M) (P : fl_M → fl_M → Prop) : Prop := ∃ C' R' : fl_M, tt C' R' ∧ (∀ c, (c < 60 ∨ 79 < c) → C' c = C c) ∧ (∀ c, c ≠ 95 → R' c = R c) ∧ fC C' A ∧ fK i R' B ∧ P C' R'
theorem ly_1 {C R a b : fl_M} {i : Nat} {k : Int} (h0 : 0 ≤ k) (h6 : k ≤ 6) {i1 : Int32} (i0 : 0 ≤ i1.toInt) (ei : i1.toNatClampNeg = i) {m : Nat} (hm : m < 20) (ht : tr 24 3776 a b) (hi : i < (a 24 1).toNatClampNeg) (h : lw i C R a b (fun X Y => nc X Y k m)) :
    tr 24 3776 (ls_74_23 i1 m a) (ls_175_66 i1 m b) ∧ i < (ls_74_23 i1 m a 24 1).toNatClampNeg ∧ lw i C R (ls_74_23 i1 m a) (ls_175_66 i1 m b) (fun X Y => nc X Y k (m + 1)) := by
  obtain ⟨C', R', t1, oC, oR, f1, f2', n1⟩ := h
  have g := aw_y (F := fK i R') (R := R') (fo_K i R') (C := C') ⟨ht, f1, f2'⟩
  unfold ls_74_23 ls_175_66
  rw [yr_1]
  obtain ⟨A, hA⟩ : ∃ A : fl_M, A = m_46 0 24 a := ⟨_, rfl⟩
  obtain ⟨B, hB⟩ : ∃ B : fl_M, B = m_150 3776 0 b := ⟨_, rfl⟩
  rw [← hA, ← hB] at g ⊢
  obtain ⟨gt, gC, gK⟩ := g
  have k1 : A 24 1 = a 24 1 := by
    rw [gt.1.2.1, gK.1 81 (by decide) (by decide), ← f2'.1 81 (by decide) (by decide), ← ht.1.2.1]
  have n8 := tr_n gt
  rw [k1] at n8
  obtain ⟨p1, p2, p3⟩ := gt.2.2.2.2.2.1 i (by rw [k1]; exact hi)
  have p1 : A 32 i = B 82 (3796 + i) := p1
  have p2 : 0 ≤ (A 32 i).toInt := p2
  have p3 : (A 32 i).toInt < (A 24 0).toInt := p3
  have cI := fi_cl i1
  have cp := fi_cl (A 32 i)
  have c0 := fi_cl (A 24 0)
  have en := fi_at (m := m) (by omega)
  have e1 := fi_ti (m := 1 + m) (by omega)
  have eI : (3796 + i1).toNatClampNeg = 3796 + i := fj_nn (fj_pa (x := 3796) (y := i1) (a := 3796) (c := i) rfl (by omega) (by omega))
  have e8 : (8 * Int32.ofNat (1 + m)).toInt = ((8 * (1 + m) : Nat) : Int) := by
    rw [fi_mul (by rw [e1, fj_8]; omega) (by rw [e1, fj_8]; omega), e1, fj_8]
    omega
  have e9 := fj_nn (fj_pa (x := 8 * Int32.ofNat (1 + m)) (y := A 32 i) (c := (A 32 i).toNatClampNeg) e8 (by omega) (by omega))
  rw [ei, eI, ← p1, en, ka_59, e9, gC (60 + m) (by omega), gK.1 95 (by decide) (by decide)]
  obtain ⟨p, hp⟩ : ∃ p : Nat, p = (A 32 i).toNatClampNeg := ⟨_, rfl⟩
  have p8 : p < 8 := by omega
  rw [← hp]
  obtain ⟨q1, q2, q3, q4⟩ := n1 m p hm p8
  rw [← q1]
  have ew := fi_p1 (p := C' (60 + m) p) (by have := q4 (Nat.le_refl m); omega)
  have q4 := q4 (Nat.le_refl m)
  obtain ⟨w, hw⟩ : ∃ w : Int32, w = C' (60 + m) p + 1 := ⟨_, rfl⟩
  rw [← hw] at ew ⊢
  have tR : tr 24 3776 A (fl_u B 95 (8 * (1 + m) + p) w) := tr_rc gt (by rw [fl_un (by decide)]) (by rw [fl_un (by decide)]) (fun z hz => fl_un (by omega)) (fun z h1 h2 => by rw [fl_un (by decide)])
  refine ⟨tr_cc tR (fun z hz => fl_un (by omega)), by rw [fl_un (by omega), k1]; exact hi, fl_u C' (60 + m) p w, fl_u R' 95 (8 * (1 + m) + p) w, tt_c t1 (fun c hc => fl_un (by omega)) (by rw [fl_un (by decide)]) (by rw [fl_un (by decide)]) (fun z hz => fl_un (by omega)) (fun j _ => by rw [fl_un (by decide)]), fun c hc => (fl_un (by omega)).trans (oC c hc), fun c hc => (fl_un hc).trans (oR c hc), fun c hc => ?_, ⟨fun c h1 h2 => ?_, fun j hj => ?_, fun j hj => ?_⟩, fun y l hy hl => ?_⟩
  · funext j
    unfold fl_u
    rw [gC c hc]
  · funext j
    unfold fl_u
    rw [gK.1 c h1 h2]
  · rw [fl_un (by decide), fl_un (by decide)]
    exact gK.2.1 j hj
  · rw [fl_un (by decide), fl_un (by decide)]
    exact gK.2.2 j hj
  · by_cases e : y = m ∧ l = p
    · obtain ⟨rfl, rfl⟩ := e
      rw [fl_us, fl_us]
      exact ⟨rfl, by omega, by omega, fun z => absurd z (by omega)⟩
    · obtain ⟨x1, x2, x3, x4⟩ := n1 y l hy hl
      rw [fl_uo (by omega), fl_uo (Or.inr (by omega))]
      exact ⟨x1, x2, x3, fun z => x4 (by omega)⟩
/-- twenty years -/
theorem ly_20 {C R a b : fl_M} {i : Nat} {k : Int} (h0 : 0 ≤ k) (h6 : k ≤ 6) {i1 : Int32} (i0 : 0 ≤ i1.toInt) (ei : i1.toNatClampNeg = i) (ht : tr 24 3776 a b) (hi : i < (a 24 1).toNatClampNeg) (h : lw i C R a b (fun X Y => nb X Y k)) : lw i C R (lr_74_23 i1 a) (lr_175_66 i1 b) (fun X Y => nb X Y (k + 1)) := by
  have key := it_r (f := ls_74_23 i1) (g := ls_175_66 i1) (n := 20) (a := a) (b := b) (fun m x z => tr 24 3776 x z ∧ i < (x 24 1).toNatClampNeg ∧ lw i C R x z (fun X Y => nc X Y k m)) ⟨ht, hi, ?_⟩ (fun m x z hm hR => ly_1 h0 h6 i0 ei hm hR.1 hR.2.1 hR.2.2)
  · obtain ⟨-, -, C', R', t1, oC, oR, f1, f2', n1⟩ := key
    exact ⟨C', R', t1, oC, oR, f1, f2', fun y l hy hl => ⟨(n1 y l hy hl).1, (n1 y l hy hl).2.1, (n1 y l hy hl).2.2.1⟩⟩
  · obtain ⟨C', R', t1, oC, oR, f1, f2', n1⟩ := h
    exact ⟨C', R', t1, oC, oR, f1, f2', fun y l hy hl => ⟨(n1 y l hy hl).1, (n1 y l hy hl).2.1, by have := (n1 y l hy hl).2.2; omega, fun _ => (n1 y l hy hl).2.2⟩⟩
/-! Look: kind by kind; both sides answer alike. -/
section LK
variable {C R : fl_M}
theorem lz_11 {y : Nat} (hy : y < 20) (q : fl_M) : ∀ c j, lr_73_11 (Int32.ofNat y) q c j = if c = 60 + y ∧ j < 8 then 0 else q c j := by
  unfold lr_73_11 lq_73_11
  refine it_p (f := ls_73_11 (Int32.ofNat y)) (n := 8) (a := q) (fun m x => ∀ c j, x c j = if c = 60 + y ∧ j < m then 0 else q c j) (fun c j => by rw [if_neg (by omega)]) (fun m x hm hx c j => ?_)
  have en := fi_at (m := y) (by omega)
  have em := fi_at (m := m) (by omega)
  unfold ls_73_11
  rw [en, em, ka_59]
  unfold fl_u
  rw [hx]
  (repeat' split) <;> first | rfl | omega
theorem lz_2 (q : fl_M) : ∀ c j, lr_73_2 q c j = if (60 ≤ c ∧ c < 80) ∧ j < 8 then 0 else q c j := by
  unfold lr_73_2 lq_73_2
  refine it_p (f := ls_73_2) (n := 20) (a := q) (fun m x => ∀ c j, x c j = if (60 ≤ c ∧ c < 60 + m) ∧ j < 8 then 0 else q c j) (fun c j => by rw [if_neg (by omega)]) (fun m x hm hx c j => ?_)
  unfold ls_73_2
  rw [lz_11 hm, hx]
  (repeat' split) <;> first | rfl | omega
theorem lz_10 (q : fl_M) : ∀ c j, lr_175_10 q c j = if c = 95 ∧ j < 168 then 0 else q c j := by
  unfold lr_175_10 lq_175_10
  refine it_p (f := ls_175_10) (n := 168) (a := q) (fun m x => ∀ c j, x c j = if c = 95 ∧ j < m then 0 else q c j) (fun c j => by rw [if_neg (by omega)]) (fun m x hm hx c j => ?_)
  have em := fi_at (m := m) (by omega)
  unfold ls_175_10
  rw [em]
  unfold fl_u
  rw [hx]
  (repeat' split) <;> first | rfl | omega
/-- nothing is counted yet -/
theorem lw_0 {M Y : fl_M} (ht : tt C R) (h1 : fC C M) (h2 : fR R Y) (i : Nat) : lw i C R (lr_73_2 M) (lr_175_10 Y) (fun X Z => nb X Z 0) := by
  have eA := lz_2 M
  have eB := lz_10 Y
  refine ⟨fun c => if 60 ≤ c ∧ c ≤ 79 then lr_73_2 M c else C c, fun c => if c = 95 then lr_175_10 Y c else R c, ?_, fun c hc => if_neg (by omega), fun c hc => if_neg hc, fun c hc => ?_, ⟨fun c a1 a2 => ?_, fun j hj => ?_, fun j hj => ?_⟩, fun y l hy hl => ?_⟩
  · exact tt_c ht (fun c hc => if_neg (by omega)) (by rw [if_neg (by decide)]) (by rw [if_neg (by decide)]) (fun z hz => if_neg (by omega)) (fun j _ => by rw [if_neg (by decide)])
  · dsimp only
    by_cases h : 60 ≤ c ∧ c ≤ 79
    · rw [if_pos h]
    · rw [if_neg h, ← h1 c hc]
      funext j
      rw [eA, if_neg (by omega)]
  · dsimp only
    by_cases h : c = 95
    · rw [if_pos h]
    · rw [if_neg h, ← h2.1 c a1]
      funext j
      rw [eB, if_neg (by omega)]
  · dsimp only
    rw [if_neg (by decide), eB, if_neg (by omega), h2.1 85 (by decide)]
  · dsimp only
    rw [if_neg (by decide), eB, if_neg (by omega)]
    exact h2.2 j hj
  · dsimp only
    rw [if_pos ⟨by omega, by omega⟩, if_pos rfl, eA, eB, if_pos ⟨⟨by omega, by omega⟩, hl⟩, if_pos ⟨rfl, by omega⟩]
    exact ⟨rfl, by decide, by decide⟩
/-- six kinds -/
theorem lk_6 {a b : fl_M} {i1 s : Int32} (i0 : 0 ≤ i1.toInt) (i2 : i1.toNatClampNeg < (C 15 1).toNatClampNeg) (h : lw i1.toNatClampNeg C R a b (fun X Z => nb X Z 0)) : lw i1.toNatClampNeg C R (lr_73_42 i1 s a) (lr_175_35 i1 s b) (fun X Z => nb X Z 6) := by
  unfold lr_73_42 lr_175_35 lq_73_42 lq_175_35
  refine it_r (f := ls_73_42 i1 s) (g := ls_175_35 i1 s) (n := 6) (a := a) (b := b) (fun m x z => lw i1.toNatClampNeg C R x z (fun X Z => nb X Z (m : Int))) h (fun m x z hm hR => ?_)
  obtain ⟨C', R', t1, oC, oR, f1, f2', n1⟩ := hR
  unfold ls_73_42 ls_175_35
  by_cases c1 : ((s >>> ((Int32.ofNat m) &&& 31)) &&& 1) = 1
  · rw [if_pos c1, if_pos c1]
    have i2' : i1.toNatClampNeg < (C' 15 1).toNatClampNeg := by rw [oC 15 (by omega)]; exact i2
    obtain ⟨⟨g1, g2, g3⟩, k1⟩ := ak_0 t1 f1 i2' f2' (Int32.ofNat m)
    have q := ly_20 (C := C) (R := R) (k := (m : Int)) (by omega) (by omega) i0 rfl g1 (by rw [fl_un (by decide), k1]; exact i2') ⟨C', R', t1, oC, oR, g2, g3, n1⟩
    exact q
  · rw [if_neg c1, if_neg c1]
    exact ⟨C', R', t1, oC, oR, f1, f2', fun y l hy hl => ⟨(n1 y l hy hl).1, (n1 y l hy hl).2.1, by have := (n1 y l hy hl).2.2; omega⟩⟩
/-- the end of it -/
theorem lk_e {M Y : fl_M} (h : t2 C R) (h1 : fC C M) (h2 : fR R Y) {i s : Int32} (i0 : 0 ≤ i.toInt) (i2 : i.toNatClampNeg < (C 15 1).toNatClampNeg) :
    lr_72_46 0 7 (lr_73_42 i s (lr_73_2 M)) = lr_174_63 (-9) 99999 (fl_u (lr_175_35 i s (lr_175_10 Y)) 85 i.toNatClampNeg (Y 85 i.toNatClampNeg)) ∧ t2 (lr_73_42 i s (lr_73_2 M)) (fl_u (lr_175_35 i s (lr_175_10 Y)) 85 i.toNatClampNeg (Y 85 i.toNatClampNeg)) := by
  obtain ⟨C', R', t1, oC, oR, f1, f2', n1⟩ := lk_6 (s := s) i0 i2 (lw_0 h.1 h1 h2 i.toNatClampNeg)
  have eY : Y 85 i.toNatClampNeg = R' 85 i.toNatClampNeg := by rw [h2.1 85 (by decide), oR 85 (by decide)]
  have fr := fK_R f2'
  rw [← eY] at fr
  refine ⟨sk_e (k := 6) (fun y l hy hl => ?_) (by decide) (by decide), t2_c h (fun c hc => (f1 c (by omega)).trans (oC c (by omega))) (fun z hz => (fr.1 z (by omega)).trans (oR z (by omega))) (fun j hj => (fr.2 j hj).trans (congrFun (oR 82 (by decide)) j))⟩
  rw [f1 (60 + y) (by omega), fr.1 95 (by decide)]
  exact n1 y l hy hl
theorem lo_k (h : t2 C R) (hf : f2 C R) (i r : Int32) : v_72 i r C = v_174 i r R ∧ t2 (m_72 i r C) (m_174 i r R) := by
  obtain ⟨p1, p2, p3⟩ := rf_p h hf i r
  unfold v_72 v_174 m_72 m_174
  by_cases c0 : v_68 i r C = 0
  · obtain ⟨q1, q2, ⟨i0, i2⟩, ⟨r0, r5⟩, qa, qb⟩ := p3 c0
    rw [if_pos qa, if_pos qb] at p1
    rw [c0] at p1
    simp only [if_pos c0, if_pos qa, if_pos qb, if_pos p1.symm]
    rw [q1, q2]
    obtain ⟨k1, k2, k3⟩ := kb_e h.1 hf i0 i2 r0 r5
    rw [← k1]
    have kR := fK_R k3
    by_cases c1 : (lr_71_5 i r 0 C).1 = 0
    · simp only [if_pos c1]
      exact ⟨trivial, as_t2 h k2 kR⟩
    · simp only [if_neg c1]
      obtain ⟨w1, w2⟩ := lk_e (s := (lr_71_5 i r 0 C).1) h k2 kR i0 i2
      rw [← w1]
      exact ⟨rfl, t2_tell w2 rfl⟩
  · simp only [if_neg c0]
    have nz := c0
    rw [p1] at nz
    by_cases qa : (¬ (i < 0)) ∧ (¬ ((R 81 4) - 1 < i))
    · simp only [if_pos qa] at p1 p2 nz ⊢
      by_cases qb : (¬ (r < 0)) ∧ (¬ (5 < r))
      · simp only [if_pos qb] at p1 p2 nz ⊢
        simp only [if_neg nz]
        exact ⟨p1, p2⟩
      · simp only [if_neg qb] at p1 p2 ⊢
        exact ⟨p1, p2⟩
    · simp only [if_neg qa] at p1 p2 ⊢
      exact ⟨p1, p2⟩
end LK
/-! Both sides one after the other, over one heap. -/
theorem gm_i {h h' : List va_E} {a : Nat} (e : h'[a]? = h[a]?) : fm_i h' a = fm_i h a := by
  funext i
  unfold fm_i
  rw [e]
theorem gm_l {h h' : List va_E} {a : Nat} (e : h'[a]? = h[a]?) : fm_l h' a = fm_l h a := by
  funext i
  unfold fm_l
  rw [e]
theorem pt_c {d kc km : Nat} {vs : List Value} {h h1 h2 : List va_E} {o1 o2 o o' : Option Value} {mc mr : fl_M} {jc jr : fl_J} (x1 : sm_Ex 200 sm_ML sm_B d kc (.ref 0 :: vs) h o1 h1) (y1 : sm_Ex 200 sm_ML sm_B d km (.ref 81 :: vs) h1 o2 h2) (hs : fl_sh h) (lo : ∀ a, 81 ≤ a → h1[a]? = h[a]?) (hi : ∀ a, a < 81 → h2[a]? = h1[a]?)
    (ht : t2 (fm_i h) (fm_i h)) (hj : jd (fm_l h) (fm_l h)) (hF : fl_C kc (.ref 0 :: vs) (fm_i h) (fm_l h) (o, mc, jc)) (hG : fl_C km (.ref 81 :: vs) (fm_i h1) (fm_l h1) (o', mr, jr))
    (hP : (∀ a, 81 ≤ a → fm_i h1 a = fm_i h a) → t2 (fm_i h) (fm_i h1) → jd (fm_l h) (fm_l h1) → t2 mc mr ∧ jd jc jr) : o1 = o ∧ o2 = o' ∧ t2 (fm_i h2) (fm_i h2) ∧ jd (fm_l h2) (fm_l h2) ∧ fl_sh h2 := by
  obtain ⟨s1, a1, m1, j1⟩ := fl_use x1 hs hF
  obtain ⟨s2, a2, m2, j2⟩ := fl_use y1 s1 hG
  have l1 : ∀ a, 81 ≤ a → fm_i h1 a = fm_i h a := fun a ha => gm_i (lo a ha)
  obtain ⟨p1, p2⟩ := hP l1 (t2_c ht (fun _ _ => rfl) (fun k hk => l1 k (by omega)) (fun j _ => by rw [l1 82 (by decide)])) ⟨by rw [gm_l (lo 81 (by decide))]; exact hj.1, by rw [gm_l (lo 81 (by decide))]; exact hj.2⟩
  have m1 : fm_i h1 = mc := m1
  have m2 : fm_i h2 = mr := m2
  have j1 : fm_l h1 = jc := j1
  have j2 : fm_l h2 = jr := j2
  refine ⟨a1, a2, ?_, ?_, s2⟩
  · rw [← m1, ← m2] at p1
    by_cases h81 : True
    · refine t2_c p1 (fun c hc => ?_) (fun k hk => rfl) (fun j _ => rfl)
      rcases Nat.lt_or_ge c 81 with h8 | h8
      · exact gm_i (hi c h8)
      · omega
    · exact absurd trivial h81
  · rw [← j1, ← j2] at p2
    exact ⟨by rw [gm_l (hi 0 (by decide))]; exact p2.1, by rw [gm_l (hi 0 (by decide))]; exact p2.2⟩
/-! Worlds out of the flat memory: shape, and bounds by cell and place. -/
/-- bounds: cell, first place, last place, least, most -/
abbrev wo_O : Type := Nat × Nat × Nat × Int × Int
def wo_h (M : fl_M) (o : wo_O) : Prop := ∀ j : Nat, o.2.1 ≤ j → j ≤ o.2.2.1 → o.2.2.2.1 ≤ (M o.1 j).toInt ∧ (M o.1 j).toInt ≤ o.2.2.2.2
def wo_t (p : Int × Int) : Bool := decide (p.1 ≤ -2147483648) && decide (2147483647 ≤ p.2)
def wo_b (a k l : Nat) (r : ar_R) : List wo_O := match r with
  | [p] => if wo_t p = true then [] else [(a, k, l, p.1, p.2)]
  | _ => []
def wo_1 (r : ar_R) : Bool := match r with
  | [_] => true
  | _ => false
def wo_v (a k ci : Nat) (v : aw_V) : Bool := match v with
  | .inl b => Nat.beq b (fl_fr ci a k) && Nat.beq (fl_ty ci k) 2
  | .inr (false, r) => Nat.beq (fl_ty ci k) 0 && wo_1 r
  | .inr (true, [p]) => Nat.beq (fl_ty ci k) 1 && (decide (p.1 ≤ -9223372036854775808) && decide (9223372036854775807 ≤ p.2))
  | _ => false
def wo_c (q : Nat × aw_A) : Bool := match q.2 with
  | .inl (ci, vs) => Nat.beq (fl_kd q.1) (10 + ci) && (Nat.blt ci 4 && (Nat.beq vs.length (fl_nf ci) && (List.range vs.length).all fun k => match vs[k]? with
    | some v => wo_v q.1 k ci v
    | none => true))
  | .inr (.inl (t, n, sg, tr)) => Nat.beq (fl_kd q.1) t && (Nat.blt t 2 && (Nat.beq n (fl_len q.1) && (sg.all (fun z => wo_1 z.2.2) && tr.all (fun z => Nat.blt z.1 n && wo_1 z.2))))
  | .inr (.inr (.inl (t, cs))) => Nat.beq (fl_kd q.1) t && (Nat.ble 2 t && (Nat.blt t 5 && (Nat.beq cs.length (fl_len q.1) && (List.range cs.length).all fun j => match cs[j]? with
    | some b => Nat.beq b (fl_ar q.1 j)
    | none => true)))
  | .inr (.inr (.inr _)) => Nat.blt q.1 98
def wo_f (a k : Nat) (v : Option aw_V) : List wo_O := match v with
  | some (.inr (false, r)) => wo_b a k k r
  | _ => []
def wo_o (q : Nat × aw_A) : List wo_O := match q.2 with
  | .inl (_, vs) => (List.range vs.length).flatMap fun k => wo_f q.1 k vs[k]?
  | .inr (.inl (_, _, sg, tr)) => (sg.flatMap fun z => wo_b q.1 z.1 z.2.1 z.2.2) ++ tr.flatMap fun z => wo_b q.1 z.1 z.1 z.2
  | _ => []
theorem wo_in {M : fl_M} {a k l : Nat} {r : ar_R} (h1 : wo_1 r = true) (ho : ∀ o ∈ wo_b a k l r, wo_h M o) {j : Nat} (hj : k ≤ j) (hl : j ≤ l) : ar_in (M a j).toInt r := by
  match r, h1 with
  | [p], _ =>
    refine ⟨p, List.mem_singleton.mpr rfl, ?_⟩
    by_cases ht : wo_t p = true
    · obtain ⟨t1, t2⟩ := sm_an ht
      have t1 := of_decide_eq_true t1
      have t2 := of_decide_eq_true t2
      have := (M a j).le_toInt
      have := (M a j).toInt_lt
      exact ⟨by omega, by omega⟩
    · have := ho (a, k, l, p.1, p.2) (by unfold wo_b; dsimp only; rw [if_neg ht]; exact List.mem_singleton.mpr rfl) j hj hl
      exact this
theorem wo_ni {M : fl_M} {a k l : Nat} {r : ar_R} (h : ∀ j : Nat, k ≤ j → j ≤ l → ar_in (M a j).toInt r) : ∀ o ∈ wo_b a k l r, wo_h M o := by
  intro o ho
  match r, ho with
  | [p], ho =>
    unfold wo_b at ho
    dsimp only at ho
    by_cases ht : wo_t p = true
    · rw [if_pos ht] at ho
      exact absurd ho List.not_mem_nil
    · rw [if_neg ht] at ho
      rw [List.mem_singleton.mp ho]
      intro j h1 h2
      obtain ⟨q, hq, e⟩ := h j h1 h2
      rw [List.mem_singleton.mp hq] at e
      exact e
  | [], ho => exact absurd ho List.not_mem_nil
  | _ :: _ :: _, ho => exact absurd ho List.not_mem_nil
theorem wo_rg {n : Nat} {p : Nat → Bool} (h : (List.range n).all p = true) {k : Nat} (hk : k < n) : p k = true := List.all_eq_true.mp h k (List.mem_range.mpr hk)
theorem wo_nb {a b : Nat} (h : Nat.beq a b = true) : a = b := Nat.eq_of_beq_eq_true h
theorem wo_nl {a b : Nat} (h : Nat.blt a b = true) : a < b := Nat.le_of_ble_eq_true h
/-- shape and bounds give the word of a cell -/
theorem wo_s {q : Nat × aw_A} {h : List va_E} (hh : fl_sh h) (hc : wo_c q = true) (ho : ∀ o ∈ wo_o q, wo_h (fm_i h) o) : ∃ e, h[q.1]? = some e ∧ aw_c q.2 e := by
  obtain ⟨a, c⟩ := q
  match c, hc, ho with
  | .inl (ci, vs), hc, ho =>
    obtain ⟨c1, hc⟩ := sm_an hc
    obtain ⟨c2, hc⟩ := sm_an hc
    obtain ⟨c3, hc⟩ := sm_an hc
    have c1 : fl_kd a = 10 + ci := wo_nb c1
    obtain ⟨fs, hfs, hl⟩ := fw_obj hh c1 (wo_nl c2)
    have he := sm_obj_s hfs
    refine ⟨_, he, fs, rfl, hl.trans (wo_nb c3).symm, fun k v w hk hw => ?_⟩
    have hkl : k < vs.length := by
      rcases Nat.lt_or_ge k vs.length with z | z
      · exact z
      · rw [List.getElem?_eq_none z] at hk
        cases hk
    have hv := wo_rg hc hkl
    dsimp only at hv
    rw [hk] at hv
    have ht := fl_ty_int hh he hw
    unfold fl_tv at ht
    match v, hv, hk with
    | .inl b, hv, _ =>
      obtain ⟨v1, v2⟩ := sm_an hv
      rw [wo_nb v2] at ht
      rw [show b = fl_fr ci a k from wo_nb v1]
      exact ht
    | .inr (false, r), hv, hk =>
      obtain ⟨v1, v2⟩ := sm_an hv
      rw [wo_nb v1] at ht
      obtain ⟨x, rfl⟩ := ht
      refine ⟨x, rfl, ?_⟩
      rw [← fm_i_fld hh he hw]
      refine wo_in (k := k) (l := k) v2 (fun o hb => ho o ?_) (Nat.le_refl _) (Nat.le_refl _)
      exact List.mem_flatMap.mpr ⟨k, List.mem_range.mpr hkl, by rw [hk]; exact hb⟩
    | .inr (true, [p]), hv, _ =>
      obtain ⟨v1, v2⟩ := sm_an hv
      obtain ⟨v2, v3⟩ := sm_an v2
      rw [wo_nb v1] at ht
      obtain ⟨x, rfl⟩ := ht
      have v2 := of_decide_eq_true v2
      have v3 := of_decide_eq_true v3
      have := x.le_toInt
      have := x.toInt_lt
      exact ⟨x, rfl, p, List.mem_singleton.mpr rfl, by omega, by omega⟩
  | .inr (.inl (t, n, sg, tr)), hc, ho =>
    obtain ⟨c1, hc⟩ := sm_an hc
    obtain ⟨c2, hc⟩ := sm_an hc
    obtain ⟨c3, hc⟩ := sm_an hc
    obtain ⟨c4, c5⟩ := sm_an hc
    have c1 : fl_kd a = t := wo_nb c1
    have c2 := wo_nl c2
    have he := fw_arr hh c1 c2 (fw_98 c1 (by omega))
    rw [← show n = fl_len a from wo_nb c3] at he
    refine ⟨_, he, _, rfl, fun z hz j h1 h2 => ?_, fun z hz => ?_⟩
    · exact wo_in (List.all_eq_true.mp c4 z hz) (fun o hb => ho o (List.mem_append.mpr (Or.inl (List.mem_flatMap.mpr ⟨z, hz, hb⟩)))) h1 h2
    · obtain ⟨d1, d2⟩ := sm_an (List.all_eq_true.mp c5 z hz)
      exact ⟨wo_nl d1, wo_in d2 (fun o hb => ho o (List.mem_append.mpr (Or.inr (List.mem_flatMap.mpr ⟨z, hz, hb⟩)))) (Nat.le_refl _) (Nat.le_refl _)⟩
  | .inr (.inr (.inl (t, cs))), hc, ho =>
    obtain ⟨c1, hc⟩ := sm_an hc
    obtain ⟨c2, hc⟩ := sm_an hc
    obtain ⟨c3, hc⟩ := sm_an hc
    obtain ⟨c4, c5⟩ := sm_an hc
    have c1 : fl_kd a = t := wo_nb c1
    have c2 : 2 ≤ t := Nat.le_of_ble_eq_true c2
    have c3 := wo_nl c3
    obtain ⟨f, he, hf⟩ := fw_refs hh c1 c2 c3 (fw_98 c1 (by omega))
    have c4 : cs.length = fl_len a := wo_nb c4
    rw [← c4] at he hf
    refine ⟨_, he, c2, c3, f, rfl, fun j b hb => ?_⟩
    have hjl : j < cs.length := by
      rcases Nat.lt_or_ge j cs.length with z | z
      · exact z
      · rw [List.getElem?_eq_none z] at hb
        cases hb
    have hv := wo_rg c5 hjl
    dsimp only at hv
    rw [hb] at hv
    rw [hf j hjl, show b = fl_ar a j from wo_nb hv]
  | .inr (.inr (.inr _)), hc, _ =>
    have hc : a < 98 := wo_nl hc
    exact ⟨_, List.getElem?_eq_getElem (show a < h.length by rw [hh.1]; exact hc), trivial⟩
/-- and the other way: the bounds of a cell's word -/
theorem wo_r {q : Nat × aw_A} {h : List va_E} (hh : fl_sh h) {e : va_E} (he : h[q.1]? = some e) (hc : aw_c q.2 e) : ∀ o ∈ wo_o q, wo_h (fm_i h) o := by
  obtain ⟨a, c⟩ := q
  intro o ho
  match c, hc, ho with
  | .inl (ci, vs), hc, ho =>
    obtain ⟨fs, rfl, hl, hv⟩ := hc
    obtain ⟨k, hk, ho⟩ := List.mem_flatMap.mp ho
    have hk := List.mem_range.mp hk
    match hvk : vs[k]?, ho with
    | some (.inr (false, r)), ho =>
      have hf : fs[k]? = some fs[k] := List.getElem?_eq_getElem (by rw [hl]; exact hk)
      obtain ⟨x, hx, hr⟩ := hv k _ _ hvk hf
      refine wo_ni (fun j h1 h2 => ?_) o ho
      have : j = k := Nat.le_antisymm h2 h1
      subst this
      rw [fm_i_fld hh he (hf.trans (congrArg some hx))]
      exact hr
    | some (.inr (true, r)), ho => exact absurd ho List.not_mem_nil
    | some (.inl _), ho => exact absurd ho List.not_mem_nil
    | none, ho => exact absurd ho List.not_mem_nil
  | .inr (.inl (t, n, sg, tr)), hc, ho =>
    obtain ⟨f, rfl, h1, h2⟩ := hc
    have hm := fm_i_arr hh he
    have hm : fm_i h a = f := hm
    rcases List.mem_append.mp ho with ho | ho
    · obtain ⟨z, hz, ho⟩ := List.mem_flatMap.mp ho
      exact wo_ni (fun j g1 g2 => by rw [hm]; exact h1 z hz j g1 g2) o ho
    · obtain ⟨z, hz, ho⟩ := List.mem_flatMap.mp ho
      refine wo_ni (fun j g1 g2 => ?_) o ho
      have : j = z.1 := Nat.le_antisymm g2 g1
      rw [hm, this]
      exact (h2 z hz).2
  | .inr (.inr (.inl _)), _, ho => exact absurd ho List.not_mem_nil
  | .inr (.inr (.inr _)), _, ho => exact absurd ho List.not_mem_nil
theorem wo_hs {H : aw_H} {h : List va_E} (hh : fl_sh h) (hc : H.all wo_c = true) (ho : ∀ o ∈ H.flatMap wo_o, wo_h (fm_i h) o) : aw_h H h := fun q hq => wo_s hh (List.all_eq_true.mp hc q hq) (fun o hb => ho o (List.mem_flatMap.mpr ⟨q, hq, hb⟩))
theorem wo_hr {H : aw_H} {h : List va_E} (hh : fl_sh h) (hH : aw_h H h) : ∀ o ∈ H.flatMap wo_o, wo_h (fm_i h) o := by
  intro o ho
  obtain ⟨q, hq, ho⟩ := List.mem_flatMap.mp ho
  obtain ⟨e, he, hc⟩ := hH q hq
  exact wo_r hh he hc o ho
/-- the deeds' word, over numbers -/
def wo_p (M : fl_M) : Prop := ∀ c : Nat, (c = 42 ∨ c = 47 ∨ c = 51 ∨ c = 55) → ∀ d : Nat, d < 40 → (M (c + 1) d).toInt = 1 → 0 ≤ (M (c + 2) d).toInt ∧ (M (c + 2) d).toInt ≤ 7
/-! Reading and taking over, within bounds. -/
theorem fi_7 : (7 : Int32).toInt = 7 := rfl
/-- the class' aside while it reads: what is read with stays, places are lines' numbers -/
def cq (M X : fl_M) : Prop := cI X ∧ X 32 = M 32 ∧ ∀ j : Nat, j < 4 → 0 ≤ (X 31 j).toInt ∧ (X 31 j).toInt ≤ 7
section CQ
variable {M X : fl_M}
theorem cq_ln (h : cq M X) {a : Nat} {n p : Int32} : cq M (ln_M X a n p) := by
  refine ⟨cI_ln h.1, ?_⟩
  obtain ⟨-, h1, h2⟩ := h
  unfold ln_M
  (repeat' split) <;> first | with_reducible exact ⟨h1, h2⟩ | exact ⟨by rw [fl_un (by decide), fl_un (by decide), fl_un (by decide)]; exact h1, fun j hj => by rw [fl_un (by decide), fl_un (by decide), fl_un (by decide)]; exact h2 j hj⟩
theorem cq_m (h : cq M X) {u w k x : Int32} {i : Nat} (u0 : 0 ≤ u.toInt) (u1 : u.toInt ≤ 7) : (fl_u (fl_u (fl_u (fl_u X 29 i k) 31 i u) 30 i w) 24 1 x) 32 = M 32 ∧ ∀ j : Nat, j < 4 → 0 ≤ ((fl_u (fl_u (fl_u (fl_u X 29 i k) 31 i u) 30 i w) 24 1 x) 31 j).toInt ∧ ((fl_u (fl_u (fl_u (fl_u X 29 i k) 31 i u) 30 i w) 24 1 x) 31 j).toInt ≤ 7 := by
  refine ⟨by rw [fl_un (by decide), fl_un (by decide), fl_un (by decide), fl_un (by decide)]; exact h.2.1, fun j hj => ?_⟩
  rw [fl_un (by decide), fl_un (by decide)]
  by_cases e : j = i
  · subst e
    rw [fl_us]
    exact ⟨u0, u1⟩
  · rw [fl_uo (Or.inr e), fl_un (by decide)]
    exact h.2.2 j hj
theorem cq_mo (h : cq M X) {a : Nat} (ha : 11 ≤ a ∧ a ≤ 14) {n p : Int32} : cq M (mo_M X a n p) := by
  refine ⟨cI_mo h.1, ?_⟩
  have hx := h.1.1
  have e1 : ¬ X 24 0 = 0 → (X 24 0 - 1).toInt = (X 24 0).toInt - 1 := fun _ => by rw [fi_sub (by rw [fi_i1]; omega) (by rw [fi_i1]; omega), fi_i1]
  unfold mo_M
  simp only [fl_un (show a ≠ 29 by omega), fl_un (show a ≠ 31 by omega)]
  split
  · exact h.2
  split
  · exact h.2
  rename_i c0
  have e1 := e1 c0
  split
  · split
    · rename_i f1
      have f1 := fg_b f1
      split
      · rw [fi_i0, e1] at f1
        exact cq_m h f1.1 (by omega)
      · exact h.2
    · exact h.2
  · exact h.2
theorem cq_cp {a : Nat} (ha : 11 ≤ a ∧ a ≤ 14) {n : Int32} : ∀ (f : Nat) (p : Int32) (X : fl_M), cq M X → cq M (cpar a n f p X).2 := by
  intro f
  induction f with
  | zero =>
    intro p X h
    unfold cpar
    exact h
  | succ f ih =>
    intro p X h
    unfold cpar
    (repeat' split) <;> (try dsimp only) <;> first | with_reducible exact ih _ _ h | with_reducible exact ih _ _ (cq_ln h) | with_reducible exact ih _ _ (cq_mo h ha) | with_reducible exact h | with_reducible exact cq_ln h | with_reducible exact cq_mo h ha
theorem cq_ra {C : fl_M} {t : Int32} (hK : C 999 = sm_kl) (h0 : 0 ≤ t.toInt) (h3 : t.toInt ≤ 3) (hr : ∀ j : Nat, j < 4 → 0 ≤ (C 31 j).toInt ∧ (C 31 j).toInt ≤ 7) : cq C (ra_M C t) := by
  have ct := fi_cl t
  have hz : cq C (fl_u (fl_u C 24 0 0) 24 1 0) := ⟨cI_0 hK, by rw [fl_un (by decide), fl_un (by decide)], fun j hj => by rw [fl_un (by decide), fl_un (by decide)]; exact hr j hj⟩
  unfold ra_M
  rw [fl_ar10]
  (repeat' split) <;> first | exact hz | exact cq_cp (by omega) _ _ _ hz
end CQ
/-- the reference while it reads: bounds, places are lines' numbers -/
def rz (X : fl_M) : Prop := rI X ∧ ∀ j : Nat, (j = 1 ∨ j = 4 ∨ j = 7 ∨ j = 10) → 0 ≤ (X 94 j).toInt ∧ (X 94 j).toInt ≤ 7
theorem rsk_94 : ∀ (f : Nat) (X : fl_M), rsk f X 94 = X 94 := by
  intro f
  induction f with
  | zero => intro X; rfl
  | succ f ih =>
    intro X
    unfold rsk
    split
    · split
      · rw [ih, fl_un (by decide)]
      · rfl
    · rfl
theorem rg_bd {M : fl_M} {hi : Int32} (h : rg M 0 hi = true) (h0 : 0 ≤ hi.toInt) (h9 : hi.toInt ≤ 9) : 0 ≤ (rv M).toInt ∧ (rv M).toInt ≤ hi.toInt := by
  obtain ⟨-, h2⟩ := sm_an h
  obtain ⟨h2, h3⟩ := sm_an h2
  have a : ¬ rh M < 48 + 0 := fun z => by rw [decide_eq_true z] at h2; cases h2
  have b : ¬ 48 + hi < rh M := fun z => by rw [decide_eq_true z] at h3; cases h3
  rw [fi_l] at a b
  have e0 : (48 + 0 : Int32).toInt = 48 := rfl
  have e1 : (48 + hi).toInt = 48 + hi.toInt := by rw [fi_add (by rw [fi_i48]; omega) (by rw [fi_i48]; omega), fi_i48]
  unfold rv
  rw [fi_sub (by rw [fi_i48]; omega) (by rw [fi_i48]; omega), fi_i48]
  omega
section RZ
variable {M X : fl_M}
theorem rz_rsk (h : rz X) {f : Nat} : rz (rsk f X) := ⟨rI_rsk h.1, fun j hj => by rw [rsk_94]; exact h.2 j hj⟩
theorem rz_rl (h : rz X) (hQ : (X 81 17).toInt < (X 81 18).toInt) : rz (rl_M X) := by
  refine ⟨rI_rl h.1 hQ, ?_⟩
  have e : rl_M X 94 = X 94 := by
    unfold rl_M
    (repeat' split) <;> first | rfl | (repeat rw [fl_un (by decide)])
  rw [e]
  exact h.2
theorem rz_m (h : rz X) {m k v w a b c x : Int32} (m0 : 0 ≤ m.toInt) (m4 : m.toInt < 4) (v0 : 0 ≤ v.toInt) (v7 : v.toInt ≤ 7) : ∀ j : Nat, (j = 1 ∨ j = 4 ∨ j = 7 ∨ j = 10) → 0 ≤ ((fl_u (fl_u (fl_u (fl_u (fl_u (fl_u (fl_u X 81 17 a) 81 17 b) 81 17 c) 94 ((3 * m).toNatClampNeg) k) 94 (((3 * m) + 1).toNatClampNeg) v) 94 (((3 * m) + 2).toNatClampNeg) w) 81 22 x) 94 j).toInt ∧ ((fl_u (fl_u (fl_u (fl_u (fl_u (fl_u (fl_u X 81 17 a) 81 17 b) 81 17 c) 94 ((3 * m).toNatClampNeg) k) 94 (((3 * m) + 1).toNatClampNeg) v) 94 (((3 * m) + 2).toNatClampNeg) w) 81 22 x) 94 j).toInt ≤ 7 := by
  intro j hj
  have e3 : (3 * m).toInt = 3 * m.toInt := by rw [fi_mul (by rw [fi_i3]; omega) (by rw [fi_i3]; omega), fi_i3]
  have e31 : ((3 * m) + 1).toInt = 3 * m.toInt + 1 := by rw [fi_p1 (by omega), e3]
  have e32 : ((3 * m) + 2).toInt = 3 * m.toInt + 2 := by rw [fi_add (by rw [fj_2]; omega) (by rw [fj_2]; omega), e3, fj_2]
  have f3 := fi_cl (3 * m)
  have f31 := fi_cl ((3 * m) + 1)
  have f32 := fi_cl ((3 * m) + 2)
  rw [fl_un (by decide), fl_uo (Or.inr (by omega))]
  by_cases e : j = ((3 * m) + 1).toNatClampNeg
  · rw [e, fl_us]
    exact ⟨v0, v7⟩
  · rw [fl_uo (Or.inr e), fl_uo (Or.inr (by omega)), fl_un (by decide), fl_un (by decide), fl_un (by decide)]
    exact h.2 j hj
theorem rz_rm (h : rz X) (hQ : (X 81 17).toInt < (X 81 18).toInt) : rz (rm_M X) := by
  refine ⟨rI_rm h.1 hQ, ?_⟩
  have hL := h.1.2.2.1
  have hm := h.1.2.2.2
  have keep : ∀ Z : fl_M, Z 94 = X 94 → ∀ j : Nat, (j = 1 ∨ j = 4 ∨ j = 7 ∨ j = 10) → 0 ≤ (Z 94 j).toInt ∧ (Z 94 j).toInt ≤ 7 := fun Z hZ j hj => by rw [hZ]; exact h.2 j hj
  unfold rm_M
  split
  · exact h.2
  split
  · exact h.2
  rename_i c4
  have c4 := fi_ne c4
  rw [fi_i4] at c4
  split
  · exact h.2
  rename_i c0
  have c0 := fi_ne c0
  rw [fi_i0] at c0
  have e1 : (X 81 19 - 1).toInt = (X 81 19).toInt - 1 := by rw [fi_sub (by rw [fi_i1]; omega) (by rw [fi_i1]; omega), fi_i1]
  split
  · rename_i g1
    have g := rg_bd g1 (by omega) (by omega)
    split
    · exact rz_m h hm.1 (by omega) g.1 (by omega)
    · exact keep _ (by rw [fl_un (by decide), fl_un (by decide)])
  · exact keep _ (by rw [fl_un (by decide)])
theorem rz_rp : ∀ (f : Nat) (v : Int32) (X : fl_M), rz X → rz (rpar f v X).2 := by
  intro f
  induction f with
  | zero =>
    intro v X h
    unfold rpar
    exact h
  | succ f ih =>
    intro v X h
    unfold rpar
    split
    · exact h
    split
    · rename_i hq
      have hq := fi_l.mp hq
      split
      · split
        · exact ih _ _ (rz_rl h hq)
        · exact ih _ _ (rz_rsk (rz_rl h hq))
      · split
        · exact ih _ _ (rz_rm h hq)
        · exact ih _ _ (rz_rsk (rz_rm h hq))
    · exact h
theorem rz_hd (h : rz X) : rz (hd_M X) := by
  refine ⟨rI_hd h.1, ?_⟩
  have e : hd_M X 94 = X 94 := by
    unfold hd_M
    (repeat' split) <;> rw [fl_un (by decide), rsk_94]
  rw [e]
  exact h.2
theorem rz_fo {t : Int32} (h0 : 0 ≤ t.toInt) (h3 : t.toInt ≤ 3) (hn0 : 0 ≤ (M 89 t.toNatClampNeg).toInt) (hn : (M 89 t.toNatClampNeg).toInt ≤ 60) (hr : ∀ j : Nat, (j = 1 ∨ j = 4 ∨ j = 7 ∨ j = 10) → 0 ≤ (M 94 j).toInt ∧ (M 94 j).toInt ≤ 7) : rz (fo_M M t) := by
  have et : (60 * t).toInt = 60 * t.toInt := by rw [fi_mul (by rw [fi_i60]; omega) (by rw [fi_i60]; omega), fi_i60]
  have hi : rz (fl_u (fl_u (fl_u (fl_u (fl_u M 81 16 (60 * t)) 81 17 0) 81 18 (M 89 t.toNatClampNeg)) 81 19 0) 81 22 0) := by
    refine ⟨⟨⟨show 0 ≤ (60 * t).toInt by omega, show (60 * t).toInt ≤ 180 by omega⟩, ⟨show 0 ≤ (0 : Int32).toInt by decide, show (0 : Int32).toInt ≤ (M 89 t.toNatClampNeg).toInt by rw [fi_i0]; exact hn0, hn⟩, ⟨show 0 ≤ (0 : Int32).toInt by decide, show (0 : Int32).toInt ≤ 8 by decide⟩, ⟨show 0 ≤ (0 : Int32).toInt by decide, show (0 : Int32).toInt ≤ 4 by decide⟩⟩, fun j hj => ?_⟩
    rw [fl_un (by decide), fl_un (by decide), fl_un (by decide), fl_un (by decide), fl_un (by decide)]
    exact hr j hj
  have h2 := rz_hd hi
  unfold fo_M
  (repeat' split) <;> first | with_reducible exact rz_rp _ _ _ h2 | with_reducible exact rz_rp _ _ _ (rz_rsk h2)
end RZ
/-! A run is there: fault, register (both sides). -/
theorem fi_944 : (944 : Int32).toInt = 944 := rfl
section FWR
variable {d : Nat} {B : sm_P} {pc : Nat} {ls st : List Value} {M : fl_M} {J : fl_J} {s s' : fl_S}
theorem fw_icN (hB : fw_B B) {q : Jvm.ClassFile.Cond} {off : Int} {t : Nat} {x y : Int32} {c : Prop} [Decidable c] (hi : B.1 pc = some (.if_icmp q off, 3)) (ht : sm_j pc off = some t) (hb : sm_cmp q x y = true ↔ ¬ c) (k1 : c → fw d B (pc + 3, ls, st, M, J)) (k2 : ¬ c → fw d B (t, ls, st, M, J)) : fw d B (pc, ls, .int y :: .int x :: st, M, J) :=
  fw_ic hB hi ht hb k2 (fun z => k1 (Decidable.not_not.mp z))
theorem fw_ifN (hB : fw_B B) {q : Jvm.ClassFile.Cond} {off : Int} {t : Nat} {x : Int32} {c : Prop} [Decidable c] (hi : B.1 pc = some (.ifCond q off, 3)) (ht : sm_j pc off = some t) (hb : sm_cmp q x 0 = true ↔ ¬ c) (k1 : c → fw d B (pc + 3, ls, st, M, J)) (k2 : ¬ c → fw d B (t, ls, st, M, J)) : fw d B (pc, ls, .int x :: st, M, J) :=
  fw_if hB hi ht hb k2 (fun z => k1 (Decidable.not_not.mp z))
theorem fw_cv (hB : fw_B B) {x k np ci m b : Nat} {As st0 st' : List Value} {o : Option Value} {M' : fl_M} {J' : fl_J} (hi : B.1 pc = some (.invokevirtual x, 3)) (hc : B.2.2.1 x = some (0, k, np, ci)) (hm : m = np + 1) (hn : np = As.length) (hst : st = As.reverse ++ .ref b :: st0) (hcat : (st0.map fun v => v.category).sum ≤ 8) (hkd : fl_kd b = 10 + ci) (hci : ci < 4) (hC : tw_C d k (.ref b :: As) M J (o, M', J')) (hr : o.toList ++ st0 = st') (kk : fw d B (pc + 3, ls, st', M', J')) : fw d B (pc, ls, st, M, J) := by
  subst hst
  subst hn
  subst hr
  refine fw_call hB hi (fun h hH => ?_) hC.1 hC.2 kk
  obtain ⟨fs, hf, -⟩ := fw_obj hH.1 hkd hci
  exact ⟨rfl, hcat, Or.inl ⟨x, ci, b, As, rfl, hc, rfl, rfl, fs, hf⟩⟩
theorem fw_cs (hB : fw_B B) {x k np ci t : Nat} {vs st0 st' : List Value} {o : Option Value} {M' : fl_M} {J' : fl_J} (hi : B.1 pc = some (.invokestatic x, 3)) (hc : B.2.2.1 x = some (t, k, np, ci)) (ht : t = 1 ∨ t = 2) (hn : np = vs.length) (hst : st = vs.reverse ++ st0) (hcat : (st0.map fun v => v.category).sum ≤ 8) (hC : tw_C d k vs M J (o, M', J')) (hr : o.toList ++ st0 = st') (kk : fw d B (pc + 3, ls, st', M', J')) : fw d B (pc, ls, st, M, J) := by
  subst hst
  subst hn
  subst hr
  refine fw_call hB hi (fun h hH => ?_) hC.1 hC.2 kk
  rcases ht with rfl | rfl
  · exact ⟨rfl, hcat, Or.inr (Or.inl ⟨x, ci, rfl, hc, rfl⟩)⟩
  · exact ⟨rfl, hcat, Or.inr (Or.inr ⟨x, ci, rfl, hc, rfl⟩)⟩
theorem fw_ri {v : Int32} (hi : B.1 pc = some (.ireturn, 1)) (hr : B.2.2.2 = some .int) : fw d B (pc, ls, [.int v], M, J) := fw_re (o := some (.int v)) hi ⟨rfl, Or.inl ⟨rfl, v, rfl, rfl, Or.inl hr⟩⟩
theorem fw_rv (hi : B.1 pc = some (.return_, 1)) (hr : B.2.2.2 = none) : fw d B (pc, ls, [], M, J) := fw_re (o := none) hi ⟨rfl, Or.inr (Or.inr ⟨rfl, rfl, rfl, hr⟩)⟩
theorem fw_d2 (hB : fw_B B) {v w : Value} (hi : B.1 pc = some (.dup2, 1)) (hv : v.category = 1) (hw : w.category = 1) (k : fw d B (pc + 1, ls, v :: w :: v :: w :: st, M, J)) : fw d B (pc, ls, v :: w :: st, M, J) := by
  refine fw_s (st' := v :: w :: v :: w :: st) hB hi (fun h lv hH hl => ⟨h, ?_⟩) rfl k
  show (if v.category = 1 ∧ w.category = 1 then _ else none) = _
  rw [if_pos ⟨hv, hw⟩]
theorem tw_d2 {r : fl_Q} (hB : fw_B B) {v w : Value} (hi : B.1 pc = some (.dup2, 1)) (hv : v.category = 1) (hw : w.category = 1) (k : tw d B (pc + 1, ls, v :: w :: v :: w :: st, M, J) r) : tw d B (pc, ls, v :: w :: st, M, J) r :=
  ⟨fw_d2 hB hi hv hw k.1, fl_td (fl_i1 (fun d f => by unfold fl_one; dsimp only; rw [hi]; rfl)) k.2⟩
theorem fw_pf (hB : fw_B B) {a x ci j : Nat} {v : Int32} (hi : B.1 pc = some (.putfield x, 3)) (hx : B.2.1.1 x = some (ci, j, 0)) (hkd : fl_kd a = 10 + ci) (hci : ci < 4) (hj : j < fl_nf ci) (k : fw d B (pc + 3, ls, st, fl_u M a j v, J)) : fw d B (pc, ls, .int v :: .ref a :: st, M, J) := by
  refine fw_s (st' := st) hB hi (fun h lv hH hl => ?_) ?_ k
  · obtain ⟨hh, rfl, rfl⟩ := hH
    obtain ⟨fs, hf, hl2⟩ := fw_obj hh hkd hci
    refine ⟨h.set a (.inr (ci, fs.set j (.int v))), ?_⟩
    show (B.2.1.1 x).bind _ = _
    rw [hx]
    show (sm_obj h a ci).bind _ = _
    rw [hf]
    show (if j < fs.length then _ else _) = _
    rw [if_pos (by rw [hl2]; exact hj)]
  · show (B.2.1.1 x).bind _ = _
    rw [hx]
    rfl
theorem kd46 {i : Int32} (h0 : 0 ≤ i.toInt) (h3 : i.toInt < 3) : fl_kd (fl_ar 46 i.toNatClampNeg) = 10 + 0 := by
  have e := fi_cl i
  have : i.toNatClampNeg = 0 ∨ i.toNatClampNeg = 1 ∨ i.toNatClampNeg = 2 := by omega
  rcases this with h | h | h <;> rw [h] <;> rfl
theorem fw_sh (h : fw d B s) : fw d B s := h
end FWR
theorem fw_Co {d k : Nat} {B : sm_P} {vs ls : List Value} {M : fl_M} {J : fl_J} (hk : k < 200) (hB : sm_B k = B) (hl : fl_args (sm_ML k) vs = ls) (hv : (lg_sl vs).length ≤ sm_ML k) (hg : ∀ (i : Nat) (v : Value), ls[i]? = some v → v ≠ .null → sm_get (lv_args 0 vs) i = some v) (h : fw d B (0, ls, [], M, J)) : fw_C (d + 1) k vs M J := by
  intro hp hH
  have hv2 : (fl_sl vs).length ≤ sm_ML k := by rw [fl_sl_len]; exact hv
  have e : B.2.1.2.2.2.2.2.1 = sm_ML k := by rw [← hB]; rfl
  obtain ⟨g, o, h', hr⟩ := h hp (lv_args 0 vs) hH ⟨⟨by
    rw [e, ← hl]
    unfold fl_args
    rw [List.length_append, List.length_replicate]
    omega, fun q hq => by rw [← hl]; exact fl_sl_at vs [] _ q hq⟩, hg⟩
  exact ⟨o, h', hk, hv, g, by rw [hB]; exact hr⟩
theorem t4 {t : Int32} (h : ¬ ((t < 0) ∨ (¬ (t < 4)))) : 0 ≤ t.toInt ∧ t.toInt < 4 := by
  have a : ¬ t < 0 := fun z => h (Or.inl z)
  have b : t < 4 := Decidable.not_not.mp (fun z => h (Or.inr z))
  rw [fi_l, fi_i0] at a
  rw [fi_l, fi_i4] at b
  exact ⟨by omega, b⟩
theorem t3 {t : Int32} (h : (¬ (t < 0)) ∧ (¬ (3 < t))) : 0 ≤ t.toInt ∧ t.toInt < 4 := by
  obtain ⟨a, b⟩ := h
  rw [fi_l, fi_i0] at a
  rw [fi_l, fi_i3] at b
  exact ⟨by omega, by omega⟩
theorem tq {t : Int32} (h0 : 0 ≤ t.toInt) (h4 : t.toInt < 4) : t.toNatClampNeg < 4 := by
  have := fi_cl t
  omega
theorem ct_15 (d : Nat) (M : fl_M) (J : fl_J) (t : Int32) (h0 : 0 ≤ t.toInt) (h4 : t.toInt < 4) (hs : ∀ q, q < 4 → (M 9 q).toInt ≤ 60) (hK : M 999 = sm_kl) : tw_C (d + 3) 15 [.ref 0, .int t] M J (some (.int (ra_v M t)), ra_M M t, J) :=
  cc_15 d M J t h0 (by omega) (hs _ (tq h0 h4)) hK
theorem ct_120 (d : Nat) (M : fl_M) (J : fl_J) (t : Int32) (h0 : 0 ≤ t.toInt) (h4 : t.toInt < 4) (hs : ∀ q, q < 4 → (M 89 q).toInt ≤ 60) (hz : ¬ M 89 t.toNatClampNeg < 0) : tw_C (d + 5) 120 [.ref 81, .int t] M J (some (.int (fo_v M t)), fo_M M t, J) :=
  cc_120 d M J t h0 (by omega) (by rw [fi_l, fi_i0] at hz; omega) (hs _ (tq h0 h4))
set_option maxRecDepth 8000 in
theorem cu_12 (d : Nat) (M : fl_M) (J : fl_J) (t : Int32) : tw_C (d + 1) 12 [.int t] M J (some (.int (if (t < 0) ∨ (¬ (t < 4)) then 1 else 0)), M, J) := by
  have hB : fw_B fB12 := fw_sB (k := 12) (by decide)
  refine tw_Co (d := d + 0) (B := fB12) (by decide) rfl rfl (show (1 : Nat) ≤ 1 by decide) ?_ ?_
  · intro i v hv hn
    match i, hv with
    | 0, hv => cases hv; rfl
    | _ + 1, hv => cases hv
  exact tw_n (s' := (1, [.int t], [.int t], M, J)) hB 1 rfl <|
  tw_if hB (t := 9) rfl rfl fl_cT (fun h1 =>
   tw_n (s' := (14, [.int t], [.int 1], M, J)) hB 2 rfl <|
   tw_rb rfl rfl (by first | decide | (split <;> decide)) (by simp [h1])) (fun h1 =>
   tw_n (s' := (6, [.int t], [.int 4, .int t], M, J)) hB 2 rfl <|
   tw_ic hB (t := 13) rfl rfl fl_cT (fun h2 =>
    tw_n (s' := (14, [.int t], [.int 0], M, J)) hB 1 rfl <|
    tw_rb rfl rfl (by first | decide | (split <;> decide)) (by simp [h1, h2])) (fun h2 =>
    tw_n (s' := (14, [.int t], [.int 1], M, J)) hB 2 rfl <|
    tw_rb rfl rfl (by first | decide | (split <;> decide)) (by simp [h1, h2])))
set_option maxRecDepth 8000 in
theorem cu_117 (d : Nat) (M : fl_M) (J : fl_J) (t : Int32) : tw_C (d + 2) 117 [.int t] M J (some (.int (if (¬ (t < 0)) ∧ (¬ (3 < t)) then 1 else 0)), M, J) := by
  have hB : fw_B fB117 := fw_sB (k := 117) (by decide)
  refine tw_Co (d := d + 1) (B := fB117) (by decide) rfl rfl (show (1 : Nat) ≤ 1 by decide) ?_ ?_
  · intro i v hv hn
    match i, hv with
    | 0, hv => cases hv; rfl
    | _ + 1, hv => cases hv
  exact tw_n (s' := (6, [.int t], [.long 3, .long 0, .long t.toInt64], M, J)) hB 4 rfl <|
  tw_cs hB (st0 := []) (o := some (.int (if (¬ (t < 0)) ∧ (¬ (3 < t)) then 1 else 0))) rfl rfl (by decide) rfl rfl (show (0 : Nat) ≤ 8 by decide) (ct_105i _ M J t 0 3) rfl <|
  tw_sh (s := (9, [.int t], [.int (if (¬ (t < 0)) ∧ (¬ (3 < t)) then 1 else 0)], M, J)) <|
  tw_rb rfl rfl (by first | decide | (split <;> decide)) (rfl)
set_option maxRecDepth 8000 in
theorem cu_2 (d : Nat) (M : fl_M) (J : fl_J) (v : Int32) (h0 : 0 ≤ v.toInt) (h5 : v.toInt ≤ 5) : tw_C (d + 1) 2 [.ref 0, .int v] M J (some (.int (-3)), (fl_u (fl_u M 0 11 v) 80 v.toNatClampNeg ((M 80 v.toNatClampNeg) + 1)), J) := by
  have hB : fw_B fB2 := fw_sB (k := 2) (by decide)
  refine tw_Co (d := d + 0) (B := fB2) (by decide) rfl rfl (show (2 : Nat) ≤ 2 by decide) ?_ ?_
  · intro i v hv hn
    match i, hv with
    | 0, hv => cases hv; rfl
    | 1, hv => cases hv; rfl
    | _ + 2, hv => cases hv
  exact tw_n (s' := (10, [.ref 0, .int v], [.int v, .ref 80], (fl_u M 0 11 v), J)) hB 6 rfl <|
  tw_d2 hB rfl rfl rfl <|
  tw_ia hB rfl rfl (by decide) h0 (show v.toInt < 6 by omega) <|
  tw_n (s' := (14, [.ref 0, .int v], [.int ((M 80 v.toNatClampNeg) + 1), .int v, .ref 80], (fl_u M 0 11 v), J)) hB 2 rfl <|
  tw_is hB rfl rfl (by decide) h0 (show v.toInt < 6 by omega) <|
  tw_n (s' := (17, [.ref 0, .int v], [.int (-3)], (fl_u (fl_u M 0 11 v) 80 v.toNatClampNeg ((M 80 v.toNatClampNeg) + 1)), J)) hB 1 rfl <|
  tw_ri rfl rfl (rfl)
set_option maxRecDepth 8000 in
theorem cu_106 (d : Nat) (M : fl_M) (J : fl_J) (v : Int32) (h0 : 0 ≤ v.toInt) (h5 : v.toInt ≤ 5) : tw_C (d + 1) 106 [.ref 81, .int v] M J (some (.int (-3)), (fl_u (fl_u M 81 14 v) 91 v.toNatClampNeg ((M 91 v.toNatClampNeg) + 1)), J) := by
  have hB : fw_B fB106 := fw_sB (k := 106) (by decide)
  refine tw_Co (d := d + 0) (B := fB106) (by decide) rfl rfl (show (2 : Nat) ≤ 2 by decide) ?_ ?_
  · intro i v hv hn
    match i, hv with
    | 0, hv => cases hv; rfl
    | 1, hv => cases hv; rfl
    | _ + 2, hv => cases hv
  exact tw_n (s' := (10, [.ref 81, .int v], [.int v, .ref 91], (fl_u M 81 14 v), J)) hB 6 rfl <|
  tw_d2 hB rfl rfl rfl <|
  tw_ia hB rfl rfl (by decide) h0 (show v.toInt < 6 by omega) <|
  tw_n (s' := (14, [.ref 81, .int v], [.int ((M 91 v.toNatClampNeg) + 1), .int v, .ref 91], (fl_u M 81 14 v), J)) hB 2 rfl <|
  tw_is hB rfl rfl (by decide) h0 (show v.toInt < 6 by omega) <|
  tw_n (s' := (17, [.ref 81, .int v], [.int (-3)], (fl_u (fl_u M 81 14 v) 91 v.toNatClampNeg ((M 91 v.toNatClampNeg) + 1)), J)) hB 1 rfl <|
  tw_ri rfl rfl (rfl)
set_option maxRecDepth 8000 in
theorem fs_22_0 (d : Nat) (M : fl_M) (J : fl_J) (q1 : fw d fB22 (18, [.ref 24, .int 0], [], (fl_u (fl_u (fl_u M 24 2 0) 24 3 (-9)) 24 4 0), J)) : fw d fB22 (0, [.ref 24, .null], [], M, J) := by
  have hB : fw_B fB22 := fw_sB (k := 22) (by decide)
  exact fw_n (s' := (18, [.ref 24, .int 0], [], (fl_u (fl_u (fl_u M 24 2 0) 24 3 (-9)) 24 4 0), J)) hB 11 rfl <|
  q1
set_option maxRecDepth 8000 in
theorem fs_22_18 (d : Nat) (M : fl_M) (J : fl_J) (i : Int32) (hi : 0 ≤ i.toInt) (h8 : (M 24 0).toInt ≤ 8) (q1 : (i < (M 24 0)) → fw d fB22 (18, [.ref 24, .int (i + 1)], [], (fl_u (fl_u M 27 i.toNatClampNeg (M 26 i.toNatClampNeg)) 28 i.toNatClampNeg 0), J)) (q2 : (¬ (i < (M 24 0))) → fw d fB22 (53, [.ref 24, .int 0], [], M, J)) : fw d fB22 (18, [.ref 24, .int i], [], M, J) := by
  have hB : fw_B fB22 := fw_sB (k := 22) (by decide)
  exact fw_n (s' := (23, [.ref 24, .int i], [.int (M 24 0), .int i], M, J)) hB 3 rfl <|
  fw_icN hB (t := 51) rfl rfl fl_nlt (fun h1 =>
   fw_n (s' := (36, [.ref 24, .int i], [.int i, .ref 26, .int i, .ref 27], M, J)) hB 6 rfl <|
   fw_ia hB rfl rfl (by decide) (by have z : i.toInt < (M 24 0).toInt := fi_l.mp h1; show 0 ≤ (i).toInt; omega) (by have z : i.toInt < (M 24 0).toInt := fi_l.mp h1; show (i).toInt < 8; omega) <|
   fw_ia2 hB rfl rfl (by decide) (by have z : i.toInt < (M 24 0).toInt := fi_l.mp h1; show 0 ≤ (i).toInt; omega) (by have z : i.toInt < (M 24 0).toInt := fi_l.mp h1; show (i).toInt < 8; omega) <|
   fw_n (s' := (44, [.ref 24, .int i], [.int 0, .int i, .ref 28], (fl_u M 27 i.toNatClampNeg (M 26 i.toNatClampNeg)), J)) hB 4 rfl <|
   fw_ia2 hB rfl rfl (by decide) (by have z : i.toInt < (M 24 0).toInt := fi_l.mp h1; show 0 ≤ (i).toInt; omega) (by have z : i.toInt < (M 24 0).toInt := fi_l.mp h1; show (i).toInt < 8; omega) <|
   fw_n (s' := (18, [.ref 24, .int (i + 1)], [], (fl_u (fl_u M 27 i.toNatClampNeg (M 26 i.toNatClampNeg)) 28 i.toNatClampNeg 0), J)) hB 2 rfl <|
   (q1 h1)) (fun h1 =>
   fw_n (s' := (53, [.ref 24, .int 0], [], M, J)) hB 2 rfl <|
   (q2 h1))
set_option maxRecDepth 8000 in
theorem fs_22_53 (d : Nat) (M : fl_M) (J : fl_J) (i : Int32) (hi : 0 ≤ i.toInt) (h4 : (M 24 1).toInt ≤ 4) (q1 : (i < (M 24 1)) → fw d fB22 (53, [.ref 24, .int (i + 1)], [], (fl_u M 32 i.toNatClampNeg (M 31 i.toNatClampNeg)), J)) : fw d fB22 (53, [.ref 24, .int i], [], M, J) := by
  have hB : fw_B fB22 := fw_sB (k := 22) (by decide)
  exact fw_n (s' := (58, [.ref 24, .int i], [.int (M 24 1), .int i], M, J)) hB 3 rfl <|
  fw_icN hB (t := 79) rfl rfl fl_nlt (fun h1 =>
   fw_n (s' := (71, [.ref 24, .int i], [.int i, .ref 31, .int i, .ref 32], M, J)) hB 6 rfl <|
   fw_ia hB rfl rfl (by decide) (by have z : i.toInt < (M 24 1).toInt := fi_l.mp h1; show 0 ≤ (i).toInt; omega) (by have z : i.toInt < (M 24 1).toInt := fi_l.mp h1; show (i).toInt < 4; omega) <|
   fw_ia2 hB rfl rfl (by decide) (by have z : i.toInt < (M 24 1).toInt := fi_l.mp h1; show 0 ≤ (i).toInt; omega) (by have z : i.toInt < (M 24 1).toInt := fi_l.mp h1; show (i).toInt < 4; omega) <|
   fw_n (s' := (53, [.ref 24, .int (i + 1)], [], (fl_u M 32 i.toNatClampNeg (M 31 i.toNatClampNeg)), J)) hB 2 rfl <|
   (q1 h1)) (fun h1 =>
   fw_rv rfl rfl)
set_option maxRecDepth 8000 in
theorem fs_23_0 (d : Nat) (M : fl_M) (J : fl_J) (q1 : fw d fB23 (42, [.ref 15, .ref 24, .int 0], [], (fl_u (fl_u (fl_u (fl_u (fl_u M 15 0 (M 24 0)) 15 1 (M 24 1)) 15 2 (M 24 2)) 15 3 (M 24 3)) 15 4 (M 24 4)), J)) : fw d fB23 (0, [.ref 15, .ref 24, .null], [], M, J) := by
  have hB : fw_B fB23 := fw_sB (k := 23) (by decide)
  exact fw_n (s' := (42, [.ref 15, .ref 24, .int 0], [], (fl_u (fl_u (fl_u (fl_u (fl_u M 15 0 (M 24 0)) 15 1 (M 24 1)) 15 2 (M 24 2)) 15 3 (M 24 3)) 15 4 (M 24 4)), J)) hB 22 rfl <|
  q1
set_option maxRecDepth 8000 in
theorem fs_23_42 (d : Nat) (M : fl_M) (J : fl_J) (i : Int32) (hi : 0 ≤ i.toInt) (h8 : (M 15 0).toInt ≤ 8) (q1 : (i < (M 15 0)) → fw d fB23 (42, [.ref 15, .ref 24, .int (i + 1)], [], (fl_u (fl_u (fl_u (fl_u M 16 i.toNatClampNeg (M 25 i.toNatClampNeg)) 17 i.toNatClampNeg (M 26 i.toNatClampNeg)) 18 i.toNatClampNeg (M 27 i.toNatClampNeg)) 19 i.toNatClampNeg (M 28 i.toNatClampNeg)), J)) (q2 : (¬ (i < (M 15 0))) → fw d fB23 (106, [.ref 15, .ref 24, .int 0], [], M, J)) : fw d fB23 (42, [.ref 15, .ref 24, .int i], [], M, J) := by
  have hB : fw_B fB23 := fw_sB (k := 23) (by decide)
  exact fw_n (s' := (47, [.ref 15, .ref 24, .int i], [.int (M 15 0), .int i], M, J)) hB 3 rfl <|
  fw_icN hB (t := 104) rfl rfl fl_nlt (fun h1 =>
   fw_n (s' := (60, [.ref 15, .ref 24, .int i], [.int i, .ref 25, .int i, .ref 16], M, J)) hB 6 rfl <|
   fw_ia hB rfl rfl (by decide) (by have z : i.toInt < (M 15 0).toInt := fi_l.mp h1; show 0 ≤ (i).toInt; omega) (by have z : i.toInt < (M 15 0).toInt := fi_l.mp h1; show (i).toInt < 8; omega) <|
   fw_ia2 hB rfl rfl (by decide) (by have z : i.toInt < (M 15 0).toInt := fi_l.mp h1; show 0 ≤ (i).toInt; omega) (by have z : i.toInt < (M 15 0).toInt := fi_l.mp h1; show (i).toInt < 8; omega) <|
   fw_n (s' := (72, [.ref 15, .ref 24, .int i], [.int i, .ref 26, .int i, .ref 17], (fl_u M 16 i.toNatClampNeg (M 25 i.toNatClampNeg)), J)) hB 6 rfl <|
   fw_ia hB rfl rfl (by decide) (by have z : i.toInt < (M 15 0).toInt := fi_l.mp h1; show 0 ≤ (i).toInt; omega) (by have z : i.toInt < (M 15 0).toInt := fi_l.mp h1; show (i).toInt < 8; omega) <|
   fw_ia2 hB rfl rfl (by decide) (by have z : i.toInt < (M 15 0).toInt := fi_l.mp h1; show 0 ≤ (i).toInt; omega) (by have z : i.toInt < (M 15 0).toInt := fi_l.mp h1; show (i).toInt < 8; omega) <|
   fw_n (s' := (84, [.ref 15, .ref 24, .int i], [.int i, .ref 27, .int i, .ref 18], (fl_u (fl_u M 16 i.toNatClampNeg (M 25 i.toNatClampNeg)) 17 i.toNatClampNeg (M 26 i.toNatClampNeg)), J)) hB 6 rfl <|
   fw_ia hB rfl rfl (by decide) (by have z : i.toInt < (M 15 0).toInt := fi_l.mp h1; show 0 ≤ (i).toInt; omega) (by have z : i.toInt < (M 15 0).toInt := fi_l.mp h1; show (i).toInt < 8; omega) <|
   fw_ia2 hB rfl rfl (by decide) (by have z : i.toInt < (M 15 0).toInt := fi_l.mp h1; show 0 ≤ (i).toInt; omega) (by have z : i.toInt < (M 15 0).toInt := fi_l.mp h1; show (i).toInt < 8; omega) <|
   fw_n (s' := (96, [.ref 15, .ref 24, .int i], [.int i, .ref 28, .int i, .ref 19], (fl_u (fl_u (fl_u M 16 i.toNatClampNeg (M 25 i.toNatClampNeg)) 17 i.toNatClampNeg (M 26 i.toNatClampNeg)) 18 i.toNatClampNeg (M 27 i.toNatClampNeg)), J)) hB 6 rfl <|
   fw_ia hB rfl rfl (by decide) (by have z : i.toInt < (M 15 0).toInt := fi_l.mp h1; show 0 ≤ (i).toInt; omega) (by have z : i.toInt < (M 15 0).toInt := fi_l.mp h1; show (i).toInt < 8; omega) <|
   fw_ia2 hB rfl rfl (by decide) (by have z : i.toInt < (M 15 0).toInt := fi_l.mp h1; show 0 ≤ (i).toInt; omega) (by have z : i.toInt < (M 15 0).toInt := fi_l.mp h1; show (i).toInt < 8; omega) <|
   fw_n (s' := (42, [.ref 15, .ref 24, .int (i + 1)], [], (fl_u (fl_u (fl_u (fl_u M 16 i.toNatClampNeg (M 25 i.toNatClampNeg)) 17 i.toNatClampNeg (M 26 i.toNatClampNeg)) 18 i.toNatClampNeg (M 27 i.toNatClampNeg)) 19 i.toNatClampNeg (M 28 i.toNatClampNeg)), J)) hB 2 rfl <|
   (q1 h1)) (fun h1 =>
   fw_n (s' := (106, [.ref 15, .ref 24, .int 0], [], M, J)) hB 2 rfl <|
   (q2 h1))
set_option maxRecDepth 8000 in
theorem fs_23_106 (d : Nat) (M : fl_M) (J : fl_J) (i : Int32) (hi : 0 ≤ i.toInt) (h4 : (M 15 1).toInt ≤ 4) (q1 : (i < (M 15 1)) → fw d fB23 (106, [.ref 15, .ref 24, .int (i + 1)], [], (fl_u (fl_u (fl_u (fl_u M 20 i.toNatClampNeg (M 29 i.toNatClampNeg)) 21 i.toNatClampNeg (M 30 i.toNatClampNeg)) 22 i.toNatClampNeg (M 31 i.toNatClampNeg)) 23 i.toNatClampNeg (M 32 i.toNatClampNeg)), J)) : fw d fB23 (106, [.ref 15, .ref 24, .int i], [], M, J) := by
  have hB : fw_B fB23 := fw_sB (k := 23) (by decide)
  exact fw_n (s' := (111, [.ref 15, .ref 24, .int i], [.int (M 15 1), .int i], M, J)) hB 3 rfl <|
  fw_icN hB (t := 168) rfl rfl fl_nlt (fun h1 =>
   fw_n (s' := (124, [.ref 15, .ref 24, .int i], [.int i, .ref 29, .int i, .ref 20], M, J)) hB 6 rfl <|
   fw_ia hB rfl rfl (by decide) (by have z : i.toInt < (M 15 1).toInt := fi_l.mp h1; show 0 ≤ (i).toInt; omega) (by have z : i.toInt < (M 15 1).toInt := fi_l.mp h1; show (i).toInt < 4; omega) <|
   fw_ia2 hB rfl rfl (by decide) (by have z : i.toInt < (M 15 1).toInt := fi_l.mp h1; show 0 ≤ (i).toInt; omega) (by have z : i.toInt < (M 15 1).toInt := fi_l.mp h1; show (i).toInt < 4; omega) <|
   fw_n (s' := (136, [.ref 15, .ref 24, .int i], [.int i, .ref 30, .int i, .ref 21], (fl_u M 20 i.toNatClampNeg (M 29 i.toNatClampNeg)), J)) hB 6 rfl <|
   fw_ia hB rfl rfl (by decide) (by have z : i.toInt < (M 15 1).toInt := fi_l.mp h1; show 0 ≤ (i).toInt; omega) (by have z : i.toInt < (M 15 1).toInt := fi_l.mp h1; show (i).toInt < 4; omega) <|
   fw_ia2 hB rfl rfl (by decide) (by have z : i.toInt < (M 15 1).toInt := fi_l.mp h1; show 0 ≤ (i).toInt; omega) (by have z : i.toInt < (M 15 1).toInt := fi_l.mp h1; show (i).toInt < 4; omega) <|
   fw_n (s' := (148, [.ref 15, .ref 24, .int i], [.int i, .ref 31, .int i, .ref 22], (fl_u (fl_u M 20 i.toNatClampNeg (M 29 i.toNatClampNeg)) 21 i.toNatClampNeg (M 30 i.toNatClampNeg)), J)) hB 6 rfl <|
   fw_ia hB rfl rfl (by decide) (by have z : i.toInt < (M 15 1).toInt := fi_l.mp h1; show 0 ≤ (i).toInt; omega) (by have z : i.toInt < (M 15 1).toInt := fi_l.mp h1; show (i).toInt < 4; omega) <|
   fw_ia2 hB rfl rfl (by decide) (by have z : i.toInt < (M 15 1).toInt := fi_l.mp h1; show 0 ≤ (i).toInt; omega) (by have z : i.toInt < (M 15 1).toInt := fi_l.mp h1; show (i).toInt < 4; omega) <|
   fw_n (s' := (160, [.ref 15, .ref 24, .int i], [.int i, .ref 32, .int i, .ref 23], (fl_u (fl_u (fl_u M 20 i.toNatClampNeg (M 29 i.toNatClampNeg)) 21 i.toNatClampNeg (M 30 i.toNatClampNeg)) 22 i.toNatClampNeg (M 31 i.toNatClampNeg)), J)) hB 6 rfl <|
   fw_ia hB rfl rfl (by decide) (by have z : i.toInt < (M 15 1).toInt := fi_l.mp h1; show 0 ≤ (i).toInt; omega) (by have z : i.toInt < (M 15 1).toInt := fi_l.mp h1; show (i).toInt < 4; omega) <|
   fw_ia2 hB rfl rfl (by decide) (by have z : i.toInt < (M 15 1).toInt := fi_l.mp h1; show 0 ≤ (i).toInt; omega) (by have z : i.toInt < (M 15 1).toInt := fi_l.mp h1; show (i).toInt < 4; omega) <|
   fw_n (s' := (106, [.ref 15, .ref 24, .int (i + 1)], [], (fl_u (fl_u (fl_u (fl_u M 20 i.toNatClampNeg (M 29 i.toNatClampNeg)) 21 i.toNatClampNeg (M 30 i.toNatClampNeg)) 22 i.toNatClampNeg (M 31 i.toNatClampNeg)) 23 i.toNatClampNeg (M 32 i.toNatClampNeg)), J)) hB 2 rfl <|
   (q1 h1)) (fun h1 =>
   fw_rv rfl rfl)
set_option maxRecDepth 8000 in
theorem fs_21_66 (d : Nat) (M : fl_M) (J : fl_J) (t i : Int32) (hi : 0 ≤ i.toInt) (q1 : (i < 3) → fw d fB21 (66, [.ref 0, .int t, .int (i + 1)], [], (fl_u M (fl_ar 46 i.toNatClampNeg) 0 (-1)), J)) : fw d fB21 (66, [.ref 0, .int t, .int i], [], M, J) := by
  have hB : fw_B fB21 := fw_sB (k := 21) (by decide)
  exact fw_n (s' := (68, [.ref 0, .int t, .int i], [.int 3, .int i], M, J)) hB 2 rfl <|
  fw_icN hB (t := 87) rfl rfl fl_nlt (fun h1 =>
   fw_n (s' := (76, [.ref 0, .int t, .int i], [.int i, .ref 46], M, J)) hB 3 rfl <|
   fw_aa hB rfl (by decide) (by decide) (by have z : i.toInt < 3 := fi_l.mp h1; show 0 ≤ (i).toInt; omega) (by have z : i.toInt < 3 := fi_l.mp h1; show (i).toInt < 3; omega) <|
   fw_n (s' := (78, [.ref 0, .int t, .int i], [.int (-1), .ref (fl_ar 46 i.toNatClampNeg)], M, J)) hB 1 rfl <|
   fw_pf (ci := 0) (j := 0) hB rfl rfl (kd46 hi (fi_l.mp h1)) (by decide) (by decide) <|
   fw_n (s' := (66, [.ref 0, .int t, .int (i + 1)], [], (fl_u M (fl_ar 46 i.toNatClampNeg) 0 (-1)), J)) hB 2 rfl <|
   (q1 h1)) (fun h1 =>
   fw_n (s' := (94, [.ref 0, .int t, .int i], [.int (M 15 1)], M, J)) hB 3 rfl <|
   fw_ri rfl rfl)
set_option maxRecDepth 8000 in
theorem fs_129_39 (d : Nat) (M : fl_M) (J : fl_J) (t i : Int32) (hi : 0 ≤ i.toInt) (q1 : (i < 944) → fw d fB129 (39, [.ref 81, .int t, .int (i + 1)], [], (fl_u M 82 i.toNatClampNeg 0), J)) (q2 : (¬ (i < 944)) → fw d fB129 (85, [.ref 81, .int t, .int 0], [], (fl_u (fl_u (fl_u M 82 2 (-9)) 81 1 (M 81 19)) 81 4 (M 81 22)), J)) : fw d fB129 (39, [.ref 81, .int t, .int i], [], M, J) := by
  have hB : fw_B fB129 := fw_sB (k := 129) (by decide)
  exact fw_n (s' := (43, [.ref 81, .int t, .int i], [.int 944, .int i], M, J)) hB 2 rfl <|
  fw_icN hB (t := 59) rfl rfl fl_nlt (fun h1 =>
   fw_n (s' := (52, [.ref 81, .int t, .int i], [.int 0, .int i, .ref 82], M, J)) hB 4 rfl <|
   fw_ia2 hB rfl rfl (by decide) (by have z : i.toInt < 944 := fi_l.mp h1; show 0 ≤ (i).toInt; omega) (by have z : i.toInt < 944 := fi_l.mp h1; show (i).toInt < 3800; omega) <|
   fw_n (s' := (39, [.ref 81, .int t, .int (i + 1)], [], (fl_u M 82 i.toNatClampNeg 0), J)) hB 2 rfl <|
   (q1 h1)) (fun h1 =>
   fw_n (s' := (66, [.ref 81, .int t, .int i], [.int (-9), .int 2, .ref 82], M, J)) hB 4 rfl <|
   fw_ia2 hB rfl rfl (by decide) (by decide) (by decide) <|
   fw_n (s' := (85, [.ref 81, .int t, .int 0], [], (fl_u (fl_u (fl_u M 82 2 (-9)) 81 1 (M 81 19)) 81 4 (M 81 22)), J)) hB 10 rfl <|
   (q2 h1))
set_option maxRecDepth 8000 in
theorem fs_129_85 (d : Nat) (M : fl_M) (J : fl_J) (t i : Int32) (hi : 0 ≤ i.toInt) (hi8 : i.toInt ≤ 8) (h8 : (M 81 1).toInt ≤ 8) (q1 : (i < (M 81 1)) → fw d fB129 (85, [.ref 81, .int t, .int (i + 1)], [], (fl_u (fl_u (fl_u M 83 i.toNatClampNeg (M 92 i.toNatClampNeg)) 84 i.toNatClampNeg (M 93 i.toNatClampNeg)) 82 ((4 + i).toNatClampNeg) (M 93 i.toNatClampNeg)), J)) (q2 : (¬ (i < (M 81 1))) → fw d fB129 (139, [.ref 81, .int t, .int 0], [], M, J)) : fw d fB129 (85, [.ref 81, .int t, .int i], [], M, J) := by
  have hB : fw_B fB129 := fw_sB (k := 129) (by decide)
  have e4 : (4 + i).toInt = 4 + i.toInt := by rw [fi_add (by rw [fi_i4]; omega) (by rw [fi_i4]; omega), fi_i4]
  exact fw_n (s' := (90, [.ref 81, .int t, .int i], [.int (M 81 1), .int i], M, J)) hB 3 rfl <|
  fw_icN hB (t := 137) rfl rfl fl_nlt (fun h1 =>
   fw_n (s' := (103, [.ref 81, .int t, .int i], [.int i, .ref 92, .int i, .ref 83], M, J)) hB 6 rfl <|
   fw_ia hB rfl rfl (by decide) (by have z : i.toInt < (M 81 1).toInt := fi_l.mp h1; show 0 ≤ (i).toInt; omega) (by have z : i.toInt < (M 81 1).toInt := fi_l.mp h1; show (i).toInt < 8; omega) <|
   fw_ia2 hB rfl rfl (by decide) (by have z : i.toInt < (M 81 1).toInt := fi_l.mp h1; show 0 ≤ (i).toInt; omega) (by have z : i.toInt < (M 81 1).toInt := fi_l.mp h1; show (i).toInt < 8; omega) <|
   fw_n (s' := (115, [.ref 81, .int t, .int i], [.int i, .ref 93, .int i, .ref 84], (fl_u M 83 i.toNatClampNeg (M 92 i.toNatClampNeg)), J)) hB 6 rfl <|
   fw_ia hB rfl rfl (by decide) (by have z : i.toInt < (M 81 1).toInt := fi_l.mp h1; show 0 ≤ (i).toInt; omega) (by have z : i.toInt < (M 81 1).toInt := fi_l.mp h1; show (i).toInt < 8; omega) <|
   fw_ia2 hB rfl rfl (by decide) (by have z : i.toInt < (M 81 1).toInt := fi_l.mp h1; show 0 ≤ (i).toInt; omega) (by have z : i.toInt < (M 81 1).toInt := fi_l.mp h1; show (i).toInt < 8; omega) <|
   fw_n (s' := (129, [.ref 81, .int t, .int i], [.int i, .ref 93, .int (4 + i), .ref 82], (fl_u (fl_u M 83 i.toNatClampNeg (M 92 i.toNatClampNeg)) 84 i.toNatClampNeg (M 93 i.toNatClampNeg)), J)) hB 8 rfl <|
   fw_ia hB rfl rfl (by decide) (by have z : i.toInt < (M 81 1).toInt := fi_l.mp h1; show 0 ≤ (i).toInt; omega) (by have z : i.toInt < (M 81 1).toInt := fi_l.mp h1; show (i).toInt < 8; omega) <|
   fw_ia2 hB rfl rfl (by decide) (by have z : i.toInt < (M 81 1).toInt := fi_l.mp h1; show 0 ≤ (4 + i).toInt; omega) (by have z : i.toInt < (M 81 1).toInt := fi_l.mp h1; show (4 + i).toInt < 3800; omega) <|
   fw_n (s' := (85, [.ref 81, .int t, .int (i + 1)], [], (fl_u (fl_u (fl_u M 83 i.toNatClampNeg (M 92 i.toNatClampNeg)) 84 i.toNatClampNeg (M 93 i.toNatClampNeg)) 82 ((4 + i).toNatClampNeg) (M 93 i.toNatClampNeg)), J)) hB 2 rfl <|
   (q1 h1)) (fun h1 =>
   fw_n (s' := (139, [.ref 81, .int t, .int 0], [], M, J)) hB 2 rfl <|
   (q2 h1))
set_option maxRecDepth 8000 in
theorem fs_129_139 (d : Nat) (M : fl_M) (J : fl_J) (t i : Int32) (hi : 0 ≤ i.toInt) (hi4 : i.toInt ≤ 4) (h4 : (M 81 4).toInt ≤ 4) (q1 : (i < (M 81 4)) → fw d fB129 (139, [.ref 81, .int t, .int (i + 1)], [], (fl_u (fl_u (fl_u M 85 i.toNatClampNeg (M 94 ((3 * i).toNatClampNeg))) 82 ((20 + i).toNatClampNeg) (M 94 (((3 * i) + 1).toNatClampNeg))) 86 i.toNatClampNeg (M 94 (((3 * i) + 2).toNatClampNeg))), J)) (q2 : (¬ (i < (M 81 4))) → fw d fB129 (204, [.ref 81, .int t, .int 1], [], M, J)) : fw d fB129 (139, [.ref 81, .int t, .int i], [], M, J) := by
  have hB : fw_B fB129 := fw_sB (k := 129) (by decide)
  have e20 : (20 + i).toInt = 20 + i.toInt := by rw [fi_add (by rw [fj_20]; omega) (by rw [fj_20]; omega), fj_20]
  have e3 : (3 * i).toInt = 3 * i.toInt := by rw [fi_mul (by rw [fi_i3]; omega) (by rw [fi_i3]; omega), fi_i3]
  have e31 : ((3 * i) + 1).toInt = 3 * i.toInt + 1 := by rw [fi_p1 (by omega), e3]
  have e32 : ((3 * i) + 2).toInt = 3 * i.toInt + 2 := by rw [fi_add (by rw [fj_2]; omega) (by rw [fj_2]; omega), e3, fj_2]
  exact fw_n (s' := (144, [.ref 81, .int t, .int i], [.int (M 81 4), .int i], M, J)) hB 3 rfl <|
  fw_icN hB (t := 202) rfl rfl fl_nlt (fun h1 =>
   fw_n (s' := (159, [.ref 81, .int t, .int i], [.int (3 * i), .ref 94, .int i, .ref 85], M, J)) hB 8 rfl <|
   fw_ia hB rfl rfl (by decide) (by have z : i.toInt < (M 81 4).toInt := fi_l.mp h1; show 0 ≤ (3 * i).toInt; omega) (by have z : i.toInt < (M 81 4).toInt := fi_l.mp h1; show (3 * i).toInt < 12; omega) <|
   fw_ia2 hB rfl rfl (by decide) (by have z : i.toInt < (M 81 4).toInt := fi_l.mp h1; show 0 ≤ (i).toInt; omega) (by have z : i.toInt < (M 81 4).toInt := fi_l.mp h1; show (i).toInt < 4; omega) <|
   fw_n (s' := (178, [.ref 81, .int t, .int i], [.int ((3 * i) + 1), .ref 94, .int (20 + i), .ref 82], (fl_u M 85 i.toNatClampNeg (M 94 ((3 * i).toNatClampNeg))), J)) hB 12 rfl <|
   fw_ia hB rfl rfl (by decide) (by have z : i.toInt < (M 81 4).toInt := fi_l.mp h1; show 0 ≤ ((3 * i) + 1).toInt; omega) (by have z : i.toInt < (M 81 4).toInt := fi_l.mp h1; show ((3 * i) + 1).toInt < 12; omega) <|
   fw_ia2 hB rfl rfl (by decide) (by have z : i.toInt < (M 81 4).toInt := fi_l.mp h1; show 0 ≤ (20 + i).toInt; omega) (by have z : i.toInt < (M 81 4).toInt := fi_l.mp h1; show (20 + i).toInt < 3800; omega) <|
   fw_n (s' := (194, [.ref 81, .int t, .int i], [.int ((3 * i) + 2), .ref 94, .int i, .ref 86], (fl_u (fl_u M 85 i.toNatClampNeg (M 94 ((3 * i).toNatClampNeg))) 82 ((20 + i).toNatClampNeg) (M 94 (((3 * i) + 1).toNatClampNeg))), J)) hB 10 rfl <|
   fw_ia hB rfl rfl (by decide) (by have z : i.toInt < (M 81 4).toInt := fi_l.mp h1; show 0 ≤ ((3 * i) + 2).toInt; omega) (by have z : i.toInt < (M 81 4).toInt := fi_l.mp h1; show ((3 * i) + 2).toInt < 12; omega) <|
   fw_ia2 hB rfl rfl (by decide) (by have z : i.toInt < (M 81 4).toInt := fi_l.mp h1; show 0 ≤ (i).toInt; omega) (by have z : i.toInt < (M 81 4).toInt := fi_l.mp h1; show (i).toInt < 4; omega) <|
   fw_n (s' := (139, [.ref 81, .int t, .int (i + 1)], [], (fl_u (fl_u (fl_u M 85 i.toNatClampNeg (M 94 ((3 * i).toNatClampNeg))) 82 ((20 + i).toNatClampNeg) (M 94 (((3 * i) + 1).toNatClampNeg))) 86 i.toNatClampNeg (M 94 (((3 * i) + 2).toNatClampNeg))), J)) hB 2 rfl <|
   (q1 h1)) (fun h1 =>
   fw_n (s' := (204, [.ref 81, .int t, .int 1], [], M, J)) hB 2 rfl <|
   (q2 h1))
set_option maxRecDepth 8000 in
theorem fs_129_204 (d : Nat) (M : fl_M) (J : fl_J) (t i : Int32) (hi : 0 ≤ i.toInt) (hi4 : i.toInt ≤ 4) (q1 : (i < 4) → fw d fB129 (204, [.ref 81, .int t, .int (i + 1)], [], (fl_u M 82 (((944 * i) + 0).toNatClampNeg) (-1)), J)) : fw d fB129 (204, [.ref 81, .int t, .int i], [], M, J) := by
  have hB : fw_B fB129 := fw_sB (k := 129) (by decide)
  have e9 : ((944 * i) + 0).toInt = 944 * i.toInt := by rw [Int32.add_zero, fi_mul (by rw [fi_944]; omega) (by rw [fi_944]; omega), fi_944]
  exact fw_n (s' := (206, [.ref 81, .int t, .int i], [.int 4, .int i], M, J)) hB 2 rfl <|
  fw_icN hB (t := 228) rfl rfl fl_nlt (fun h1 =>
   fw_n (s' := (221, [.ref 81, .int t, .int i], [.int (-1), .int ((944 * i) + 0), .ref 82], M, J)) hB 8 rfl <|
   fw_ia2 hB rfl rfl (by decide) (by have z : i.toInt < 4 := fi_l.mp h1; show 0 ≤ ((944 * i) + 0).toInt; omega) (by have z : i.toInt < 4 := fi_l.mp h1; show ((944 * i) + 0).toInt < 3800; omega) <|
   fw_n (s' := (204, [.ref 81, .int t, .int (i + 1)], [], (fl_u M 82 (((944 * i) + 0).toNatClampNeg) (-1)), J)) hB 2 rfl <|
   (q1 h1)) (fun h1 =>
   fw_n (s' := (232, [.ref 81, .int t, .int i], [.int (M 81 4)], M, J)) hB 2 rfl <|
   fw_ri rfl rfl)
theorem fq_22b (d : Nat) (J : fl_J) : ∀ (n : Nat) (i : Int32) (M : fl_M), 0 ≤ i.toInt → (M 24 1).toInt ≤ 4 → 4 ≤ i.toInt + n → fw d fB22 (53, [.ref 24, .int i], [], M, J) := by
  intro n
  induction n with
  | zero => intro i M hi h4 hn; exact fs_22_53 d M J i hi h4 (fun z => by have z := fi_l.mp z; omega)
  | succ n ih =>
    intro i M hi h4 hn
    refine fs_22_53 d M J i hi h4 (fun z => ?_)
    have z := fi_l.mp z
    have e := fi_p1 (p := i) (by omega)
    exact ih _ _ (by omega) (by rw [fl_un (by decide)]; exact h4) (by omega)
theorem fq_22a (d : Nat) (J : fl_J) : ∀ (n : Nat) (i : Int32) (M : fl_M), 0 ≤ i.toInt → (M 24 0).toInt ≤ 8 → (M 24 1).toInt ≤ 4 → 8 ≤ i.toInt + n → fw d fB22 (18, [.ref 24, .int i], [], M, J) := by
  intro n
  induction n with
  | zero => intro i M hi h8 h4 hn; exact fs_22_18 d M J i hi h8 (fun z => by have z := fi_l.mp z; omega) (fun _ => fq_22b d J 4 _ _ (by decide) h4 (by decide))
  | succ n ih =>
    intro i M hi h8 h4 hn
    refine fs_22_18 d M J i hi h8 (fun z => ?_) (fun _ => fq_22b d J 4 _ _ (by decide) h4 (by decide))
    have z := fi_l.mp z
    have e := fi_p1 (p := i) (by omega)
    exact ih _ _ (by omega) (by rw [fl_un (by decide), fl_un (by decide)]; exact h8) (by rw [fl_un (by decide), fl_un (by decide)]; exact h4) (by omega)
theorem ct_22 (d : Nat) (M : fl_M) (J : fl_J) (h8 : (M 24 0).toInt ≤ 8) (h4 : (M 24 1).toInt ≤ 4) : tw_C (d + 1) 22 [.ref 24] M J (none, bgn 24 M, J) := by
  refine ⟨fw_Co (d := d) (B := fB22) (by decide) rfl rfl (show (1 : Nat) ≤ 2 by decide) ?_ ?_, cc_22 M J 24⟩
  · intro i v hv hn
    match i, hv with
    | 0, hv => cases hv; rfl
    | 1, hv => cases hv; exact absurd rfl hn
    | _ + 2, hv => cases hv
  · exact fs_22_0 d M J (fq_22a d J 8 _ _ (by decide) (by rw [fl_uo (Or.inr (by decide)), fl_uo (Or.inr (by decide)), fl_uo (Or.inr (by decide))]; exact h8) (by rw [fl_uo (Or.inr (by decide)), fl_uo (Or.inr (by decide)), fl_uo (Or.inr (by decide))]; exact h4) (by decide))
theorem fq_23b (d : Nat) (J : fl_J) : ∀ (n : Nat) (i : Int32) (M : fl_M), 0 ≤ i.toInt → (M 15 1).toInt ≤ 4 → 4 ≤ i.toInt + n → fw d fB23 (106, [.ref 15, .ref 24, .int i], [], M, J) := by
  intro n
  induction n with
  | zero => intro i M hi h4 hn; exact fs_23_106 d M J i hi h4 (fun z => by have z := fi_l.mp z; omega)
  | succ n ih =>
    intro i M hi h4 hn
    refine fs_23_106 d M J i hi h4 (fun z => ?_)
    have z := fi_l.mp z
    have e := fi_p1 (p := i) (by omega)
    exact ih _ _ (by omega) (by rw [fl_un (by decide), fl_un (by decide), fl_un (by decide), fl_un (by decide)]; exact h4) (by omega)
theorem fq_23a (d : Nat) (J : fl_J) : ∀ (n : Nat) (i : Int32) (M : fl_M), 0 ≤ i.toInt → (M 15 0).toInt ≤ 8 → (M 15 1).toInt ≤ 4 → 8 ≤ i.toInt + n → fw d fB23 (42, [.ref 15, .ref 24, .int i], [], M, J) := by
  intro n
  induction n with
  | zero => intro i M hi h8 h4 hn; exact fs_23_42 d M J i hi h8 (fun z => by have z := fi_l.mp z; omega) (fun _ => fq_23b d J 4 _ _ (by decide) h4 (by decide))
  | succ n ih =>
    intro i M hi h8 h4 hn
    refine fs_23_42 d M J i hi h8 (fun z => ?_) (fun _ => fq_23b d J 4 _ _ (by decide) h4 (by decide))
    have z := fi_l.mp z
    have e := fi_p1 (p := i) (by omega)
    exact ih _ _ (by omega) (by rw [fl_un (by decide), fl_un (by decide), fl_un (by decide), fl_un (by decide)]; exact h8) (by rw [fl_un (by decide), fl_un (by decide), fl_un (by decide), fl_un (by decide)]; exact h4) (by omega)
theorem ct_23 (d : Nat) (M : fl_M) (J : fl_J) (h8 : (M 24 0).toInt ≤ 8) (h4 : (M 24 1).toInt ≤ 4) : tw_C (d + 1) 23 [.ref 15, .ref 24] M J (none, m_23 15 24 M, J) := by
  refine ⟨fw_Co (d := d) (B := fB23) (by decide) rfl rfl (show (2 : Nat) ≤ 3 by decide) ?_ ?_, cc_23 M J 15 24⟩
  · intro i v hv hn
    match i, hv with
    | 0, hv => cases hv; rfl
    | 1, hv => cases hv; rfl
    | 2, hv => cases hv; exact absurd rfl hn
    | _ + 3, hv => cases hv
  · refine fs_23_0 d M J (fq_23a d J 8 _ _ (by decide) ?_ ?_ (by decide))
    · rw [fl_uo (Or.inr (by decide)), fl_uo (Or.inr (by decide)), fl_uo (Or.inr (by decide)), fl_uo (Or.inr (by decide)), fl_us]
      exact h8
    · rw [fl_uo (Or.inr (by decide)), fl_uo (Or.inr (by decide)), fl_uo (Or.inr (by decide)), fl_us]
      exact h4
theorem fq_21 (d : Nat) (J : fl_J) (t : Int32) : ∀ (n : Nat) (i : Int32) (M : fl_M), 0 ≤ i.toInt → 3 ≤ i.toInt + n → fw d fB21 (66, [.ref 0, .int t, .int i], [], M, J) := by
  intro n
  induction n with
  | zero => intro i M hi hn; exact fs_21_66 d M J t i hi (fun z => by have z : i.toInt < 3 := fi_l.mp z; omega)
  | succ n ih =>
    intro i M hi hn
    refine fs_21_66 d M J t i hi (fun z => ?_)
    have z : i.toInt < 3 := fi_l.mp z
    have e := fi_p1 (p := i) (by omega)
    exact ih _ _ (by omega) (by omega)
theorem fq_129d (d : Nat) (J : fl_J) (t : Int32) : ∀ (n : Nat) (i : Int32) (M : fl_M), 0 ≤ i.toInt → i.toInt ≤ 4 → 4 ≤ i.toInt + n → fw d fB129 (204, [.ref 81, .int t, .int i], [], M, J) := by
  intro n
  induction n with
  | zero => intro i M hi h4 hn; exact fs_129_204 d M J t i hi h4 (fun z => by have z : i.toInt < 4 := fi_l.mp z; omega)
  | succ n ih =>
    intro i M hi h4 hn
    refine fs_129_204 d M J t i hi h4 (fun z => ?_)
    have z : i.toInt < 4 := fi_l.mp z
    have e := fi_p1 (p := i) (by omega)
    exact ih _ _ (by omega) (by omega) (by omega)
theorem fq_129c (d : Nat) (J : fl_J) (t : Int32) : ∀ (n : Nat) (i : Int32) (M : fl_M), 0 ≤ i.toInt → i.toInt ≤ 4 → (M 81 4).toInt ≤ 4 → 4 ≤ i.toInt + n → fw d fB129 (139, [.ref 81, .int t, .int i], [], M, J) := by
  intro n
  induction n with
  | zero => intro i M hi h4 hm hn; exact fs_129_139 d M J t i hi h4 hm (fun z => by have z := fi_l.mp z; omega) (fun _ => fq_129d d J t 4 _ _ (by decide) (by decide) (by decide))
  | succ n ih =>
    intro i M hi h4 hm hn
    refine fs_129_139 d M J t i hi h4 hm (fun z => ?_) (fun _ => fq_129d d J t 4 _ _ (by decide) (by decide) (by decide))
    have z := fi_l.mp z
    have e := fi_p1 (p := i) (by omega)
    exact ih _ _ (by omega) (by omega) (by rw [fl_un (by decide), fl_un (by decide), fl_un (by decide)]; exact hm) (by omega)
theorem fq_129b (d : Nat) (J : fl_J) (t : Int32) : ∀ (n : Nat) (i : Int32) (M : fl_M), 0 ≤ i.toInt → i.toInt ≤ 8 → (M 81 1).toInt ≤ 8 → (M 81 4).toInt ≤ 4 → 8 ≤ i.toInt + n → fw d fB129 (85, [.ref 81, .int t, .int i], [], M, J) := by
  intro n
  induction n with
  | zero => intro i M hi h8 hl hm hn; exact fs_129_85 d M J t i hi h8 hl (fun z => by have z := fi_l.mp z; omega) (fun _ => fq_129c d J t 4 _ _ (by decide) (by decide) hm (by decide))
  | succ n ih =>
    intro i M hi h8 hl hm hn
    refine fs_129_85 d M J t i hi h8 hl (fun z => ?_) (fun _ => fq_129c d J t 4 _ _ (by decide) (by decide) hm (by decide))
    have z := fi_l.mp z
    have e := fi_p1 (p := i) (by omega)
    exact ih _ _ (by omega) (by omega) (by rw [fl_un (by decide), fl_un (by decide), fl_un (by decide)]; exact hl) (by rw [fl_un (by decide), fl_un (by decide), fl_un (by decide)]; exact hm) (by omega)
theorem fq_129a (d : Nat) (J : fl_J) (t : Int32) : ∀ (n : Nat) (i : Int32) (M : fl_M), 0 ≤ i.toInt → (M 81 19).toInt ≤ 8 → (M 81 22).toInt ≤ 4 → 944 ≤ i.toInt + n → fw d fB129 (39, [.ref 81, .int t, .int i], [], M, J) := by
  have out : ∀ (i : Int32) (M : fl_M), (M 81 19).toInt ≤ 8 → (M 81 22).toInt ≤ 4 → fw d fB129 (85, [.ref 81, .int t, .int 0], [], (fl_u (fl_u (fl_u M 82 2 (-9)) 81 1 (M 81 19)) 81 4 (M 81 22)), J) := by
    intro i M hl hm
    refine fq_129b d J t 8 _ _ (by decide) (by decide) ?_ ?_ (by decide)
    · rw [fl_uo (Or.inr (by decide)), fl_us]
      exact hl
    · rw [fl_us]
      exact hm
  intro n
  induction n with
  | zero => intro i M hi hl hm hn; exact fs_129_39 d M J t i hi (fun z => by have z : i.toInt < 944 := fi_l.mp z; omega) (fun _ => out i M hl hm)
  | succ n ih =>
    intro i M hi hl hm hn
    refine fs_129_39 d M J t i hi (fun z => ?_) (fun _ => out i M hl hm)
    have z : i.toInt < 944 := fi_l.mp z
    have e := fi_p1 (p := i) (by omega)
    exact ih _ _ (by omega) (by rw [fl_un (by decide)]; exact hl) (by rw [fl_un (by decide)]; exact hm) (by omega)
set_option maxRecDepth 8000 in
theorem fs_14 (d : Nat) (M : fl_M) (J : fl_J) (t : Int32) (hs : ∀ q, q < 4 → (M 9 q).toInt ≤ 60) (hK : M 999 = sm_kl) : fw (d + 3) fB14 (0, [.ref 0, .int t], [], M, J) := by
  have hB : fw_B fB14 := fw_sB (k := 14) (by decide)
  exact fw_n (s' := (1, [.ref 0, .int t], [.int t], M, J)) hB 1 rfl <|
  fw_cs hB (st0 := []) (o := some (.int (if (t < 0) ∨ (¬ (t < 4)) then 1 else 0))) rfl rfl (by decide) rfl rfl (show (0 : Nat) ≤ 8 by decide) (cu_12 _ M J t) rfl <|
  fw_sh (s := (4, [.ref 0, .int t], [.int (if (t < 0) ∨ (¬ (t < 4)) then 1 else 0)], M, J)) <|
  fw_ifN hB (t := 9) rfl rfl fl_b0 (fun h1 =>
   fw_n (s' := (8, [.ref 0, .int t], [.int (-1)], M, J)) hB 1 rfl <|
   fw_ri rfl rfl) (fun h1 =>
   fw_n (s' := (14, [.ref 0, .int t], [.int t, .ref 9], M, J)) hB 3 rfl <|
   fw_ia hB rfl rfl (by decide) (t4 h1).1 (show t.toInt < 4 from (t4 h1).2) <|
   fw_n (s' := (16, [.ref 0, .int t], [.int (-1), .int (M 9 t.toNatClampNeg)], M, J)) hB 1 rfl <|
   fw_icN hB (t := 25) rfl rfl fl_cF (fun h2 =>
    fw_n (s' := (21, [.ref 0, .int t], [.int 1, .ref 0], M, J)) hB 2 rfl <|
    fw_cv hB (st0 := []) (o := some (.int (-3))) rfl rfl rfl rfl rfl (show (0 : Nat) ≤ 8 by decide) rfl (by decide) (cu_2 _ M J 1 (by decide) (by decide)) rfl <|
    fw_sh (s := (24, [.ref 0, .int t], [.int (-3)], (fl_u (fl_u M 0 11 1) 80 1 ((M 80 1) + 1)), J)) <|
    fw_ri rfl rfl) (fun h2 =>
    fw_n (s' := (27, [.ref 0, .int t], [.int t, .ref 0], M, J)) hB 2 rfl <|
    fw_cv hB (st0 := []) (o := some (.int (ra_v M t))) rfl rfl rfl rfl rfl (show (0 : Nat) ≤ 8 by decide) rfl (by decide) (ct_15 _ M J t (t4 h1).1 (t4 h1).2 hs hK) rfl <|
    fw_sh (s := (30, [.ref 0, .int t], [.int (ra_v M t)], (ra_M M t), J)) <|
    fw_ri rfl rfl))
set_option maxRecDepth 8000 in
theorem fs_21 (d : Nat) (M : fl_M) (J : fl_J) (t : Int32) (hs : ∀ q, q < 4 → (M 9 q).toInt ≤ 60) (hK : M 999 = sm_kl) (cR : 0 ≤ t.toInt ∧ t.toInt < 4 → ((ra_M M t) 24 0).toInt ≤ 8 ∧ ((ra_M M t) 24 1).toInt ≤ 4) (cB : 0 ≤ t.toInt ∧ t.toInt < 4 → ((bgn 24 (ra_M M t)) 24 0).toInt ≤ 8 ∧ ((bgn 24 (ra_M M t)) 24 1).toInt ≤ 4) (q1 : (¬ ((t < 0) ∨ (¬ (t < 4)))) → (¬ ((M 9 t.toNatClampNeg) = (-1))) → ((ra_v M t) = (-9)) → fw (d + 3) fB21 (66, [.ref 0, .int t, .int 0], [], (fl_u (m_23 15 24 (bgn 24 (ra_M M t))) 42 0 0), J)) : fw (d + 3) fB21 (0, [.ref 0, .int t, .null], [], M, J) := by
  have hB : fw_B fB21 := fw_sB (k := 21) (by decide)
  exact fw_n (s' := (1, [.ref 0, .int t, .null], [.int t], M, J)) hB 1 rfl <|
  fw_cs hB (st0 := []) (o := some (.int (if (t < 0) ∨ (¬ (t < 4)) then 1 else 0))) rfl rfl (by decide) rfl rfl (show (0 : Nat) ≤ 8 by decide) (cu_12 _ M J t) rfl <|
  fw_sh (s := (4, [.ref 0, .int t, .null], [.int (if (t < 0) ∨ (¬ (t < 4)) then 1 else 0)], M, J)) <|
  fw_ifN hB (t := 9) rfl rfl fl_b0 (fun h1 =>
   fw_n (s' := (8, [.ref 0, .int t, .null], [.int (-1)], M, J)) hB 1 rfl <|
   fw_ri rfl rfl) (fun h1 =>
   fw_n (s' := (14, [.ref 0, .int t, .null], [.int t, .ref 9], M, J)) hB 3 rfl <|
   fw_ia hB rfl rfl (by decide) (t4 h1).1 (show t.toInt < 4 from (t4 h1).2) <|
   fw_n (s' := (16, [.ref 0, .int t, .null], [.int (-1), .int (M 9 t.toNatClampNeg)], M, J)) hB 1 rfl <|
   fw_icN hB (t := 25) rfl rfl fl_cF (fun h2 =>
    fw_n (s' := (21, [.ref 0, .int t, .null], [.int 1, .ref 0], M, J)) hB 2 rfl <|
    fw_cv hB (st0 := []) (o := some (.int (-3))) rfl rfl rfl rfl rfl (show (0 : Nat) ≤ 8 by decide) rfl (by decide) (cu_2 _ M J 1 (by decide) (by decide)) rfl <|
    fw_sh (s := (24, [.ref 0, .int t, .null], [.int (-3)], (fl_u (fl_u M 0 11 1) 80 1 ((M 80 1) + 1)), J)) <|
    fw_ri rfl rfl) (fun h2 =>
    fw_n (s' := (27, [.ref 0, .int t, .null], [.int t, .ref 0], M, J)) hB 2 rfl <|
    fw_cv hB (st0 := []) (o := some (.int (ra_v M t))) rfl rfl rfl rfl rfl (show (0 : Nat) ≤ 8 by decide) rfl (by decide) (ct_15 _ M J t (t4 h1).1 (t4 h1).2 hs hK) rfl <|
    fw_sh (s := (30, [.ref 0, .int t, .null], [.int (ra_v M t)], (ra_M M t), J)) <|
    fw_n (s' := (32, [.ref 0, .int t, .null], [.int (-9), .int (ra_v M t)], (ra_M M t), J)) hB 1 rfl <|
    fw_ic hB (t := 38) rfl rfl fl_cT (fun h3 =>
     fw_n (s' := (42, [.ref 0, .int t, .null], [.ref 24], (ra_M M t), J)) hB 2 rfl <|
     fw_cv hB (st0 := []) (o := none) rfl rfl rfl rfl rfl (show (0 : Nat) ≤ 8 by decide) rfl (by decide) (ct_22 _ (ra_M M t) J (cR (t4 h1)).1 (cR (t4 h1)).2) rfl <|
     fw_sh (s := (45, [.ref 0, .int t, .null], [], (bgn 24 (ra_M M t)), J)) <|
     fw_n (s' := (53, [.ref 0, .int t, .null], [.ref 24, .ref 15], (bgn 24 (ra_M M t)), J)) hB 4 rfl <|
     fw_cv hB (st0 := []) (o := none) rfl rfl rfl rfl rfl (show (0 : Nat) ≤ 8 by decide) rfl (by decide) (ct_23 _ (bgn 24 (ra_M M t)) J (cB (t4 h1)).1 (cB (t4 h1)).2) rfl <|
     fw_sh (s := (56, [.ref 0, .int t, .null], [], (m_23 15 24 (bgn 24 (ra_M M t))), J)) <|
     fx_gen (p := fun (Y : fl_M) => fw (d + 3) fB21 (56, [.ref 0, .int t, .null], [], Y, J)) (m_23 15 24 (bgn 24 (ra_M M t))) (fun Y eY =>
      fw_n (s' := (66, [.ref 0, .int t, .int 0], [], (fl_u Y 42 0 0), J)) hB 6 rfl <|
      (by subst eY; exact (q1 h1 h2 h3)))) (fun h3 =>
     fw_n (s' := (37, [.ref 0, .int t, .null], [.int (-4)], (ra_M M t), J)) hB 1 rfl <|
     fw_ri rfl rfl)))
set_option maxRecDepth 8000 in
theorem fs_119 (d : Nat) (M : fl_M) (J : fl_J) (t : Int32) (hs : ∀ q, q < 4 → (M 89 q).toInt ≤ 60) : fw (d + 5) fB119 (0, [.ref 81, .int t], [], M, J) := by
  have hB : fw_B fB119 := fw_sB (k := 119) (by decide)
  exact fw_n (s' := (1, [.ref 81, .int t], [.int t], M, J)) hB 1 rfl <|
  fw_cs hB (st0 := []) (o := some (.int (if (¬ (t < 0)) ∧ (¬ (3 < t)) then 1 else 0))) rfl rfl (by decide) rfl rfl (show (0 : Nat) ≤ 8 by decide) (cu_117 _ M J t) rfl <|
  fw_sh (s := (4, [.ref 81, .int t], [.int (if (¬ (t < 0)) ∧ (¬ (3 < t)) then 1 else 0)], M, J)) <|
  fw_if hB (t := 9) rfl rfl fl_b1 (fun h1 =>
   fw_n (s' := (14, [.ref 81, .int t], [.int t, .ref 89], M, J)) hB 3 rfl <|
   fw_ia hB rfl rfl (by decide) (t3 h1).1 (show t.toInt < 4 from (t3 h1).2) <|
   fw_ifN hB (t := 26) rfl rfl fl_nlt (fun h2 =>
    fw_n (s' := (20, [.ref 81, .int t], [.int 1, .ref 81], M, J)) hB 2 rfl <|
    fw_cv hB (st0 := []) (o := some (.int (-3))) rfl rfl rfl rfl rfl (show (0 : Nat) ≤ 8 by decide) rfl (by decide) (cu_106 _ M J 1 (by decide) (by decide)) rfl <|
    fw_sh (s := (23, [.ref 81, .int t], [.int (-3)], (fl_u (fl_u M 81 14 1) 91 1 ((M 91 1) + 1)), J)) <|
    fw_n (s' := (31, [.ref 81, .int t], [.int (-3)], (fl_u (fl_u M 81 14 1) 91 1 ((M 91 1) + 1)), J)) hB 1 rfl <|
    fw_ri rfl rfl) (fun h2 =>
    fw_n (s' := (28, [.ref 81, .int t], [.int t, .ref 81], M, J)) hB 2 rfl <|
    fw_cv hB (st0 := []) (o := some (.int (fo_v M t))) rfl rfl rfl rfl rfl (show (0 : Nat) ≤ 8 by decide) rfl (by decide) (ct_120 _ M J t (t3 h1).1 (t3 h1).2 hs h2) rfl <|
    fw_sh (s := (31, [.ref 81, .int t], [.int (fo_v M t)], (fo_M M t), J)) <|
    fw_ri rfl rfl)) (fun h1 =>
   fw_n (s' := (8, [.ref 81, .int t], [.int (-1)], M, J)) hB 1 rfl <|
   fw_ri rfl rfl)
set_option maxRecDepth 8000 in
theorem fs_129 (d : Nat) (M : fl_M) (J : fl_J) (t : Int32) (hs : ∀ q, q < 4 → (M 89 q).toInt ≤ 60) (q1 : ((¬ (t < 0)) ∧ (¬ (3 < t))) → (¬ ((M 89 t.toNatClampNeg) < 0)) → ((fo_v M t) = (-9)) → fw (d + 5) fB129 (39, [.ref 81, .int t, .int 0], [], (fo_M M t), J)) : fw (d + 5) fB129 (0, [.ref 81, .int t, .null], [], M, J) := by
  have hB : fw_B fB129 := fw_sB (k := 129) (by decide)
  exact fw_n (s' := (1, [.ref 81, .int t, .null], [.int t], M, J)) hB 1 rfl <|
  fw_cs hB (st0 := []) (o := some (.int (if (¬ (t < 0)) ∧ (¬ (3 < t)) then 1 else 0))) rfl rfl (by decide) rfl rfl (show (0 : Nat) ≤ 8 by decide) (cu_117 _ M J t) rfl <|
  fw_sh (s := (4, [.ref 81, .int t, .null], [.int (if (¬ (t < 0)) ∧ (¬ (3 < t)) then 1 else 0)], M, J)) <|
  fw_if hB (t := 9) rfl rfl fl_b1 (fun h1 =>
   fw_n (s' := (14, [.ref 81, .int t, .null], [.int t, .ref 89], M, J)) hB 3 rfl <|
   fw_ia hB rfl rfl (by decide) (t3 h1).1 (show t.toInt < 4 from (t3 h1).2) <|
   fw_ifN hB (t := 24) rfl rfl fl_nlt (fun h2 =>
    fw_n (s' := (20, [.ref 81, .int t, .null], [.int 1, .ref 81], M, J)) hB 2 rfl <|
    fw_cv hB (st0 := []) (o := some (.int (-3))) rfl rfl rfl rfl rfl (show (0 : Nat) ≤ 8 by decide) rfl (by decide) (cu_106 _ M J 1 (by decide) (by decide)) rfl <|
    fw_sh (s := (23, [.ref 81, .int t, .null], [.int (-3)], (fl_u (fl_u M 81 14 1) 91 1 ((M 91 1) + 1)), J)) <|
    fw_ri rfl rfl) (fun h2 =>
    fw_n (s' := (26, [.ref 81, .int t, .null], [.int t, .ref 81], M, J)) hB 2 rfl <|
    fw_cv hB (st0 := []) (o := some (.int (fo_v M t))) rfl rfl rfl rfl rfl (show (0 : Nat) ≤ 8 by decide) rfl (by decide) (ct_120 _ M J t (t3 h1).1 (t3 h1).2 hs h2) rfl <|
    fw_sh (s := (29, [.ref 81, .int t, .null], [.int (fo_v M t)], (fo_M M t), J)) <|
    fw_n (s' := (31, [.ref 81, .int t, .null], [.int (-9), .int (fo_v M t)], (fo_M M t), J)) hB 1 rfl <|
    fw_ic hB (t := 37) rfl rfl fl_cT (fun h3 =>
     fw_n (s' := (39, [.ref 81, .int t, .int 0], [], (fo_M M t), J)) hB 2 rfl <|
     (q1 h1 h2 h3)) (fun h3 =>
     fw_n (s' := (36, [.ref 81, .int t, .null], [.int (-4)], (fo_M M t), J)) hB 1 rfl <|
     fw_ri rfl rfl))) (fun h1 =>
   fw_n (s' := (8, [.ref 81, .int t, .null], [.int (-1)], M, J)) hB 1 rfl <|
   fw_ri rfl rfl)
section FWT
variable (d : Nat) (M : fl_M) (J : fl_J) (t : Int32)
theorem fw_14 (hs : ∀ q, q < 4 → (M 9 q).toInt ≤ 60) (hK : M 999 = sm_kl) : fw_C (d + 4) 14 [.ref 0, .int t] M J := by
  refine fw_Co (d := d + 3) (B := fB14) (by decide) rfl rfl (show (2 : Nat) ≤ 2 by decide) ?_ (fs_14 d M J t hs hK)
  intro i v hv hn
  match i, hv with
  | 0, hv => cases hv; rfl
  | 1, hv => cases hv; rfl
  | _ + 2, hv => cases hv
theorem fw_119 (hs : ∀ q, q < 4 → (M 89 q).toInt ≤ 60) : fw_C (d + 6) 119 [.ref 81, .int t] M J := by
  refine fw_Co (d := d + 5) (B := fB119) (by decide) rfl rfl (show (2 : Nat) ≤ 2 by decide) ?_ (fs_119 d M J t hs)
  intro i v hv hn
  match i, hv with
  | 0, hv => cases hv; rfl
  | 1, hv => cases hv; rfl
  | _ + 2, hv => cases hv
theorem bgn_24 (X : fl_M) : bgn 24 X 24 0 = X 24 0 ∧ bgn 24 X 24 1 = X 24 1 := by
  unfold bgn
  have a : ∀ (Y : fl_M) (j : Nat), lr_22_53 24 Y 24 j = Y 24 j := by
    intro Y j
    unfold lr_22_53 lq_22_53
    generalize (Y 24 1).toNatClampNeg = n
    induction n with
    | zero => rfl
    | succ n ih => rw [fx_it_s]; unfold ls_22_53; rw [fl_un (by decide)]; exact ih
  have b : ∀ (Y : fl_M) (j : Nat), lr_22_18 24 Y 24 j = Y 24 j := by
    intro Y j
    unfold lr_22_18 lq_22_18
    generalize (Y 24 0).toNatClampNeg = n
    induction n with
    | zero => rfl
    | succ n ih => rw [fx_it_s]; unfold ls_22_18; rw [fl_un (by decide), fl_un (by decide)]; exact ih
  exact ⟨by rw [a, b, fl_uo (Or.inr (by decide)), fl_uo (Or.inr (by decide)), fl_uo (Or.inr (by decide))], by rw [a, b, fl_uo (Or.inr (by decide)), fl_uo (Or.inr (by decide)), fl_uo (Or.inr (by decide))]⟩
theorem fw_21 (hs : ∀ q, q < 4 → (M 9 q).toInt ≤ 60) (hK : M 999 = sm_kl) (hr : ∀ j : Nat, j < 4 → 0 ≤ (M 31 j).toInt ∧ (M 31 j).toInt ≤ 7) : fw_C (d + 4) 21 [.ref 0, .int t] M J := by
  have cR : 0 ≤ t.toInt ∧ t.toInt < 4 → ((ra_M M t) 24 0).toInt ≤ 8 ∧ ((ra_M M t) 24 1).toInt ≤ 4 := fun h => by
    have q := (cq_ra hK h.1 (by omega) hr).1
    exact ⟨q.1.2, q.2.1.2⟩
  refine fw_Co (d := d + 3) (B := fB21) (by decide) rfl rfl (show (2 : Nat) ≤ 3 by decide) ?_ (fs_21 d M J t hs hK cR (fun h => ?_) (fun _ _ _ => fq_21 (d + 3) J t 3 _ _ (by decide) (by decide)))
  · intro i v hv hn
    match i, hv with
    | 0, hv => cases hv; rfl
    | 1, hv => cases hv; rfl
    | 2, hv => cases hv; exact absurd rfl hn
    | _ + 3, hv => cases hv
  · rw [(bgn_24 _).1, (bgn_24 _).2]
    exact cR h
theorem fw_129 (hs : ∀ q, q < 4 → (M 89 q).toInt ≤ 60) (hr : ∀ j : Nat, (j = 1 ∨ j = 4 ∨ j = 7 ∨ j = 10) → 0 ≤ (M 94 j).toInt ∧ (M 94 j).toInt ≤ 7) : fw_C (d + 6) 129 [.ref 81, .int t] M J := by
  refine fw_Co (d := d + 5) (B := fB129) (by decide) rfl rfl (show (2 : Nat) ≤ 3 by decide) ?_ (fs_129 d M J t hs (fun h1 h2 _ => ?_))
  · intro i v hv hn
    match i, hv with
    | 0, hv => cases hv; rfl
    | 1, hv => cases hv; rfl
    | 2, hv => cases hv; exact absurd rfl hn
    | _ + 3, hv => cases hv
  · obtain ⟨t0, t1⟩ := t3 h1
    rw [fi_l, fi_i0] at h2
    have q := (rz_fo t0 (by omega) (by omega) (hs _ (tq t0 t1)) hr).1
    exact fq_129a (d + 5) J t 944 _ _ (by decide) q.2.2.1.2 q.2.2.2.2 (by decide)
end FWT
