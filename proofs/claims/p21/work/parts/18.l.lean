/-! What comes, tried out aside. -/
def fC (C a : fl_M) : Prop := ∀ c, (c < 24 ∨ 33 ≤ c) → a c = C c
def fR (R b : fl_M) : Prop := (∀ c, c ≠ 82 → b c = R c) ∧ ∀ j, j < 3776 → b 82 j = R 82 j
def as (C R a b : fl_M) : Prop := tr 24 3776 a b ∧ fC C a ∧ fR R b
theorem fC_t {C a a' : fl_M} (h : fC C a) (e : ∀ c, (c < 24 ∨ 33 ≤ c) → a' c = a c) : fC C a' := fun c hc => by rw [e c hc, h c hc]
theorem fR_t {R b b' : fl_M} (h : fR R b) (e : ∀ c, c ≠ 82 → b' c = b c) (e2 : ∀ j, j < 3776 → b' 82 j = b 82 j) : fR R b' := ⟨fun c hc => by rw [e c hc, h.1 c hc], fun j hj => by rw [e2 j hj, h.2 j hj]⟩
section AS
variable {C R a b : fl_M}
theorem as_t2 (h : t2 C R) (h1 : fC C a) (h2 : fR R b) : t2 a b := t2_c h (fun c hc => h1 c (by omega)) (fun k hk => h2.1 k (by omega)) h2.2
theorem as_tt (h : tt C R) (h1 : fC C a) (h2 : fR R b) : tt a b := tt_c h (fun c hc => h1 c (by omega)) (by rw [h2.1 81 (by decide)]) (by rw [h2.1 81 (by decide)]) (fun k hk => h2.1 k (by omega)) h2.2
theorem as_0 (h : tt C R) (h1 : fC C a) (h2 : fR R b) : as C R (m_23 24 15 a) (lr_160_2 b) := by
  have g := as_tt h h1 h2
  refine ⟨lt_rg (tk_rg (Or.inr (by omega)) g.1), fC_t h1 (fun c hc => by funext j; exact fr_23 (by omega)), fR_t h2 (fun c hc => by funext j; exact fw_160 hc) (fun j hj => ?_)⟩
  rw [lt_eq, if_neg (by omega)]
theorem as_n (h : as C R a b) : (b 81 1).toInt ≤ 8 ∧ (b 81 4).toInt ≤ 4 := by
  rw [← h.1.1.1, ← h.1.1.2.1]
  exact ⟨h.1.1.2.2.1.2, h.1.1.2.2.2.1.2⟩
theorem as_y (h : as C R a b) (s : Int32) : (lr_46_4 s 0 24 a).1 = (lr_150_5 3776 s 0 b).1 ∧ as C R (m_46 s 24 a) (m_150 3776 s b) := by
  obtain ⟨e, g⟩ := py_eq h.1 tr_bt s
  have n8 := as_n h
  exact ⟨e, g, fC_t h.2.1 (fun c hc => by funext j; exact fr_46 (by omega)), fR_t h.2.2 (fun c hc => by funext j; exact fw_150 hc) (fun j hj => pf_150 tr_bt n8.1 n8.2 (Or.inl (by omega)))⟩
theorem as_ys (h : as C R a b) (n : Int32) : as C R (lr_59_2 n 24 a) (lr_161_2 n b) := by
  unfold lr_59_2 lr_161_2 lq_59_2 lq_161_2
  refine it_r (f := ls_59_2 24) (g := ls_161_2) (fun m x y => as C R x y) h (fun m x y _ hR => ?_)
  unfold ls_59_2 ls_161_2
  exact (as_y hR 0).2
theorem yr_1 (b : fl_M) : lr_161_2 1 b = m_150 3776 0 b := by
  unfold lr_161_2 lq_161_2
  rw [show (1 : Int32).toNatClampNeg = 0 + 1 from rfl, fx_it_s]
  rfl
theorem as_l (h : as C R a b) {l : Int32} (l0 : 0 ≤ l.toInt) (l1 : l.toNatClampNeg < (C 15 0).toNatClampNeg) (hn : a 24 0 = C 15 0) : b 82 ((3780 + l).toNatClampNeg) = a 27 l.toNatClampNeg := (tr_l h.1 tr_bt l0 (by rw [hn]; exact l1)).2.1
/-- how many lines there are, aside -/
theorem as_k (ht : tt C R) (h : as C R a b) : a 24 0 = C 15 0 ∧ a 24 1 = C 15 1 := by
  rw [h.1.1.1, h.1.1.2.1, h.2.2.1 81 (by decide), ← ht.1.1.1, ← ht.1.1.2.1]
  exact ⟨rfl, rfl⟩
theorem le_p (h : t2 C R) (l n : Int32) : v_57 l n C = v_159 l n R ∧ t2 (m_57 l n C) (m_159 l n R) := by
  obtain ⟨a0, a1, s1, s4, sd, d0, d4⟩ := tt_n h.1
  have hA := ln_A (x := C 15 0) (l := l) a0.1 (by omega)
  unfold v_57 v_159 m_57 m_159
  rw [← s1]
  by_cases c1 : (l < 0) ∨ (¬ (l < (C 15 0)))
  · simp only [if_pos c1, if_neg (fun z => hA.mp z c1)]
    exact ⟨trivial, h⟩
  · simp only [if_neg c1, if_pos (hA.mpr c1)]
    obtain ⟨l0, l1, l2⟩ := ln_R c1
    by_cases c2 : n < 0
    · simp only [if_pos c2, if_neg (fun z : (¬ (n < 0)) ∧ (¬ (40 < n)) => z.1 c2)]
      exact ⟨trivial, h⟩
    · by_cases c3 : 40 < n
      · simp only [if_neg c2, if_pos c3, if_neg (fun z : (¬ (n < 0)) ∧ (¬ (40 < n)) => z.2 c3)]
        exact ⟨trivial, h⟩
      · simp only [if_neg c2, if_neg c3, if_pos (⟨c2, c3⟩ : (¬ (n < 0)) ∧ (¬ (40 < n)))]
        have g := as_ys (as_0 h.1 (a := C) (b := R) (fun _ _ => rfl) ⟨fun _ _ => rfl, fun _ _ => rfl⟩) n
        exact ⟨(as_l g l0 l2 (as_k h.1 g).1).symm, as_t2 h g.2.1 g.2.2⟩
theorem et_p (h : t2 C R) (n : Int32) : v_60 n C = v_162 n R ∧ t2 (m_60 n C) (m_162 n R) := by
  obtain ⟨a0, a1, s1, s4, sd, d0, d4⟩ := tt_n h.1
  unfold v_60 v_162 m_60 m_162
  rw [← s4]
  by_cases c2 : n < 0
  · simp only [if_pos c2, if_neg (fun z : (¬ (n < 0)) ∧ (¬ (40 < n)) => z.1 c2)]
    exact ⟨trivial, h⟩
  · by_cases c3 : 40 < n
    · simp only [if_neg c2, if_pos c3, if_neg (fun z : (¬ (n < 0)) ∧ (¬ (40 < n)) => z.2 c3)]
      exact ⟨trivial, h⟩
    · simp only [if_neg c2, if_neg c3, if_pos (⟨c2, c3⟩ : (¬ (n < 0)) ∧ (¬ (40 < n)))]
      by_cases c5 : C 15 1 = 0
      · simp only [if_pos c5]
        exact ⟨trivial, h⟩
      · simp only [if_neg c5]
        have g := as_ys (as_0 h.1 (a := C) (b := R) (fun _ _ => rfl) ⟨fun _ _ => rfl, fun _ _ => rfl⟩) n
        exact ⟨ea_eq g.1 tr_bt, as_t2 h g.2.1 g.2.2⟩
/-- two loops left early, side by side -/
theorem ix_2 {α β γ δ : Type} {f : Nat → α → γ ⊕ α} {g : Nat → β → δ ⊕ β} {n : Nat} {a : α} {b : β} (P : Nat → α → β → Prop) (Q : γ → δ → Prop) (h0 : P 0 a b) (h : ∀ m a b, m < n → P m a b → (∃ c d, f m a = .inl c ∧ g m b = .inl d ∧ Q c d) ∨ (∃ a' b', f m a = .inr a' ∧ g m b = .inr b' ∧ P (m + 1) a' b')) : (∃ c d, fx_ix f n a = .inl c ∧ fx_ix g n b = .inl d ∧ Q c d) ∨ (∃ a' b', fx_ix f n a = .inr a' ∧ fx_ix g n b = .inr b' ∧ P n a' b') := by
  induction n with
  | zero => exact Or.inr ⟨a, b, rfl, rfl, h0⟩
  | succ n ih =>
    rcases ih (fun m a b hm => h m a b (Nat.lt_succ_of_lt hm)) with ⟨c, d, e1, e2, q⟩ | ⟨a', b', e1, e2, p⟩
    · exact Or.inl ⟨c, d, ix_l e1 (Nat.le_succ n), ix_l e2 (Nat.le_succ n), q⟩
    · rcases h n a' b' (Nat.lt_succ_self n) p with ⟨c, d, e3, e4, q⟩ | ⟨a2, b2, e3, e4, p2⟩
      · exact Or.inl ⟨c, d, ix_s1 e1 e3, ix_s1 e2 e4, q⟩
      · exact Or.inr ⟨a2, b2, ix_s1 e1 e3, ix_s1 e2 e4, p2⟩
theorem wn_p (h : t2 C R) (l : Int32) : v_62 l C = v_164 l R ∧ t2 (m_62 l C) (m_164 l R) := by
  obtain ⟨a0, a1, s1, s4, sd, d0, d4⟩ := tt_n h.1
  have hA := ln_A (x := C 15 0) (l := l) a0.1 (by omega)
  unfold v_62 v_164 m_62 m_164
  rw [← s1]
  by_cases c1 : (l < 0) ∨ (¬ (l < (C 15 0)))
  · simp only [if_pos c1, if_neg (fun z => hA.mp z c1)]
    exact ⟨trivial, h⟩
  · simp only [if_neg c1, if_pos (hA.mpr c1)]
    obtain ⟨l0, l1, l2⟩ := ln_R c1
    have g := as_0 h.1 (a := C) (b := R) (fun _ _ => rfl) ⟨fun _ _ => rfl, fun _ _ => rfl⟩
    have key := ix_2 (f := ls_62_23 l) (g := ls_164_16 l) (n := 40) (a := m_23 24 15 C) (b := lr_160_2 R) (fun _ x y => as C R x y) (fun c d => c.1 = d.1 ∧ fC C c.2 ∧ fR R d.2) g (fun m x y hm hR => ?_)
    · rcases key with ⟨c, d, e1, e2, q1, q2, q3⟩ | ⟨x, y, e1, e2, q⟩
      · have e1' : lr_62_23 l (m_23 24 15 C) = .inl c := e1
        have e2' : lr_164_16 l (lr_160_2 R) = .inl d := ix_l (n := 41) e2 (by omega)
        rw [e1', e2']
        exact ⟨q1, as_t2 h q2 q3⟩
      · have e1' : lr_62_23 l (m_23 24 15 C) = .inr x := e1
        have el := as_l q l0 l2 (as_k h.1 q).1
        rw [e1']
        by_cases c2 : x 27 l.toNatClampNeg = 0
        · have e2' : lr_164_16 l (lr_160_2 R) = .inl (40, y) := ix_s1 e2 (by unfold ls_164_16; rw [el, if_pos c2]; rfl)
          rw [e2']
          simp only [if_pos c2]
          exact ⟨trivial, as_t2 h q.2.1 q.2.2⟩
        · have e2' : lr_164_16 l (lr_160_2 R) = .inr (lr_161_2 1 y) := ix_s1 e2 (by unfold ls_164_16; rw [el, if_neg c2])
          rw [e2']
          simp only [if_neg c2]
          rw [yr_1]
          have q2 := (as_y q 0).2
          exact ⟨trivial, as_t2 h q.2.1 q2.2.2⟩
    · have el := as_l hR l0 l2 (as_k h.1 hR).1
      unfold ls_62_23 ls_164_16
      rw [el]
      by_cases c2 : x 27 l.toNatClampNeg = 0
      · rw [if_pos c2, if_pos c2]
        exact Or.inl ⟨_, _, rfl, rfl, rfl, hR.2.1, hR.2.2⟩
      · rw [if_neg c2, if_neg c2, yr_1]
        exact Or.inr ⟨_, _, rfl, rfl, (as_y hR 0).2⟩
/-- the sum of what is left is no less than none -/
theorem al_b {T b' : Nat} {X Y : fl_M} (h : tr T b' X Y) : 0 ≤ (lr_66_4 0 T X).toInt ∧ (lr_66_4 0 T X).toInt ≤ 320 := by
  unfold lr_66_4 lq_66_4
  have n8 := tr_n h
  have key := it_p (f := ls_66_4 T X) (n := (X T 0).toNatClampNeg) (a := (0 : Int32)) (fun m q => 0 ≤ q.toInt ∧ q.toInt ≤ 40 * m) ⟨by decide, by decide⟩ (fun m q hm hq => ?_)
  · omega
  · have en := fi_at (m := m) (by omega)
    obtain ⟨⟨-, b1, b2⟩, -⟩ := h.2.2.2.2.1 m hm
    unfold ls_66_4
    rw [en, fi_add (by omega) (by omega)]
    omega
theorem gu_p (h : t2 C R) (n : Int32) : v_65 n C = v_167 n R ∧ t2 (m_65 n C) (m_167 n R) := by
  obtain ⟨a0, a1, s1, s4, sd, d0, d4⟩ := tt_n h.1
  unfold v_65 v_167 m_65 m_167
  rw [← s4]
  by_cases c2 : n < 1
  · simp only [if_pos c2, if_neg (fun z : (¬ (n < 1)) ∧ (¬ (20 < n)) => z.1 c2)]
    exact ⟨trivial, h⟩
  · by_cases c3 : 20 < n
    · simp only [if_neg c2, if_pos c3, if_neg (fun z : (¬ (n < 1)) ∧ (¬ (20 < n)) => z.2 c3)]
      exact ⟨trivial, h⟩
    · simp only [if_neg c2, if_neg c3, if_pos (⟨c2, c3⟩ : (¬ (n < 1)) ∧ (¬ (20 < n)))]
      by_cases c5 : C 15 1 = 0
      · simp only [if_pos c5]
        exact ⟨trivial, h⟩
      · simp only [if_neg c5]
        have m1 : 0 < (C 15 1).toNatClampNeg := by
          have z := fi_ne c5
          rw [fi_i0] at z
          rw [fi_cl]
          omega
        have lp : 0 < (C 15 0).toNatClampNeg := by
          have z := h.1.1.2.2.2.2.2.1 0 m1
          rw [fi_cl]
          omega
        have n8 := tr_n h.1.1
        have key : (0 < (C 15 0).toNatClampNeg → (lr_65_33 n 0 (-1) C).1 = (lr_167_32 n (-9) (-1) R).1) ∧ (lr_65_33 n 0 (-1) C).2.1 = (lr_167_32 n (-9) (-1) R).2.1 ∧ fC C (lr_65_33 n 0 (-1) C).2.2 ∧ fR R (lr_167_32 n (-9) (-1) R).2.2 := by
          unfold lr_65_33 lr_167_32 lq_65_33 lq_167_32
          rw [← s1]
          have k := it_r (f := ls_65_33 n) (g := ls_167_32 n) (n := (C 15 0).toNatClampNeg) (a := (0, -1, C)) (b := (-9, -1, R)) (fun m x y => (0 < m → x.1 = y.1) ∧ x.2.1 = y.2.1 ∧ (m = 0 → y.2.1 = -1) ∧ fC C x.2.2 ∧ fR R y.2.2) ⟨fun z => absurd z (by omega), rfl, fun _ => rfl, fun _ _ => rfl, ⟨fun _ _ => rfl, fun _ _ => rfl⟩⟩ ?_
          · exact ⟨k.1, k.2.1, k.2.2.2⟩
          · intro m x y hm hR
            obtain ⟨xb, xm, X⟩ := x
            obtain ⟨yb, ym, Y⟩ := y
            obtain ⟨r1, r2, r3, r4, r5⟩ := hR
            dsimp only at r1 r2 r3 r4 r5
            subst r2
            have g0 := as_0 h.1 r4 r5
            have gk := as_k h.1 g0
            have g1 : as C R (fl_u (m_23 24 15 X) 24 3 (Int32.ofNat m)) (fl_u (lr_160_2 Y) 82 3778 (Int32.ofNat m)) := ⟨tr_u0 (k := 1) g0.1 (by decide), fC_t g0.2.1 (fun c hc => fl_un (by omega)), fR_t g0.2.2 (fun c hc => fl_un hc) (fun j hj => fl_uo (Or.inr (by omega)))⟩
            have g2 := as_ys g1 n
            have eS := al_eq g2.1 tr_bt
            have bS := al_b g2.1
            unfold ls_65_33 ls_167_32
            dsimp only
            rw [← eS]
            generalize lr_66_4 0 24 (lr_59_2 n 24 (fl_u (m_23 24 15 X) 24 3 (Int32.ofNat m))) = S at bS
            by_cases c6 : xm < S
            · simp only [if_pos c6]
              exact ⟨fun _ => trivial, trivial, fun z => absurd z (by omega), g2.2.1, g2.2.2⟩
            · simp only [if_neg c6]
              have m0 : m ≠ 0 := fun z => by
                have e := r3 z
                rw [e, fi_l, fi_m1] at c6
                omega
              exact ⟨fun _ => r1 (by omega), trivial, fun z => absurd z (by omega), g2.2.1, g2.2.2⟩
        exact ⟨key.1 lp, t2_tell (as_t2 h key.2.2.1 key.2.2.2) key.2.1⟩
end AS
