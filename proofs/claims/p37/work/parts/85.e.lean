/-! By turns: the reference's loop comes to what is best. -/
def ly (N : Nat) (R : fl_M) (s : Nat → Nat) : Nat → fl_M
  | 0 => lr_160_2 R
  | k + 1 => if s k < N then gu (ly N R s k) (s k) else ly N R s k
theorem ly_c {N : Nat} {R : fl_M} {s s' : Nat → Nat} : ∀ k, (∀ j, j < k → s j = s' j) → ly N R s k = ly N R s' k := by
  intro k
  induction k with
  | zero => exact fun _ => rfl
  | succ k ih =>
    intro h
    show (if s k < N then gu (ly N R s k) (s k) else ly N R s k) = if s' k < N then gu (ly N R s' k) (s' k) else ly N R s' k
    rw [ih (fun j hj => h j (by omega)), h k (by omega)]
theorem dq0 {α : Type} (f : Nat → α → α) (a : α) : fx_it f 0 a = a := rfl
theorem dq181 (m : Nat) (q : fl_M) {c : Nat} (hc : c ≠ 82) : ls_181_7 m q c = q c := by
  unfold ls_181_7
  split
  · split
    · exact fl_un hc
    · rfl
  · rfl
theorem dqf (k : Nat) (M : fl_M) {c : Nat} (hc : c ≠ 82) : fx_it ls_181_7 k (lr_160_2 M) c = M c := by
  induction k with
  | zero => funext j; exact fw_160 hc
  | succ k ih => rw [fx_it_s, dq181 _ _ hc, ih]
theorem dqa {v : Int32} {x : Nat} (h : v.toInt = x) (hx : x ≤ 9) {q : Int32} {c : Nat} (hq : q.toInt = c) (hc : c ≤ 4000) : (q + v).toNatClampNeg = c + x := by
  have e : (q + v).toInt = q.toInt + v.toInt := fi_add (by omega) (by omega)
  have f := fi_cl (q + v)
  omega
section RK
variable {R A : fl_M} {N : Nat}
theorem ly_t (hA : tr 24 3776 A (lr_160_2 R)) (hN : (A 24 0).toNatClampNeg = N) {M : fl_M} {s : Nat → Nat} (hf : fD R M) : ∀ k, k ≤ 4 → (∀ j, j < k → (M 96 j).toInt = s j ∧ s j ≤ 9) → ∃ Cm, tr 24 3776 Cm (ly N R s k) ∧ tr 24 3776 Cm (fx_it ls_181_7 k (lr_160_2 M)) ∧ Cm 24 0 = A 24 0 := by
  have b8 := hA.1.2.2.1
  have cA := fi_cl (A 24 0)
  have eA : A 24 0 = R 81 1 := by rw [hA.1.1, fw_160 (by decide)]
  intro k
  induction k with
  | zero =>
    intro _ _
    refine ⟨A, hA, tr_rc hA (by rw [dq0, fw_160 (by decide), fw_160 (by decide)]; exact hf.2.1 1 (by decide)) (by rw [dq0, fw_160 (by decide), fw_160 (by decide)]; exact hf.2.1 4 (by decide)) (fun c hc => ?_) (fun j h1 h2 => ?_), rfl⟩
    · rw [dq0]
      funext j
      rw [fw_160 (by omega), fw_160 (by omega), hf.1 c (by omega)]
    · rw [dq0, lt_eq, lt_eq, if_pos (by omega), if_pos (by omega)]
      exact hf.2.2 _ (by omega)
  | succ k ih =>
    intro h4 hs
    obtain ⟨Cm, c1, c2, c3⟩ := ih (by omega) (fun j hj => hs j (by omega))
    obtain ⟨sk, s9⟩ := hs k (by omega)
    have y96 := dqf k M (c := 96) (by decide)
    have y81 := dqf k M (c := 81) (by decide)
    have m81 : M 81 1 = R 81 1 := hf.2.1 1 (by decide)
    have ek : (Int32.ofNat k).toNatClampNeg = k := fi_at (by omega)
    have ea : (3788 + M 96 k).toNatClampNeg = 3788 + s k := dqa sk s9 (q := 3788) (c := 3788) rfl (by decide)
    have e : fx_it ls_181_7 (k + 1) (lr_160_2 M) = if s k < N then gu (fx_it ls_181_7 k (lr_160_2 M)) (s k) else fx_it ls_181_7 k (lr_160_2 M) := by
      rw [fx_it_s]
      generalize fx_it ls_181_7 k (lr_160_2 M) = Y at y96 y81 ⊢
      unfold ls_181_7 gu
      rw [ek, y96, y81, m81, ea]
      by_cases c : s k < N
      · have hc : M 96 k < R 81 1 := by rw [fi_l, sk, ← eA]; omega
        rw [if_pos c, if_pos hc]
      · have hc : ¬ M 96 k < R 81 1 := by rw [fi_l, sk, ← eA]; omega
        rw [if_neg c, if_neg hc]
    rw [e]
    show ∃ Cm, tr 24 3776 Cm (if s k < N then gu (ly N R s k) (s k) else ly N R s k) ∧ _
    by_cases c : s k < N
    · rw [if_pos c, if_pos c]
      obtain ⟨M', m1, m2, m3⟩ := gt_2 c1 c2 (x := s k) (by rw [c3]; omega)
      exact ⟨M', m1, m2, m3.trans c3⟩
    · rw [if_neg c, if_neg c]
      exact ⟨Cm, c1, c2, c3⟩
variable {a b n : Int32} {J : fl_J}
/-- what is told once all is laid -/
theorem ly_v (hA : tr 24 3776 A (lr_160_2 R)) (hN : (A 24 0).toNatClampNeg = N) {M : fl_M} {s : Nat → Nat} (hf : fD R M) {T : Nat} (hT : T ≤ 4) (hs : ∀ j, j < T → (M 96 j).toInt = s j ∧ s j ≤ 9) (a0 : 0 ≤ a.toInt) (b0 : 0 ≤ b.toInt) (ha : a.toNatClampNeg < N) (hb : b.toNatClampNeg < N) : (v_181 a b (Int32.ofNat T) M).toInt = gl a.toNatClampNeg b.toNatClampNeg (ly N R s T) := by
  obtain ⟨Cm, c1, c2, c3⟩ := ly_t hA hN hf T hT hs
  have b8 := hA.1.2.2.1
  have cA := fi_cl (A 24 0)
  have ca := fi_cl a
  have cb := fi_cl b
  have ea : (3780 + a).toNatClampNeg = 3780 + a.toNatClampNeg := dqa (x := a.toNatClampNeg) (by omega) (by omega) (q := 3780) (c := 3780) rfl (by decide)
  have eb : (3780 + b).toNatClampNeg = 3780 + b.toNatClampNeg := dqa (x := b.toNatClampNeg) (by omega) (by omega) (q := 3780) (c := 3780) rfl (by decide)
  have eT : lr_181_7 (Int32.ofNat T) (lr_160_2 M) = fx_it ls_181_7 T (lr_160_2 M) := by
    unfold lr_181_7 lq_181_7
    rw [fi_at (by omega)]
  rw [gl_c c1 c2 (by rw [c3]; omega) (by rw [c3]; omega)]
  unfold v_181 gl
  rw [yr_1, eT, ea, eb]
  obtain ⟨e1, f1, f2⟩ := gl_y c2 (a := a.toNatClampNeg) (by rw [c3]; omega)
  obtain ⟨e2, f3, f4⟩ := gl_y c2 (a := b.toNatClampNeg) (by rw [c3]; omega)
  rw [e1, e2]
  exact fi_sub (by omega) (by omega)
def dqG (a b : Int32) (N : Nat) (d : Nat) (X : fl_M) (y : Nat) : Int := gr a.toNatClampNeg b.toNatClampNeg N d (if y < N then gu X y else X)
def dqz (p : Bool) : Int := if p = true then -99999 else 99999
theorem dqe (hA : tr 24 3776 A (lr_160_2 R)) (hN : (A 24 0).toNatClampNeg = N) (ha : a.toNatClampNeg < N) (hb : b.toNatClampNeg < N) {M : fl_M} {s : Nat → Nat} (hf : fD R M) {k : Nat} (hk : k ≤ 4) (hs : ∀ j, j < k → (M 96 j).toInt = s j ∧ s j ≤ 9) (d : Nat) : gf ((d + 1) % 2 == 0) (dqG a b N d (ly N R s k)) (dqz ((d + 1) % 2 == 0)) (N + 1) = gr a.toNatClampNeg b.toNatClampNeg N (d + 1) (ly N R s k) := by
  obtain ⟨Cm, c1, -, c3⟩ := ly_t hA hN hf k hk hs
  have bd := gr_b (a := a.toNatClampNeg) (b := b.toNatClampNeg) d Cm _ c1 (by rw [c3]; exact hN) ha hb
  show gb _ (gf _ (dqG a b N d (ly N R s k)) _ N) (dqG a b N d (ly N R s k) N) = gf _ _ _ N
  have e : dqG a b N d (ly N R s k) N = gr a.toNatClampNeg b.toNatClampNeg N d (ly N R s k) := by unfold dqG; rw [if_neg (by omega)]
  rw [e, gf_mu (p := (d + 1) % 2 == 0) (z := dqz ((d + 1) % 2 == 0)) rfl bd]
  refine gf_cg rfl (fun x hx => ?_)
  unfold dqG
  rw [if_pos hx]
theorem dqV {k d : Nat} (hk : k < 4) (hp : (k + d + 1) % 2 = 0) (x y : Int32) : (v_183 (Int32.ofNat k) x y).toInt = gb ((d + 1) % 2 == 0) x.toInt y.toInt := by
  have h : ∀ k, k < 4 → (Int32.ofNat k - Int32.ofNat k / 2 * 2 = 0 ↔ k % 2 = 0) := by decide +kernel
  have h := h k hk
  unfold v_183 gb
  by_cases c : k % 2 = 0
  · have e : ((d + 1) % 2 == 0) = true := by rw [beq_iff_eq]; omega
    rw [if_pos (h.mpr c), e, if_pos rfl]
    by_cases c2 : y < x
    · rw [if_pos c2, if_neg (by rw [fi_l] at c2; omega)]
    · rw [if_neg c2]
      rw [fi_l] at c2
      split <;> omega
  · have e : ((d + 1) % 2 == 0) = false := by rw [beq_eq_false_iff_ne]; omega
    rw [if_neg (fun z => c (h.mp z)), e, if_neg Bool.false_ne_true]
    by_cases c2 : x < y
    · rw [if_pos c2, if_neg (by rw [fi_l] at c2; omega)]
    · rw [if_neg c2]
      rw [fi_l] at c2
      split <;> omega
theorem dq182 {k d : Nat} (hk : k < 4) (hp : (k + d + 1) % 2 = 0) (M : fl_M) : ∃ v : Int32, m_182 (Int32.ofNat k) M = fl_u (fl_u M 96 k 0) 97 k v ∧ v.toInt = dqz ((d + 1) % 2 == 0) := by
  have h : ∀ k, k < 4 → (Int32.ofNat k - Int32.ofNat k / 2 * 2 = 0 ↔ k % 2 = 0) := by decide +kernel
  have h := h k hk
  unfold m_182 dqz
  rw [fi_at (show k < 2147483648 by omega)]
  by_cases c : k % 2 = 0
  · have e : ((d + 1) % 2 == 0) = true := by rw [beq_iff_eq]; omega
    rw [if_pos (h.mpr c), e, if_pos rfl]
    exact ⟨_, rfl, rfl⟩
  · have e : ((d + 1) % 2 == 0) = false := by rw [beq_eq_false_iff_ne]; omega
    rw [if_neg (fun z => c (h.mp z)), e, if_neg Bool.false_ne_true]
    exact ⟨_, rfl, rfl⟩
/-- from here on the loop tells r -/
def dqD (R : fl_M) (J : fl_J) (r : Int32) (st : fl_S) : Prop := ∃ X, fD R X ∧ X 81 11 = r ∧ fl_dn fB180 st (some (.int 1), X, J)
def dqS (a b n : Int32) (T k : Nat) (u6 : Value) (M : fl_M) (J : fl_J) : fl_S := (66, [.ref 81, .int a, .int b, .int n, .int (Int32.ofNat T), .int (Int32.ofNat k), u6], [], M, J)
/-- where the loop stands: what is laid below, what is best below -/
def dqI (R : fl_M) (s : Nat → Nat) (B : Nat → Int32) (k : Nat) (M : fl_M) : Prop := fD R M ∧ (∀ j, j < 4 → 0 ≤ (M 96 j).toInt ∧ (M 96 j).toInt ≤ 9) ∧ (∀ j, j < k → (M 96 j).toInt = s j ∧ s j ≤ 9) ∧ ∀ j, j < k → M 97 j = B j
/-- one more laid, the best so far mended -/
theorem dqIs {s : Nat → Nat} {B : Nat → Int32} {k : Nat} {M Z : fl_M} {v x : Int32} (h : dqI R s B k M) (hz : fD R Z) (z6 : Z 96 = M 96) (z7 : Z 97 = M 97) (hk : k < 4) (h8 : (M 96 k).toInt ≤ 8) (hx : x.toInt = (M 96 k).toInt + 1) : dqI R s B k (fl_u (fl_u Z 97 k v) 96 k x) := by
  obtain ⟨-, h9, hs, hB⟩ := h
  have u : ∀ j, j ≠ k → (fl_u (fl_u Z 97 k v) 96 k x) 96 j = M 96 j := fun j hj => by rw [fl_uo (Or.inr hj), fl_un (by decide), z6]
  refine ⟨fD_u (fD_u hz (Or.inr rfl)) (Or.inl rfl), fun j hj => ?_, fun j hj => ?_, fun j hj => ?_⟩
  · by_cases c : j = k
    · subst c
      have := h9 j hj
      rw [fl_us]
      omega
    · rw [u j c]
      exact h9 j hj
  · rw [u j (by omega)]
    exact hs j hj
  · rw [fl_un (by decide), fl_uo (Or.inr (by omega)), z7]
    exact hB j hj
theorem dqN : ∀ k, k < 4 → ¬ (Int32.ofNat k < 0) ∧ (k + 1 < 4 → Int32.ofNat k + 1 = Int32.ofNat (k + 1)) ∧ (Int32.ofNat (k + 1) + (-1) = Int32.ofNat k) ∧ (Int32.ofNat k).toNatClampNeg = k := by decide +kernel
theorem dqT : ∀ T, T < 5 → ∀ k, k < 4 → (Int32.ofNat k = Int32.ofNat T - 1 ↔ k + 1 = T) := by decide +kernel
theorem dqP : ∀ T, T < 5 → 0 < T → 0 < Int32.ofNat T := by decide +kernel
theorem dqk (hA : tr 24 3776 A (lr_160_2 R)) (hN : (A 24 0).toNatClampNeg = N) (a0 : 0 ≤ a.toInt) (b0 : 0 ≤ b.toInt) (ha : a.toNatClampNeg < N) (hb : b.toNatClampNeg < N) (r4 : 0 ≤ (R 81 4).toInt ∧ (R 81 4).toInt ≤ 4) {T : Nat} (hT : T < 5) (hT2 : T % 2 = 0) (r : Int32) : ∀ (d k : Nat), k + d + 1 = T → ∀ (s : Nat → Nat) (B : Nat → Int32), (∀ (M' : fl_M) (u6 : Value), dqI R s B k M' → (M' 96 k).toInt = (N : Int) + 1 → (M' 97 k).toInt = gr a.toNatClampNeg b.toNatClampNeg N (d + 1) (ly N R s k) → dqD R J r (dqS a b n T k u6 M' J)) → ∀ (m x : Nat) (u6 : Value) (M : fl_M), x + m = N + 1 → dqI R s B k M → (M 96 k).toInt = x → (M 97 k).toInt = gf ((d + 1) % 2 == 0) (dqG a b N d (ly N R s k)) (dqz ((d + 1) % 2 == 0)) x → dqD R J r (dqS a b n T k u6 M J) := by
  have b8 := hA.1.2.2.1
  have cA := fi_cl (A 24 0)
  have eA : A 24 0 = R 81 1 := by rw [hA.1.1, fw_160 (by decide)]
  rw [eA] at b8 cA hN
  have hN' : (A 24 0).toNatClampNeg = N := by rw [eA]; exact hN
  intro d
  induction d with
  | zero =>
    intro k hk s B K m
    obtain ⟨n1, -, -, n4⟩ := dqN k (by omega)
    have t0 := dqP T hT (by omega)
    induction m with
    | zero =>
      intro x u6 M hx hI h6 h7
      refine K M u6 hI (by omega) ?_
      rw [h7, show x = N + 1 by omega]
      exact dqe hA hN' ha hb hI.1 (by omega) hI.2.2.1 0
    | succ m ihm =>
      intro x u6 M hx hI h6 h7
      have hM := hI
      obtain ⟨hf, h9, hs, hB⟩ := hI
      have e81 : M 81 1 = R 81 1 := hf.2.1 1 (by decide)
      have e84 : M 81 4 = R 81 4 := hf.2.1 4 (by decide)
      have hz := dw_z (X := M) (by rw [e81]; exact b8) (by rw [e84]; exact r4) (fun j hj => (h9 j hj).1) (Int32.ofNat T) (by rw [fi_ti (by omega)]; omega)
      have z6 := hz.1 96 (by decide)
      have z7 := hz.1 97 (by decide)
      have e1 : ((lr_161_2 1 (lr_181_7 (Int32.ofNat T) (lr_160_2 M))) 96 k + 1).toInt = (M 96 k).toInt + 1 := by rw [z6]; exact fi_p1 (by omega)
      have hv := ly_v (a := a) (b := b) (s := fun j => if j < k then s j else x) hA hN' hf (T := T) (by omega) (fun j hj => by
        show (M 96 j).toInt = ((if j < k then s j else x : Nat) : Int) ∧ (if j < k then s j else x) ≤ 9
        by_cases c : j < k
        · rw [if_pos c]; exact hs j c
        · rw [if_neg c, show j = k by omega]; omega) a0 b0 ha hb
      have el : ly N R (fun j => if j < k then s j else x) T = if x < N then gu (ly N R s k) x else ly N R s k := by
        rw [← hk]
        show (if (if k < k then s k else x) < N then gu (ly N R _ k) (if k < k then s k else x) else ly N R _ k) = _
        rw [if_neg (Nat.lt_irrefl k), ly_c k (s' := s) (fun j hj => if_pos hj)]
      rw [el] at hv
      obtain ⟨X, x1, x2, x3⟩ := ihm (x + 1) u6 _ (by omega) (dqIs (v := v_183 (Int32.ofNat k) (M 97 k) (v_181 a b (Int32.ofNat T) M)) hM (fD_R hf hz) z6 z7 (by omega) (by omega) e1) (by rw [fl_us, e1]; omega) (by
        rw [fl_un (by decide), fl_us, dqV (d := 0) (by omega) (by omega), h7, hv]
        rfl)
      refine ⟨X, x1, x2, ts_180_66 a b n (Int32.ofNat T) (Int32.ofNat k) u6 M J (fun _ z => absurd z n1) (fun _ _ z => absurd z ?_) (fun _ _ z => absurd z ?_) (fun _ _ _ _ => ?_) (fun _ _ _ z => absurd ((dqT T hT k (by omega)).mpr (by omega)) z) (fun z => absurd t0 z)⟩
      · rw [n4, fi_l, e81]; omega
      · rw [n4, fi_l, e81]; omega
      · rw [n4]
        exact x3
  | succ d ihd =>
    intro k hk s B K m
    obtain ⟨n1, n2, -, n4⟩ := dqN k (by omega)
    obtain ⟨p1, -, -, p4⟩ := dqN (k + 1) (by omega)
    have n2 := n2 (by omega)
    have n3 := (dqN k (by omega)).2.2.1
    have t0 := dqP T hT (by omega)
    induction m with
    | zero =>
      intro x u6 M hx hI h6 h7
      refine K M u6 hI (by omega) ?_
      rw [h7, show x = N + 1 by omega]
      exact dqe hA hN' ha hb hI.1 (by omega) hI.2.2.1 (d + 1)
    | succ m ihm =>
      intro x u6 M hx hI h6 h7
      have hM := hI
      obtain ⟨hf, h9, hs, hB⟩ := hI
      have e81 : M 81 1 = R 81 1 := hf.2.1 1 (by decide)
      obtain ⟨v, hv, hv2⟩ := dq182 (k := k + 1) (d := d) (by omega) (by omega) M
      have el : ly N R (fun j => if j < k then s j else x) (k + 1) = if x < N then gu (ly N R s k) x else ly N R s k := by
        show (if (if k < k then s k else x) < N then gu (ly N R _ k) (if k < k then s k else x) else ly N R _ k) = _
        rw [if_neg (Nat.lt_irrefl k), ly_c k (s' := s) (fun j hj => if_pos hj)]
      have below := ihd (k + 1) (by omega) (fun j => if j < k then s j else x) (fun j => if j < k then B j else M 97 k) (fun M' u6' hI' i6 i7 => by
        have hM' := hI'
        obtain ⟨gf_, g9, gs_, gB⟩ := hI'
        have f81 : M' 81 1 = R 81 1 := gf_.2.1 1 (by decide)
        have g6 : (M' 96 k).toInt = ((if k < k then s k else x : Nat) : Int) := (gs_ k (by omega)).1
        have g7 : M' 97 k = if k < k then B k else M 97 k := gB k (by omega)
        rw [if_neg (Nat.lt_irrefl k)] at g6 g7
        have hIk : dqI R s B k M' := ⟨gf_, g9, fun j hj => by have t : (M' 96 j).toInt = ((if j < k then s j else x : Nat) : Int) ∧ (if j < k then s j else x) ≤ 9 := gs_ j (by omega); rw [if_pos hj] at t; exact t, fun j hj => by have t : M' 97 j = (if j < k then B j else M 97 k) := gB j (by omega); rw [if_pos hj] at t; exact t⟩
        have e1 : (M' 96 k + 1).toInt = (M' 96 k).toInt + 1 := fi_p1 (by omega)
        rw [el] at i7
        obtain ⟨X, x1, x2, x3⟩ := ihm (x + 1) (.int (M' 97 (k + 1))) _ (by omega) (dqIs (v := v_183 (Int32.ofNat k) (M' 97 k) (M' 97 (k + 1))) hIk gf_ rfl rfl (by omega) (by omega) e1) (by rw [fl_us, e1]; omega) (by
          rw [fl_un (by decide), fl_us, dqV (d := d + 1) (by omega) (by omega), g7, h7, i7]
          rfl)
        refine ⟨X, x1, x2, ts_180_66 a b n (Int32.ofNat T) (Int32.ofNat (k + 1)) u6' M' J (fun _ z => absurd z p1) (fun _ _ _ z => absurd z ?_) (fun _ _ _ _ => ?_) (fun _ _ z => absurd ?_ z) (fun _ _ z => absurd ?_ z) (fun z => absurd t0 z)⟩
        · rw [n3]; exact n1
        · rw [n3, n4, p4]
          exact x3
        · rw [p4, fi_l, f81]; omega
        · rw [p4, fi_l, f81]; omega)
      obtain ⟨X, x1, x2, x3⟩ := below (N + 1) 0 u6 (fl_u (fl_u M 96 (k + 1) 0) 97 (k + 1) v) (by omega) ⟨fD_u (fD_u hf (Or.inl rfl)) (Or.inr rfl), fun j hj => by
          rw [fl_un (by decide)]
          by_cases c : j = k + 1
          · rw [c, fl_us]; decide
          · rw [fl_uo (Or.inr c)]; exact h9 j hj, fun j hj => by
          show (fl_u (fl_u M 96 (k + 1) 0) 97 (k + 1) v 96 j).toInt = ((if j < k then s j else x : Nat) : Int) ∧ (if j < k then s j else x) ≤ 9
          rw [fl_un (by decide), fl_uo (Or.inr (by omega))]
          by_cases c : j < k
          · rw [if_pos c]; exact hs j c
          · rw [if_neg c, show j = k by omega]; omega, fun j hj => by
          show fl_u (fl_u M 96 (k + 1) 0) 97 (k + 1) v 97 j = if j < k then B j else M 97 k
          rw [fl_uo (Or.inr (by omega)), fl_un (by decide)]
          by_cases c : j < k
          · rw [if_pos c]; exact hB j c
          · rw [if_neg c, show j = k by omega]⟩ (by rw [fl_un (by decide), fl_us]; rfl) (by rw [fl_us, hv2]; rfl)
      refine ⟨X, x1, x2, ts_180_66 a b n (Int32.ofNat T) (Int32.ofNat k) u6 M J (fun _ z => absurd z n1) (fun _ _ z => absurd z ?_) (fun _ _ z => absurd z ?_) (fun _ _ _ z => absurd ((dqT T hT k (by omega)).mp z) (by omega)) (fun _ _ _ _ => ?_) (fun z => absurd t0 z)⟩
      · rw [n4, fi_l, e81]; omega
      · rw [n4, fi_l, e81]; omega
      · rw [n2, hv]
        exact x3
end RK
