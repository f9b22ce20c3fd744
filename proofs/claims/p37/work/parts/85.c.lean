/-! By turns: what comes out where both do their best, as a number; the same for memories tied to the same register. -/
def gb (p : Bool) (x y : Int) : Int := if p = true then (if x < y then y else x) else (if y < x then y else x)
def gf (p : Bool) (g : Nat → Int) (e : Int) : Nat → Int
  | 0 => e
  | n + 1 => gb p (gf p g e n) (g n)
def gs (V r lo hi : Int) : Prop := (V ≤ lo → V ≤ r ∧ r ≤ lo) ∧ (hi ≤ V → hi ≤ r ∧ r ≤ V) ∧ (lo < V → V < hi → r = V)
theorem gb_T (x y : Int) : gb true x y = if x < y then y else x := if_pos rfl
theorem gb_F (x y : Int) : gb false x y = if y < x then y else x := if_neg Bool.false_ne_true
theorem gb_t {x y : Int} : (x < y → gb true x y = y) ∧ (¬ x < y → gb true x y = x) := ⟨fun h => by rw [gb_T, if_pos h], fun h => by rw [gb_T, if_neg h]⟩
theorem gb_f {x y : Int} : (y < x → gb false x y = y) ∧ (¬ y < x → gb false x y = x) := ⟨fun h => by rw [gb_F, if_pos h], fun h => by rw [gb_F, if_neg h]⟩
theorem gs_t {W v W' best got r lo hi ln : Int} (h : gs W best lo hi) (h2 : gs v got ln hi) (lt : ln < hi) (l1 : lo < best → ln = best) (l2 : ¬ lo < best → ln = lo) (r1 : best < got → r = got) (r2 : ¬ best < got → r = best) (w1 : W < v → W' = v) (w2 : ¬ W < v → W' = W) : gs W' r lo hi := by
  obtain ⟨a1, a2, a3⟩ := h
  obtain ⟨b1, b2, b3⟩ := h2
  have a1a : W ≤ lo → W ≤ best := fun z => (a1 z).1
  have a1b : W ≤ lo → best ≤ lo := fun z => (a1 z).2
  have a2a : hi ≤ W → hi ≤ best := fun z => (a2 z).1
  have b1a : v ≤ ln → v ≤ got := fun z => (b1 z).1
  have b1b : v ≤ ln → got ≤ ln := fun z => (b1 z).2
  have b2a : hi ≤ v → hi ≤ got := fun z => (b2 z).1
  have b2b : hi ≤ v → got ≤ v := fun z => (b2 z).2
  clear a1 a2 b1 b2
  by_cases c1 : lo < best <;> by_cases c2 : best < got <;> by_cases c3 : W < v
  all_goals
    first | have l1 := l1 c1 | have l1 := l2 c1
    first | have r1 := r1 c2 | have r1 := r2 c2
    first | have w1 := w1 c3 | have w1 := w2 c3
    refine ⟨fun z => ⟨?_, ?_⟩, fun z => ⟨?_, ?_⟩, fun z y => ?_⟩ <;> omega
theorem gs_f {W v W' best got r lo hi hn : Int} (h : gs W best lo hi) (h2 : gs v got lo hn) (lt : lo < hn) (l1 : best < hi → hn = best) (l2 : ¬ best < hi → hn = hi) (r1 : got < best → r = got) (r2 : ¬ got < best → r = best) (w1 : v < W → W' = v) (w2 : ¬ v < W → W' = W) : gs W' r lo hi := by
  obtain ⟨a1, a2, a3⟩ := h
  obtain ⟨b1, b2, b3⟩ := h2
  have h : gs (-W) (-best) (-hi) (-lo) := ⟨fun z => ⟨by have := (a2 (by omega)).2; omega, by have := (a2 (by omega)).1; omega⟩, fun z => ⟨by have := (a1 (by omega)).2; omega, by have := (a1 (by omega)).1; omega⟩, fun z y => by have := a3 (by omega) (by omega); omega⟩
  have h2 : gs (-v) (-got) (-hn) (-lo) := ⟨fun z => ⟨by have := (b2 (by omega)).2; omega, by have := (b2 (by omega)).1; omega⟩, fun z => ⟨by have := (b1 (by omega)).2; omega, by have := (b1 (by omega)).1; omega⟩, fun z y => by have := b3 (by omega) (by omega); omega⟩
  have g : gs (-W') (-r) (-hi) (-lo) := gs_t h h2 (by omega) (fun z => by have := l1 (by omega); omega) (fun z => by have := l2 (by omega); omega) (fun z => by have := r1 (by omega); omega) (fun z => by have := r2 (by omega); omega) (fun z => by have := w1 (by omega); omega) (fun z => by have := w2 (by omega); omega)
  obtain ⟨c1, c2, c3⟩ := g
  exact ⟨fun z => ⟨by have := (c2 (by omega)).2; omega, by have := (c2 (by omega)).1; omega⟩, fun z => ⟨by have := (c1 (by omega)).2; omega, by have := (c1 (by omega)).1; omega⟩, fun z y => by have := c3 (by omega) (by omega); omega⟩
theorem gs_r {V lo hi : Int} : gs V V lo hi := ⟨fun z => ⟨Int.le_refl _, z⟩, fun z => ⟨z, Int.le_refl _⟩, fun _ _ => rfl⟩
/-- left early, the first one's turn: it can't become less -/
theorem gs_tb {W V best lo hi : Int} (h : gs W best lo hi) (lt : lo < hi) (hb : ¬ best < hi) (hv : W ≤ V) : gs V best lo hi := by
  obtain ⟨a1, a2, a3⟩ := h
  have w : hi ≤ W := by
    by_cases c : W ≤ lo
    · have := (a1 c).2; omega
    · by_cases c2 : W < hi
      · have := a3 (by omega) c2; omega
      · omega
  have g := a2 w
  exact ⟨fun z => by omega, fun z => ⟨by omega, by omega⟩, fun z y => by omega⟩
theorem gs_fb {W V best lo hi : Int} (h : gs W best lo hi) (lt : lo < hi) (hb : ¬ lo < best) (hv : V ≤ W) : gs V best lo hi := by
  obtain ⟨a1, a2, a3⟩ := h
  have w : W ≤ lo := by
    by_cases c : hi ≤ W
    · have := (a2 c).1; omega
    · by_cases c2 : lo < W
      · have := a3 c2 (by omega); omega
      · omega
  have g := a1 w
  exact ⟨fun z => ⟨by omega, by omega⟩, fun z => by omega, fun z y => by omega⟩
section GF
variable {g : Nat → Int} {e : Int}
theorem gf_t1 (n : Nat) : gf true g e n ≤ gf true g e (n + 1) := by
  have := @gb_t (gf true g e n) (g n)
  show _ ≤ gb true (gf true g e n) (g n)
  by_cases c : gf true g e n < g n
  · rw [this.1 c]; omega
  · rw [this.2 c]; omega
theorem gf_f1 (n : Nat) : gf false g e (n + 1) ≤ gf false g e n := by
  have := @gb_f (gf false g e n) (g n)
  show gb false (gf false g e n) (g n) ≤ _
  by_cases c : g n < gf false g e n
  · rw [this.1 c]; omega
  · rw [this.2 c]; omega
theorem gf_tm {n m : Nat} (h : n ≤ m) : gf true g e n ≤ gf true g e m := by
  induction h with
  | refl => exact Int.le_refl _
  | step _ ih => exact Int.le_trans ih (gf_t1 _)
theorem gf_fm {n m : Nat} (h : n ≤ m) : gf false g e m ≤ gf false g e n := by
  induction h with
  | refl => exact Int.le_refl _
  | step _ ih => exact Int.le_trans (gf_f1 _) ih
theorem gf_bd {p : Bool} {lo hi : Int} {n : Nat} (he : lo ≤ e ∧ e ≤ hi) (hg : ∀ x, x < n → lo ≤ g x ∧ g x ≤ hi) : lo ≤ gf p g e n ∧ gf p g e n ≤ hi := by
  induction n with
  | zero => exact he
  | succ n ih =>
    have ih := ih (fun x hx => hg x (by omega))
    have g' := hg n (by omega)
    show lo ≤ gb p (gf p g e n) (g n) ∧ gb p (gf p g e n) (g n) ≤ hi
    unfold gb
    repeat' split
    all_goals omega
theorem gf_cg {p : Bool} {g' : Nat → Int} {e' : Int} {n : Nat} (he : e = e') (hg : ∀ x, x < n → g x = g' x) : gf p g e n = gf p g' e' n := by
  induction n with
  | zero => exact he
  | succ n ih =>
    show gb p (gf p g e n) (g n) = gb p (gf p g' e' n) (g' n)
    rw [ih (fun x hx => hg x (by omega)), hg n (by omega)]
/-- begun with much, the pass last: the same -/
theorem gf_mu {p : Bool} {n : Nat} {z : Int} (hz : z = if p = true then -99999 else 99999) (he : -40 ≤ e ∧ e ≤ 40) : gb p (gf p g z n) e = gf p g e n := by
  induction n with
  | zero =>
    show gb p z e = e
    subst hz
    cases p
    · exact gb_f.1 (by rw [if_neg Bool.false_ne_true]; omega)
    · exact gb_t.1 (by rw [if_pos rfl]; omega)
  | succ n ih =>
    show gb p (gb p (gf p g z n) (g n)) e = gb p (gf p g e n) (g n)
    rw [← ih]
    generalize gf p g z n = A
    generalize g n = B
    cases p
    · simp only [gb_F]
      repeat' split
      all_goals omega
    · simp only [gb_T]
      repeat' split
      all_goals omega
end GF
/-- one CHEESE more, where there is room -/
def gu (X : fl_M) (x : Nat) : fl_M := if X 82 (3788 + x) < 20 then fl_u X 82 (3788 + x) (X 82 (3788 + x) + 1) else X
def gl (a b : Nat) (X : fl_M) : Int := (m_150 3776 0 X 82 (3780 + a)).toInt - (m_150 3776 0 X 82 (3780 + b)).toInt
def gr (a b n : Nat) : Nat → fl_M → Int
  | 0, X => gl a b X
  | k + 1, X => gf ((k + 1) % 2 == 0) (fun x => gr a b n k (gu X x)) (gr a b n k X) n
section GT
variable {M X X' : fl_M} {n a b : Nat}
theorem gt_c (h : tr 24 3776 M X) {x : Nat} (hx : x < (M 24 0).toNatClampNeg) : X 82 (3788 + x) = M 28 x ∧ 0 ≤ (M 28 x).toInt ∧ (M 28 x).toInt ≤ 20 := by
  obtain ⟨-, d1, d2, d3⟩ := h.2.2.2.2.1 x hx
  exact ⟨d1.symm, d2, d3⟩
theorem gt_u (h : tr 24 3776 M X) {x : Nat} (hx : x < (M 24 0).toNatClampNeg) (h2 : M 28 x < 20) : tr 24 3776 (fl_u M 28 x (M 28 x + 1)) (gu X x) := by
  obtain ⟨d1, d2, d3⟩ := gt_c h hx
  have h3 := h2
  rw [fi_l, fj_20] at h3
  have e := fi_p1 (p := M 28 x) (by omega)
  unfold gu
  rw [d1, if_pos h2]
  exact tr_uc (T := 24) (b := 3776) h hx (by rw [e]; omega)
theorem gt_n (h : tr 24 3776 M X) {x : Nat} (hx : x < (M 24 0).toNatClampNeg) (h2 : ¬ M 28 x < 20) : gu X x = X := by
  unfold gu
  rw [(gt_c h hx).1, if_neg h2]
/-- both, with one memory of the class -/
theorem gt_2 (h : tr 24 3776 M X) (h' : tr 24 3776 M X') {x : Nat} (hx : x < (M 24 0).toNatClampNeg) : ∃ M', tr 24 3776 M' (gu X x) ∧ tr 24 3776 M' (gu X' x) ∧ M' 24 0 = M 24 0 := by
  by_cases c : M 28 x < 20
  · exact ⟨_, gt_u h hx c, gt_u h' hx c, by rw [fl_un (by decide)]⟩
  · exact ⟨M, by rw [gt_n h hx c]; exact h, by rw [gt_n h' hx c]; exact h', rfl⟩
/-- a YEAR later -/
theorem gl_y {T : Nat} {M X : fl_M} (h : tr T 3776 M X) {a : Nat} (ha : a < (M T 0).toNatClampNeg) : m_150 3776 0 X 82 (3780 + a) = m_46 0 T M (T + 3) a ∧ 0 ≤ (m_46 0 T M (T + 3) a).toInt ∧ (m_46 0 T M (T + 3) a).toInt ≤ 40 := by
  have g := (py_eq h tr_bt 0).2
  have e : m_46 0 T M T 0 = M T 0 := by
    rw [g.1.1, fw_150 (by decide), h.1.1]
  obtain ⟨⟨d1, d2, d3⟩, -⟩ := g.2.2.2.2.1 a (by rw [e]; exact ha)
  exact ⟨d1.symm, d2, d3⟩
theorem gl_c (h : tr 24 3776 M X) (h' : tr 24 3776 M X') (ha : a < (M 24 0).toNatClampNeg) (hb : b < (M 24 0).toNatClampNeg) : gl a b X = gl a b X' := by
  unfold gl
  rw [(gl_y h ha).1, (gl_y h hb).1, (gl_y h' ha).1, (gl_y h' hb).1]
theorem gr_c : ∀ (k : Nat) (M X X' : fl_M), tr 24 3776 M X → tr 24 3776 M X' → (M 24 0).toNatClampNeg = n → a < n → b < n → gr a b n k X = gr a b n k X' := by
  intro k
  induction k with
  | zero =>
    intro M X X' h h' hn ha hb
    exact gl_c h h' (by omega) (by omega)
  | succ k ih =>
    intro M X X' h h' hn ha hb
    show gf _ (fun x => gr a b n k (gu X x)) (gr a b n k X) n = gf _ (fun x => gr a b n k (gu X' x)) (gr a b n k X') n
    refine gf_cg (ih M X X' h h' hn ha hb) (fun x hx => ?_)
    obtain ⟨M', m1, m2, m3⟩ := gt_2 h h' (x := x) (by omega)
    exact ih M' _ _ m1 m2 (by rw [m3]; exact hn) ha hb
theorem gr_b : ∀ (k : Nat) (M X : fl_M), tr 24 3776 M X → (M 24 0).toNatClampNeg = n → a < n → b < n → -40 ≤ gr a b n k X ∧ gr a b n k X ≤ 40 := by
  intro k
  induction k with
  | zero =>
    intro M X h hn ha hb
    show -40 ≤ gl a b X ∧ gl a b X ≤ 40
    unfold gl
    obtain ⟨e1, f1, f2⟩ := gl_y h (a := a) (by omega)
    obtain ⟨e2, f3, f4⟩ := gl_y h (a := b) (by omega)
    rw [e1, e2]
    omega
  | succ k ih =>
    intro M X h hn ha hb
    show -40 ≤ gf _ (fun x => gr a b n k (gu X x)) (gr a b n k X) n ∧ gf _ (fun x => gr a b n k (gu X x)) (gr a b n k X) n ≤ 40
    refine gf_bd (ih M X h hn ha hb) (fun x hx => ?_)
    obtain ⟨M', m1, -, m3⟩ := gt_2 h h (x := x) (by omega)
    exact ih M' _ m1 (by rw [m3]; exact hn) ha hb
end GT
