/-! Values, cells and states of which only ranges are known. -/
abbrev aw_V : Type := Nat ⊕ (Bool × ar_R)
def aw_m (v : aw_V) (w : Value) : Prop := match v with
  | .inl k => w = .ref k
  | .inr (false, r) => ∃ x : Int32, w = .int x ∧ ar_in x.toInt r
  | .inr (true, r) => ∃ x : Int64, w = .long x ∧ ar_in x.toInt r
/-- where a number on the stack came from: a local (0), a field (1), a place of a row (2) -/
abbrev aw_G : Type := Option (Nat × Nat × Nat)
def aw_z (w : Value) : Option Int := match w with
  | .int x => some x.toInt
  | .long x => some x.toInt
  | _ => none
def aw_t (lv : sm_L) (h : List va_E) (g : aw_G) (w : Value) : Prop := match g with
  | none => True
  | some (0, j, _) => ∃ w', sm_get lv j = some w' ∧ aw_z w' = aw_z w
  | some (1, a, k) => ∃ ci fs w', h[a]? = some (.inr (ci, fs)) ∧ fs[k]? = some w' ∧ aw_z w' = aw_z w
  | some (_, a, j) => ∃ t n f, h[a]? = some (.inl (t, n, .inl f)) ∧ j < n ∧ some (f j).toInt = aw_z w
/-- a cell: an object; a row of ints or bytes by its parts, single places apart; a row of references; one of which nothing is said -/
abbrev aw_A : Type := (Nat × List aw_V) ⊕ (Nat × Nat × List (Nat × Nat × ar_R) × List (Nat × ar_R)) ⊕ (Nat × List Nat) ⊕ Unit
def aw_c (c : aw_A) (e : va_E) : Prop := match c with
  | .inl (ci, vs) => ∃ fs : List Value, e = .inr (ci, fs) ∧ fs.length = vs.length ∧ ∀ (k : Nat) (v : aw_V) (w : Value), vs[k]? = some v → fs[k]? = some w → aw_m v w
  | .inr (.inl (t, n, sg, tr)) => ∃ f : Nat → Int32, e = .inl (t, n, .inl f) ∧ (∀ q ∈ sg, ∀ j : Nat, q.1 ≤ j → j ≤ q.2.1 → ar_in (f j).toInt q.2.2) ∧ ∀ q ∈ tr, q.1 < n ∧ ar_in (f q.1).toInt q.2
  | .inr (.inr (.inl (t, cs))) => 2 ≤ t ∧ t < 5 ∧ ∃ f : Nat → Option Nat, e = .inl (t, cs.length, .inr (.inr (.inr (.inr f)))) ∧ ∀ (j b : Nat), cs[j]? = some b → f j = some b
  | .inr (.inr (.inr _)) => True
abbrev aw_H : Type := List (Nat × aw_A)
abbrev aw_L : Type := List (Nat × aw_V)
def aw_h (H : aw_H) (h : List va_E) : Prop := ∀ q ∈ H, ∃ e, h[q.1]? = some e ∧ aw_c q.2 e
def aw_l (L : aw_L) (lv : sm_L) : Prop := ∀ q ∈ L, ∃ w, sm_get lv q.1 = some w ∧ aw_m q.2 w
def aw_s (lv : sm_L) (h : List va_E) : List (aw_V × aw_G) → List Value → Prop
  | [], [] => True
  | v :: vs, w :: ws => aw_m v.1 w ∧ aw_t lv h v.2 w ∧ aw_s lv h vs ws
  | _, _ => False
abbrev aw_S : Type := aw_L × List (aw_V × aw_G) × aw_H
def aw_ok (S : aw_S) (lv : sm_L) (st : List Value) (h : List va_E) : Prop := aw_l S.1 lv ∧ aw_s lv h S.2.1 st ∧ aw_h S.2.2 h
theorem aw_lk {α : Type} {l : List (Nat × α)} {x : Nat} {v : α} (h : sm_lk l x = some v) : (x, v) ∈ l := sm_lk_s h
/-- a stack's top -/
theorem aw_s1 {lv : sm_L} {h : List va_E} {v : aw_V × aw_G} {vs : List (aw_V × aw_G)} {st : List Value} (H : aw_s lv h (v :: vs) st) : ∃ w ws, st = w :: ws ∧ aw_m v.1 w ∧ aw_t lv h v.2 w ∧ aw_s lv h vs ws := by
  cases st with
  | nil => exact H.elim
  | cons w ws => exact ⟨w, ws, rfl, H⟩
def aw_c0 (st : List (aw_V × aw_G)) : List (aw_V × aw_G) := st.map fun q => match q.2 with
  | some (0, _, _) => (q.1, none)
  | _ => q
def aw_ch (st : List (aw_V × aw_G)) : List (aw_V × aw_G) := st.map fun q => match q.2 with
  | some (0, _, _) => q
  | _ => (q.1, none)
theorem aw_c0_s {lv lv' : sm_L} {h : List va_E} : ∀ {vs : List (aw_V × aw_G)} {st : List Value}, aw_s lv h vs st → aw_s lv' h (aw_c0 vs) st
  | [], [], _ => trivial
  | [], _ :: _, H => H.elim
  | _ :: _, [], H => H.elim
  | (v, g) :: vs, w :: ws, H => by
    obtain ⟨h1, h2, h3⟩ := H
    have ih := aw_c0_s (lv' := lv') h3
    match g, h2 with
    | none, h2 => exact ⟨h1, trivial, ih⟩
    | some (0, _, _), h2 => exact ⟨h1, trivial, ih⟩
    | some (1, _, _), h2 => exact ⟨h1, h2, ih⟩
    | some (_ + 2, _, _), h2 => exact ⟨h1, h2, ih⟩
theorem aw_ch_s {lv : sm_L} {h h' : List va_E} : ∀ {vs : List (aw_V × aw_G)} {st : List Value}, aw_s lv h vs st → aw_s lv h' (aw_ch vs) st
  | [], [], _ => trivial
  | [], _ :: _, H => H.elim
  | _ :: _, [], H => H.elim
  | (v, g) :: vs, w :: ws, H => by
    obtain ⟨h1, h2, h3⟩ := H
    have ih := aw_ch_s (h' := h') h3
    match g, h2 with
    | none, h2 => exact ⟨h1, trivial, ih⟩
    | some (0, _, _), h2 => exact ⟨h1, h2, ih⟩
    | some (1, _, _), h2 => exact ⟨h1, trivial, ih⟩
    | some (_ + 2, _, _), h2 => exact ⟨h1, trivial, ih⟩
def aw_set (v : aw_V) (r : ar_R) : aw_V := match v with
  | .inr (b, _) => .inr (b, r)
  | .inl a => .inl a
theorem aw_set_s {v : aw_V} {w w' : Value} {r : ar_R} {z : Int} (h : aw_m v w') (he : aw_z w' = aw_z w) (hz : aw_z w = some z) (hr : ar_in z r) : aw_m (aw_set v r) w' := by
  rw [hz] at he
  match v, h with
  | .inl a, h => exact h
  | .inr (false, _), h =>
    obtain ⟨x, rfl, -⟩ := h
    cases he
    exact ⟨x, rfl, hr⟩
  | .inr (true, _), h =>
    obtain ⟨x, rfl, -⟩ := h
    cases he
    exact ⟨x, rfl, hr⟩
def aw_fset (c : aw_A) (k : Nat) (r : ar_R) : aw_A := match c with
  | .inl (ci, vs) => match vs[k]? with
    | some v => .inl (ci, vs.set k (aw_set v r))
    | none => .inl (ci, vs)
  | c => c
def aw_tset (c : aw_A) (j : Nat) (r : ar_R) : aw_A := match c with
  | .inr (.inl (t, n, sg, tr)) => .inr (.inl (t, n, sg, (j, r) :: tr.filter fun q => !(q.1 == j)))
  | c => c
/-- a number is known better: so is the place that it came from -/
def aw_rf (g : aw_G) (r : ar_R) (S : aw_S) : aw_S := match g with
  | none => S
  | some (0, j, _) => (S.1.map fun q => if q.1 = j then (q.1, aw_set q.2 r) else q, S.2)
  | some (1, a, k) => (S.1, S.2.1, S.2.2.map fun q => if q.1 = a then (q.1, aw_fset q.2 k r) else q)
  | some (_, a, j) => (S.1, S.2.1, S.2.2.map fun q => if q.1 = a then (q.1, aw_tset q.2 j r) else q)
theorem aw_h_map {H : aw_H} {h h' : List va_E} {a : Nat} {F : aw_A → aw_A} (hH : aw_h H h) (hne : ∀ b, b ≠ a → h'[b]? = h[b]?) (ha : ∀ c, (a, c) ∈ H → ∀ e, h[a]? = some e → aw_c c e → ∃ e', h'[a]? = some e' ∧ aw_c (F c) e') : aw_h (H.map fun q => if q.1 = a then (q.1, F q.2) else q) h' := by
  intro q hq
  obtain ⟨q0, hq0, rfl⟩ := List.mem_map.mp hq
  obtain ⟨e, he, hc⟩ := hH q0 hq0
  by_cases hqa : q0.1 = a
  · rw [if_pos hqa]
    subst hqa
    exact ha q0.2 hq0 e he hc
  · rw [if_neg hqa]
    exact ⟨e, by rw [hne _ hqa]; exact he, hc⟩
theorem aw_rf_s {g : aw_G} {r : ar_R} {S : aw_S} {lv : sm_L} {st : List Value} {h : List va_E} {w : Value} {z : Int} (hS : aw_ok S lv st h) (hg : aw_t lv h g w) (hz : aw_z w = some z) (hr : ar_in z r) : aw_ok (aw_rf g r S) lv st h := by
  obtain ⟨h1, h2, h3⟩ := hS
  match g, hg with
  | none, _ => exact ⟨h1, h2, h3⟩
  | some (0, j, _), hg =>
    refine ⟨?_, h2, h3⟩
    intro q hq
    obtain ⟨q0, hq0, rfl⟩ := List.mem_map.mp hq
    obtain ⟨w1, hw1, hm⟩ := h1 q0 hq0
    by_cases hj : q0.1 = j
    · rw [if_pos hj]
      obtain ⟨w', hw', he⟩ := hg
      rw [hj] at hw1
      have e := Option.some.inj (hw'.symm.trans hw1)
      subst e
      exact ⟨_, by rw [← hj] at hw'; exact hw', aw_set_s hm he hz hr⟩
    · rw [if_neg hj]
      exact ⟨w1, hw1, hm⟩
  | some (1, a, k), hg =>
    refine ⟨h1, h2, aw_h_map (a := a) (F := fun c => aw_fset c k r) h3 (fun _ _ => rfl) ?_⟩
    intro c _ e he hc
    obtain ⟨ci, fs, w', g1, g2, g3⟩ := hg
    cases g1.symm.trans he
    refine ⟨_, he, ?_⟩
    match c, hc with
    | .inl (ci', vs), hc =>
      obtain ⟨fs', e1, e2, e3⟩ := hc
      cases e1
      unfold aw_fset
      dsimp only
      cases hv : vs[k]? with
      | none => exact ⟨fs, rfl, e2, e3⟩
      | some v =>
        refine ⟨fs, rfl, by rw [List.length_set]; exact e2, ?_⟩
        intro k' v' w1 hk' hw1
        rw [List.getElem?_set] at hk'
        by_cases hkk : k = k'
        · subst hkk
          rw [if_pos rfl] at hk'
          split at hk'
          · cases hk'
            cases g2.symm.trans hw1
            exact aw_set_s (e3 k v w' hv g2) g3 hz hr
          · cases hk'
        · rw [if_neg hkk] at hk'
          exact e3 k' v' w1 hk' hw1
    | .inr (.inl _), hc => exact hc
    | .inr (.inr (.inl _)), hc => exact hc
    | .inr (.inr (.inr _)), hc => exact hc
  | some (_ + 2, a, j), hg =>
    refine ⟨h1, h2, aw_h_map (a := a) (F := fun c => aw_tset c j r) h3 (fun _ _ => rfl) ?_⟩
    intro c _ e he hc
    obtain ⟨t, n, f, g1, g2, g3⟩ := hg
    cases g1.symm.trans he
    refine ⟨_, he, ?_⟩
    match c, hc with
    | .inr (.inl (t', n', sg, tr)), hc =>
      obtain ⟨f', e1, e2, e3⟩ := hc
      cases e1
      refine ⟨f, rfl, e2, ?_⟩
      intro q hq
      rcases List.mem_cons.mp hq with rfl | hq
      · rw [hz] at g3
        cases g3
        exact ⟨g2, hr⟩
      · exact e3 q (List.mem_filter.mp hq).1
    | .inl _, hc => exact hc
    | .inr (.inr (.inl _)), hc => exact hc
    | .inr (.inr (.inr _)), hc => exact hc
def aw_cat (v : aw_V) : Nat := match v with
  | .inr (true, _) => 2
  | _ => 1
theorem aw_cat_s {v : aw_V} {w : Value} (h : aw_m v w) : w.category = aw_cat v := by
  match v, h with
  | .inl a, h => rw [show w = .ref a from h]; rfl
  | .inr (false, _), h => obtain ⟨x, rfl, -⟩ := h; rfl
  | .inr (true, _), h => obtain ⟨x, rfl, -⟩ := h; rfl
theorem aw_cats_s {lv : sm_L} {h : List va_E} : ∀ {vs : List (aw_V × aw_G)} {st : List Value}, aw_s lv h vs st → (st.map fun v => v.category).sum = (vs.map fun v => aw_cat v.1).sum
  | [], [], _ => rfl
  | [], _ :: _, H => H.elim
  | _ :: _, [], H => H.elim
  | v :: vs, w :: ws, H => by
    rw [List.map_cons, List.map_cons, List.sum_cons, List.sum_cons, aw_cat_s H.1, aw_cats_s H.2.2]
/-- locals written -/
def aw_long (v : aw_V) : Bool := match v with
  | .inr (true, _) => true
  | _ => false
def aw_p1 (L : aw_L) (i : Nat) (v : aw_V) : aw_L := (i, v) :: L.filter fun q => !(q.1 == i) && !(q.1 + 1 == i && aw_long q.2)
def aw_p2 (L : aw_L) (i : Nat) (v : aw_V) : aw_L := (i, v) :: L.filter fun q => !(q.1 == i) && (!(q.1 == i + 1) && !(q.1 + 1 == i && aw_long q.2))
theorem aw_get_fl {p : Nat × Value → Bool} : ∀ {l : sm_L} {j : Nat} {w : Value}, sm_get l j = some w → p (j, w) = true → sm_get (l.filter p) j = some w
  | [], _, _, h, _ => by cases h
  | q :: r, j, w, h, hp => by
    unfold sm_get at h
    by_cases hq : q.1 = j
    · rw [if_pos hq] at h
      cases h
      subst hq
      rw [List.filter_cons_of_pos hp]
      unfold sm_get
      rw [if_pos rfl]
    · rw [if_neg hq] at h
      have ih := aw_get_fl h hp
      by_cases hpq : p q = true
      · rw [List.filter_cons_of_pos hpq]
        unfold sm_get
        rw [if_neg hq]
        exact ih
      · rw [List.filter_cons_of_neg hpq]
        exact ih
theorem aw_long_s {v : aw_V} {w : Value} (h : aw_m v w) (hl : aw_long v = false) : (w.category == 2) = false := by
  match v, h with
  | .inl a, h => rw [show w = .ref a from h]; rfl
  | .inr (false, _), h => obtain ⟨x, rfl, -⟩ := h; rfl
  | .inr (true, _), h => cases hl
theorem aw_p1_s {L : aw_L} {lv : sm_L} {i : Nat} {v : aw_V} {w : Value} (h : aw_l L lv) (hv : aw_m v w) : aw_l (aw_p1 L i v) (sm_put1 lv i w) := by
  intro q hq
  rcases List.mem_cons.mp hq with rfl | hq
  · exact ⟨w, by unfold sm_put1 sm_get; rw [if_pos rfl], hv⟩
  · obtain ⟨hq1, hq2⟩ := List.mem_filter.mp hq
    obtain ⟨w1, hw1, hm⟩ := h q hq1
    simp only [Bool.and_eq_true, Bool.not_eq_true', Bool.and_eq_false_iff] at hq2
    refine ⟨w1, ?_, hm⟩
    have hne : ¬ i = q.1 := fun e => by have := hq2.1; simp [e] at this
    unfold sm_put1 sm_get
    rw [if_neg hne]
    refine aw_get_fl hw1 ?_
    simp only [Bool.and_eq_true, Bool.not_eq_true', Bool.and_eq_false_iff]
    exact ⟨hq2.1, hq2.2.imp id (fun z => aw_long_s hm z)⟩
theorem aw_p2_s {L : aw_L} {lv : sm_L} {i : Nat} {v : aw_V} {w : Value} (h : aw_l L lv) (hv : aw_m v w) : aw_l (aw_p2 L i v) (sm_put2 lv i w) := by
  intro q hq
  rcases List.mem_cons.mp hq with rfl | hq
  · exact ⟨w, by unfold sm_put2 sm_get; rw [if_pos rfl], hv⟩
  · obtain ⟨hq1, hq2⟩ := List.mem_filter.mp hq
    obtain ⟨w1, hw1, hm⟩ := h q hq1
    simp only [Bool.and_eq_true, Bool.not_eq_true', Bool.and_eq_false_iff] at hq2
    refine ⟨w1, ?_, hm⟩
    have hne : ¬ i = q.1 := fun e => by have := hq2.1; simp [e] at this
    unfold sm_put2 sm_get
    rw [if_neg hne]
    refine aw_get_fl hw1 ?_
    simp only [Bool.and_eq_true, Bool.not_eq_true', Bool.and_eq_false_iff]
    exact ⟨hq2.1, hq2.2.1, hq2.2.2.imp id (fun z => aw_long_s hm z)⟩
