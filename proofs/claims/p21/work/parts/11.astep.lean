/-! One step over ranges. -/
def aw_i1 {α : Type} (st : List (aw_V × aw_G)) (k : ar_R → aw_G → List (aw_V × aw_G) → Option α) : Option α := match st with
  | (.inr (false, x), g) :: r => k x g r
  | _ => none
def aw_i2 {α : Type} (st : List (aw_V × aw_G)) (k : ar_R → aw_G → ar_R → aw_G → List (aw_V × aw_G) → Option α) : Option α := match st with
  | (.inr (false, y), gy) :: (.inr (false, x), gx) :: r => k x gx y gy r
  | _ => none
def aw_l1 {α : Type} (st : List (aw_V × aw_G)) (k : ar_R → aw_G → List (aw_V × aw_G) → Option α) : Option α := match st with
  | (.inr (true, x), g) :: r => k x g r
  | _ => none
def aw_l2 {α : Type} (st : List (aw_V × aw_G)) (k : ar_R → aw_G → ar_R → aw_G → List (aw_V × aw_G) → Option α) : Option α := match st with
  | (.inr (true, y), gy) :: (.inr (true, x), gx) :: r => k x gx y gy r
  | _ => none
def aw_r1 {α : Type} (st : List (aw_V × aw_G)) (k : Nat → List (aw_V × aw_G) → Option α) : Option α := match st with
  | (.inl a, _) :: r => k a r
  | _ => none
def aw_ri {α : Type} (st : List (aw_V × aw_G)) (k : Nat → ar_R → aw_G → List (aw_V × aw_G) → Option α) : Option α := match st with
  | (.inr (false, x), g) :: (.inl a, _) :: r => k a x g r
  | _ => none
def aw_rii {α : Type} (st : List (aw_V × aw_G)) (k : Nat → ar_R → ar_R → List (aw_V × aw_G) → Option α) : Option α := match st with
  | (.inr (false, v), _) :: (.inr (false, x), _) :: (.inl a, _) :: r => k a x v r
  | _ => none
section AWS
variable {lv : sm_L} {h : List va_E} {st : List (aw_V × aw_G)} {sc : List Value} {α : Type} {z : α}
theorem aw_i1_s {k : ar_R → aw_G → List (aw_V × aw_G) → Option α} (e : aw_i1 st k = some z) (hs : aw_s lv h st sc) : ∃ x g r y ws, k x g r = some z ∧ sc = .int y :: ws ∧ ar_in y.toInt x ∧ aw_t lv h g (.int y) ∧ aw_s lv h r ws := by
  unfold aw_i1 at e
  split at e
  · obtain ⟨w, ws, rfl, ⟨y, rfl, h1⟩, h2, h3⟩ := aw_s1 hs
    exact ⟨_, _, _, y, ws, e, rfl, h1, h2, h3⟩
  · cases e
theorem aw_l1_s {k : ar_R → aw_G → List (aw_V × aw_G) → Option α} (e : aw_l1 st k = some z) (hs : aw_s lv h st sc) : ∃ x g r y ws, k x g r = some z ∧ sc = .long y :: ws ∧ ar_in y.toInt x ∧ aw_t lv h g (.long y) ∧ aw_s lv h r ws := by
  unfold aw_l1 at e
  split at e
  · obtain ⟨w, ws, rfl, ⟨y, rfl, h1⟩, h2, h3⟩ := aw_s1 hs
    exact ⟨_, _, _, y, ws, e, rfl, h1, h2, h3⟩
  · cases e
theorem aw_i2_s {k : ar_R → aw_G → ar_R → aw_G → List (aw_V × aw_G) → Option α} (e : aw_i2 st k = some z) (hs : aw_s lv h st sc) : ∃ rx gx ry gy r x y ws, k rx gx ry gy r = some z ∧ sc = .int y :: .int x :: ws ∧ ar_in x.toInt rx ∧ ar_in y.toInt ry ∧ aw_t lv h gx (.int x) ∧ aw_t lv h gy (.int y) ∧ aw_s lv h r ws := by
  unfold aw_i2 at e
  split at e
  · obtain ⟨w, ws, rfl, ⟨y, rfl, h1⟩, h2, h3⟩ := aw_s1 hs
    obtain ⟨w, ws, rfl, ⟨x, rfl, h4⟩, h5, h6⟩ := aw_s1 h3
    exact ⟨_, _, _, _, _, x, y, ws, e, rfl, h4, h1, h5, h2, h6⟩
  · cases e
theorem aw_l2_s {k : ar_R → aw_G → ar_R → aw_G → List (aw_V × aw_G) → Option α} (e : aw_l2 st k = some z) (hs : aw_s lv h st sc) : ∃ rx gx ry gy r x y ws, k rx gx ry gy r = some z ∧ sc = .long y :: .long x :: ws ∧ ar_in x.toInt rx ∧ ar_in y.toInt ry ∧ aw_t lv h gx (.long x) ∧ aw_t lv h gy (.long y) ∧ aw_s lv h r ws := by
  unfold aw_l2 at e
  split at e
  · obtain ⟨w, ws, rfl, ⟨y, rfl, h1⟩, h2, h3⟩ := aw_s1 hs
    obtain ⟨w, ws, rfl, ⟨x, rfl, h4⟩, h5, h6⟩ := aw_s1 h3
    exact ⟨_, _, _, _, _, x, y, ws, e, rfl, h4, h1, h5, h2, h6⟩
  · cases e
theorem aw_r1_s {k : Nat → List (aw_V × aw_G) → Option α} (e : aw_r1 st k = some z) (hs : aw_s lv h st sc) : ∃ a r ws, k a r = some z ∧ sc = .ref a :: ws ∧ aw_s lv h r ws := by
  unfold aw_r1 at e
  split at e
  · obtain ⟨w, ws, rfl, h1, h2, h3⟩ := aw_s1 hs
    have h1 : w = _ := h1
    subst h1
    exact ⟨_, _, ws, e, rfl, h3⟩
  · cases e
theorem aw_ri_s {k : Nat → ar_R → aw_G → List (aw_V × aw_G) → Option α} (e : aw_ri st k = some z) (hs : aw_s lv h st sc) : ∃ a x g r i ws, k a x g r = some z ∧ sc = .int i :: .ref a :: ws ∧ ar_in i.toInt x ∧ aw_t lv h g (.int i) ∧ aw_s lv h r ws := by
  unfold aw_ri at e
  split at e
  · obtain ⟨w, ws, rfl, ⟨y, rfl, h1⟩, h2, h3⟩ := aw_s1 hs
    obtain ⟨w, ws, rfl, h4, h5, h6⟩ := aw_s1 h3
    have h4 : w = _ := h4
    subst h4
    exact ⟨_, _, _, _, y, ws, e, rfl, h1, h2, h6⟩
  · cases e
theorem aw_rii_s {k : Nat → ar_R → ar_R → List (aw_V × aw_G) → Option α} (e : aw_rii st k = some z) (hs : aw_s lv h st sc) : ∃ a x v r i y ws, k a x v r = some z ∧ sc = .int y :: .int i :: .ref a :: ws ∧ ar_in i.toInt x ∧ ar_in y.toInt v ∧ aw_s lv h r ws := by
  unfold aw_rii at e
  split at e
  · obtain ⟨w, ws, rfl, ⟨y, rfl, h1⟩, h2, h3⟩ := aw_s1 hs
    obtain ⟨w, ws, rfl, ⟨i, rfl, h4⟩, h5, h6⟩ := aw_s1 h3
    obtain ⟨w, ws, rfl, h7, h8, h9⟩ := aw_s1 h6
    have h7 : w = _ := h7
    subst h7
    exact ⟨_, _, _, _, i, y, ws, e, rfl, h4, h1, h9⟩
  · cases e
end AWS
/-- rows: a cell's parts, what a place holds, what a write leaves -/
def aw_arr (t : Nat) (H : aw_H) (a : Nat) : Option (Nat × List (Nat × Nat × ar_R) × List (Nat × ar_R)) := match sm_lk H a with
  | some (.inr (.inl (t', n, sg, tr))) => if t' = t then some (n, sg, tr) else none
  | _ => none
theorem aw_arr_s {t : Nat} {H : aw_H} {a n : Nat} {sg : List (Nat × Nat × ar_R)} {tr : List (Nat × ar_R)} {h : List va_E} (hH : aw_h H h) (e : aw_arr t H a = some (n, sg, tr)) : ∃ f : Nat → Int32, h[a]? = some (.inl (t, n, .inl f)) ∧ (∀ q ∈ sg, ∀ j : Nat, q.1 ≤ j → j ≤ q.2.1 → ar_in (f j).toInt q.2.2) ∧ ∀ q ∈ tr, q.1 < n ∧ ar_in (f q.1).toInt q.2 := by
  unfold aw_arr at e
  split at e
  · rename_i t' n' sg' tr' hl
    obtain ⟨ht, e⟩ := sm_if e
    cases e
    subst ht
    obtain ⟨e1, he, f, rfl, h1, h2⟩ := hH _ (aw_lk hl)
    exact ⟨f, he, h1, h2⟩
  · cases e
def aw_sg (sg : List (Nat × Nat × ar_R)) (q : Int × Int) : ar_R := match sg.find? fun s => decide ((s.1 : Int) ≤ q.1) && decide (q.2 ≤ (s.2.1 : Int)) with
  | some s => s.2.2
  | none => ar_t32
def aw_ld (sg : List (Nat × Nat × ar_R)) (tr : List (Nat × ar_R)) (q : Int × Int) : ar_R := if q.1 = q.2 then (match sm_lk tr q.1.toNat with
    | some r => r
    | none => aw_sg sg q) else aw_sg sg q
theorem aw_ix {i : Int32} (h : 0 ≤ i.toInt) : ((i.toNatClampNeg : Nat) : Int) = i.toInt := by
  show ((i.toInt.toNat : Nat) : Int) = i.toInt
  omega
theorem aw_sg_s {sg : List (Nat × Nat × ar_R)} {f : Nat → Int32} {q : Int × Int} {i : Int32} (hsg : ∀ q ∈ sg, ∀ j : Nat, q.1 ≤ j → j ≤ q.2.1 → ar_in (f j).toInt q.2.2) (hq : q.1 ≤ i.toInt ∧ i.toInt ≤ q.2) (h0 : 0 ≤ q.1) : ar_in (f i.toNatClampNeg).toInt (aw_sg sg q) := by
  have e := aw_ix (i := i) (by omega)
  unfold aw_sg
  split
  · rename_i s hs
    have h1 := List.find?_some hs
    have h2 := List.mem_of_find?_eq_some hs
    simp only [Bool.and_eq_true, decide_eq_true_eq] at h1
    exact hsg s h2 _ (by omega) (by omega)
  · exact ar_in32 _
theorem aw_ld_s {sg : List (Nat × Nat × ar_R)} {tr : List (Nat × ar_R)} {n : Nat} {f : Nat → Int32} {q : Int × Int} {i : Int32} (hsg : ∀ q ∈ sg, ∀ j : Nat, q.1 ≤ j → j ≤ q.2.1 → ar_in (f j).toInt q.2.2) (htr : ∀ q ∈ tr, q.1 < n ∧ ar_in (f q.1).toInt q.2) (hq : q.1 ≤ i.toInt ∧ i.toInt ≤ q.2) (h0 : 0 ≤ q.1) : ar_in (f i.toNatClampNeg).toInt (aw_ld sg tr q) := by
  unfold aw_ld
  split
  · rename_i hqq
    split
    · rename_i r hr
      have h1 := (htr _ (aw_lk hr)).2
      have e : i.toNatClampNeg = q.1.toNat := by
        have := aw_ix (i := i) (by omega)
        omega
      rw [e]
      exact h1
    · exact aw_sg_s hsg hq h0
  · exact aw_sg_s hsg hq h0
def aw_wr (sg : List (Nat × Nat × ar_R)) (q : Int × Int) (v : ar_R) : Bool := sg.all fun s => decide (q.2 < (s.1 : Int)) || decide ((s.2.1 : Int) < q.1) || ar_sub v s.2.2
def aw_tr (tr : List (Nat × ar_R)) (q : Int × Int) (v : ar_R) : List (Nat × ar_R) := tr.filterMap fun p => if (p.1 : Int) < q.1 ∨ q.2 < (p.1 : Int) then some p else if q.1 = q.2 then some (p.1, v) else none
theorem aw_wr_s {sg : List (Nat × Nat × ar_R)} {tr : List (Nat × ar_R)} {n : Nat} {f : Nat → Int32} {q : Int × Int} {i x : Int32} {v : ar_R} (hsg : ∀ q ∈ sg, ∀ j : Nat, q.1 ≤ j → j ≤ q.2.1 → ar_in (f j).toInt q.2.2) (htr : ∀ q ∈ tr, q.1 < n ∧ ar_in (f q.1).toInt q.2) (hq : q.1 ≤ i.toInt ∧ i.toInt ≤ q.2) (h0 : 0 ≤ q.1) (hv : ar_in x.toInt v) (hw : aw_wr sg q v = true) :
    (∀ s ∈ sg, ∀ j : Nat, s.1 ≤ j → j ≤ s.2.1 → ar_in ((upd f i.toNatClampNeg x) j).toInt s.2.2) ∧ ∀ p ∈ aw_tr tr q v, p.1 < n ∧ ar_in ((upd f i.toNatClampNeg x) p.1).toInt p.2 := by
  have e := aw_ix (i := i) (by omega)
  have up : ∀ j : Nat, (upd f i.toNatClampNeg x) j = if j = i.toNatClampNeg then x else f j := fun j => rfl
  refine ⟨fun s hs j h1 h2 => ?_, fun p hp => ?_⟩
  · rw [up]
    by_cases hj : j = i.toNatClampNeg
    · rw [if_pos hj]
      have a := List.all_eq_true.mp hw s hs
      simp only [Bool.or_eq_true, decide_eq_true_eq] at a
      rcases a with (a | a) | a
      · omega
      · omega
      · exact ar_sub_s a hv
    · rw [if_neg hj]
      exact hsg s hs j h1 h2
  · obtain ⟨p0, hp0, hpe⟩ := List.mem_filterMap.mp hp
    have t0 := htr p0 hp0
    rw [up]
    split at hpe
    · rename_i hc
      cases hpe
      rw [if_neg (by omega)]
      exact t0
    · split at hpe
      · rename_i hc hqq
        cases hpe
        have : p0.1 = i.toNatClampNeg := by omega
        exact ⟨t0.1, by show ar_in (if p0.1 = _ then x else f p0.1).toInt v; rw [if_pos this]; exact hv⟩
      · cases hpe
def aw_div (p q : Int × Int) : ar_R := match ar_div p q with
  | some r => [r]
  | none => ar_t32
def aw_ldiv (p q : Int × Int) : ar_R := match ar_div p q with
  | some r => [r]
  | none => ar_t64
def aw_rem (p q : Int × Int) : ar_R := match ar_rem p q with
  | some r => [r]
  | none => ar_t32
def aw_lrem (p q : Int × Int) : ar_R := match ar_rem p q with
  | some r => [r]
  | none => ar_t64
def aw_n0 (r : ar_R) : Bool := decide (1 ≤ (ar_h r).1) || decide ((ar_h r).2 ≤ -1)
/-- a branch: both ways, each with what it tells -/
def aw_br (q : Jvm.ClassFile.Cond) (x : ar_R) (gx : aw_G) (y : ar_R) (gy : aw_G) (pt pf : Nat) (S : aw_S) : List (Nat × aw_S) :=
  (if (ar_cmp q x y).1.isEmpty || (ar_cmp q x y).2.isEmpty then [] else [(pt, aw_rf gx (ar_cmp q x y).1 (aw_rf gy (ar_cmp q x y).2 S))]) ++
  (if (ar_cmp (ar_neg q) x y).1.isEmpty || (ar_cmp (ar_neg q) x y).2.isEmpty then [] else [(pf, aw_rf gx (ar_cmp (ar_neg q) x y).1 (aw_rf gy (ar_cmp (ar_neg q) x y).2 S))])
theorem aw_ne {x : Int} {r : ar_R} (h : ar_in x r) : r.isEmpty = false := by
  obtain ⟨q, hq, -⟩ := h
  cases r with
  | nil => exact absurd hq List.not_mem_nil
  | cons _ _ => rfl
theorem aw_br_s {q : Jvm.ClassFile.Cond} {x y : ar_R} {gx gy : aw_G} {pt pf : Nat} {S : aw_S} {lv : sm_L} {sc : List Value} {h : List va_E} {wx wy : Value} {zx zy : Int} (hS : aw_ok S lv sc h) (hx : ar_in zx x) (hy : ar_in zy y) (tx : aw_t lv h gx wx) (ty : aw_t lv h gy wy) (ex : aw_z wx = some zx) (ey : aw_z wy = some zy) :
    (ar_holds q zx zy → ∃ u ∈ aw_br q x gx y gy pt pf S, u.1 = pt ∧ aw_ok u.2 lv sc h) ∧ (¬ ar_holds q zx zy → ∃ u ∈ aw_br q x gx y gy pt pf S, u.1 = pf ∧ aw_ok u.2 lv sc h) := by
  refine ⟨fun hh => ?_, fun hh => ?_⟩
  · obtain ⟨a, b⟩ := ar_cmp_s hx hy hh
    refine ⟨(pt, aw_rf gx (ar_cmp q x y).1 (aw_rf gy (ar_cmp q x y).2 S)), List.mem_append_left _ ?_, rfl, aw_rf_s (aw_rf_s hS ty ey b) tx ex a⟩
    rw [aw_ne a, aw_ne b]
    exact List.mem_cons_self
  · obtain ⟨a, b⟩ := ar_cmp_s hx hy (ar_holds_neg hh)
    refine ⟨(pf, aw_rf gx (ar_cmp (ar_neg q) x y).1 (aw_rf gy (ar_cmp (ar_neg q) x y).2 S)), List.mem_append_right _ ?_, rfl, aw_rf_s (aw_rf_s hS ty ey b) tx ex a⟩
    rw [aw_ne a, aw_ne b]
    exact List.mem_cons_self
/-- a switch: each of its numbers -/
def aw_sw (pc : Nat) (x : ar_R) (g : aw_G) (S : aw_S) : List Int → Int → Option (List (Nat × aw_S))
  | [], _ => some []
  | off :: os, v => (sm_j pc off).bind fun t => (aw_sw pc x g S os (v + 1)).bind fun l => some ((if (ar_ge (ar_le x v) v).isEmpty then [] else [(t, aw_rf g (ar_ge (ar_le x v) v) S)]) ++ l)
theorem aw_sw_s {pc : Nat} {x : ar_R} {g : aw_G} {S : aw_S} {lv : sm_L} {sc : List Value} {h : List va_E} {w : Value} {z : Int} (hS : aw_ok S lv sc h) (hx : ar_in z x) (tx : aw_t lv h g w) (ex : aw_z w = some z) : ∀ {os : List Int} {v : Int} {l : List (Nat × aw_S)}, aw_sw pc x g S os v = some l → v ≤ z → z < v + os.length → ∃ off t, os[(z - v).toNat]? = some off ∧ sm_j pc off = some t ∧ ∃ u ∈ l, u.1 = t ∧ aw_ok u.2 lv sc h
  | [], v, l, _, h1, h2 => by
    simp only [List.length_nil] at h2
    omega
  | off :: os, v, l, e, h1, h2 => by
    unfold aw_sw at e
    obtain ⟨t, ht, e⟩ := sm_bd e
    obtain ⟨l', hl', e⟩ := sm_bd e
    cases e
    by_cases hz : z = v
    · subst hz
      have a := ar_ge_s (ar_le_s hx (Int.le_refl z)) (Int.le_refl z)
      refine ⟨off, t, by rw [show (z - z).toNat = 0 by omega]; rfl, ht, (t, aw_rf g (ar_ge (ar_le x z) z) S), List.mem_append_left _ ?_, rfl, aw_rf_s hS tx ex a⟩
      rw [aw_ne a]
      exact List.mem_cons_self
    · simp only [List.length_cons] at h2
      obtain ⟨off', t', h3, h4, u, hu, h5⟩ := aw_sw_s hS hx tx ex hl' (by omega) (by omega)
      refine ⟨off', t', ?_, h4, u, List.mem_append_right _ hu, h5⟩
      rw [show (z - v).toNat = (z - (v + 1)).toNat + 1 by omega]
      exact h3
/-- a row of references: each of its places -/
def aw_rw (pc : Nat) (x : ar_R) (g : aw_G) (S : aw_S) : List Nat → Int → List (Nat × aw_S)
  | [], _ => []
  | b :: bs, v => (if (ar_ge (ar_le x v) v).isEmpty then [] else [(pc, (aw_rf g (ar_ge (ar_le x v) v) S).1, (.inl b, none) :: (aw_rf g (ar_ge (ar_le x v) v) S).2.1, (aw_rf g (ar_ge (ar_le x v) v) S).2.2)]) ++ aw_rw pc x g S bs (v + 1)
theorem aw_rw_s {pc : Nat} {x : ar_R} {g : aw_G} {S : aw_S} {lv : sm_L} {sc : List Value} {h : List va_E} {w : Value} {z : Int} (hS : aw_ok S lv sc h) (hx : ar_in z x) (tx : aw_t lv h g w) (ex : aw_z w = some z) : ∀ {bs : List Nat} {v : Int}, v ≤ z → z < v + bs.length → ∃ b, bs[(z - v).toNat]? = some b ∧ ∃ u ∈ aw_rw pc x g S bs v, u.1 = pc ∧ aw_ok u.2 lv (.ref b :: sc) h
  | [], v, h1, h2 => by
    simp only [List.length_nil] at h2
    omega
  | b :: bs, v, h1, h2 => by
    by_cases hz : z = v
    · subst hz
      have a := ar_ge_s (ar_le_s hx (Int.le_refl z)) (Int.le_refl z)
      have o := aw_rf_s hS tx ex a
      refine ⟨b, by rw [show (z - z).toNat = 0 by omega]; rfl, (pc, (aw_rf g (ar_ge (ar_le x z) z) S).1, (.inl b, none) :: (aw_rf g (ar_ge (ar_le x z) z) S).2.1, (aw_rf g (ar_ge (ar_le x z) z) S).2.2), List.mem_append_left _ ?_, rfl, o.1, ⟨rfl, trivial, o.2.1⟩, o.2.2⟩
      rw [aw_ne a]
      exact List.mem_cons_self
    · simp only [List.length_cons] at h2
      obtain ⟨b', h3, u, hu, h5⟩ := aw_rw_s (pc := pc) (bs := bs) (v := v + 1) hS hx tx ex (by omega) (by omega)
      refine ⟨b', ?_, u, List.mem_append_right _ hu, h5⟩
      rw [show (z - v).toNat = (z - (v + 1)).toNat + 1 by omega]
      exact h3
def aw_mx (p q : Int × Int) : ar_R := [(ar_max p.1 q.1, ar_max p.2 q.2)]
def aw_mn (p q : Int × Int) : ar_R := [(ar_min p.1 q.1, ar_min p.2 q.2)]
def aw_ab (p : Int × Int) : ar_R := if -2147483648 < p.1 then [(if 0 ≤ p.1 then p.1 else 0, ar_max p.2 (0 - p.1))] else ar_t32
def aw_one (pc : Nat) (L : aw_L) (st : List (aw_V × aw_G)) (H : aw_H) : Option (List (Nat × aw_S)) := some [(pc, L, st, H)]
def aw_int (r : ar_R) : aw_V × aw_G := (.inr (false, r), none)
def aw_lng (r : ar_R) : aw_V × aw_G := (.inr (true, r), none)
/-- one step; WR: the cells that may be written, nf: locals below are not written -/
def aw_step (K : sm_K) (tb : Nat → Option (Instr × Nat)) (WR : List Nat) (nf : Nat) (i : Instr) (n pc : Nat) (S : aw_S) : Option (List (Nat × aw_S)) := match i with
  | .iconst v => if n = 1 then aw_one (pc + 1) S.1 (aw_int [((Int32.ofInt v).toInt, (Int32.ofInt v).toInt)] :: S.2.1) S.2.2 else none
  | .bipush v => if n = 2 then aw_one (pc + 2) S.1 (aw_int [((Int8.ofInt v).toInt32.toInt, (Int8.ofInt v).toInt32.toInt)] :: S.2.1) S.2.2 else none
  | .sipush v => if n = 3 then aw_one (pc + 3) S.1 (aw_int [((Int16.ofInt v).toInt32.toInt, (Int16.ofInt v).toInt32.toInt)] :: S.2.1) S.2.2 else none
  | .lconst v => if n = 1 then aw_one (pc + 1) S.1 (aw_lng [((Int64.ofNat (v : Nat)).toInt, (Int64.ofNat (v : Nat)).toInt)] :: S.2.1) S.2.2 else none
  | .ldc x => if n = 2 then (K.2.1 x).bind fun v => aw_one (pc + 2) S.1 (aw_int [(v.toInt, v.toInt)] :: S.2.1) S.2.2 else none
  | .ldc_w x => if n = 3 then (K.2.1 x).bind fun v => aw_one (pc + 3) S.1 (aw_int [(v.toInt, v.toInt)] :: S.2.1) S.2.2 else none
  | .ldc2_w x => if n = 3 then (K.2.2.1 x).bind fun v => aw_one (pc + 3) S.1 (aw_lng [(v.toInt, v.toInt)] :: S.2.1) S.2.2 else none
  | .iload_n k => if n = 1 then (sm_lk S.1 k).bind fun v => aw_i1 [(v, none)] fun x _ _ => aw_one (pc + 1) S.1 ((.inr (false, x), some (0, k, 0)) :: S.2.1) S.2.2 else none
  | .iload k => if n = 2 then (sm_lk S.1 k).bind fun v => aw_i1 [(v, none)] fun x _ _ => aw_one (pc + 2) S.1 ((.inr (false, x), some (0, k, 0)) :: S.2.1) S.2.2 else none
  | .lload_n k => if n = 1 then (sm_lk S.1 k).bind fun v => aw_l1 [(v, none)] fun x _ _ => aw_one (pc + 1) S.1 ((.inr (true, x), some (0, k, 0)) :: S.2.1) S.2.2 else none
  | .lload k => if n = 2 then (sm_lk S.1 k).bind fun v => aw_l1 [(v, none)] fun x _ _ => aw_one (pc + 2) S.1 ((.inr (true, x), some (0, k, 0)) :: S.2.1) S.2.2 else none
  | .aload_n k => if n = 1 then (sm_lk S.1 k).bind fun v => aw_r1 [(v, none)] fun a _ => aw_one (pc + 1) S.1 ((.inl a, none) :: S.2.1) S.2.2 else none
  | .aload k => if n = 2 then (sm_lk S.1 k).bind fun v => aw_r1 [(v, none)] fun a _ => aw_one (pc + 2) S.1 ((.inl a, none) :: S.2.1) S.2.2 else none
  | .istore_n k => if n = 1 ∧ (k : Nat) < K.2.2.2.2.2.1 ∧ nf < (k : Nat) + 1 then aw_i1 S.2.1 fun x _ r => aw_one (pc + 1) (aw_p1 S.1 k (.inr (false, x))) (aw_c0 r) S.2.2 else none
  | .istore k => if n = 2 ∧ k < K.2.2.2.2.2.1 ∧ nf < k + 1 then aw_i1 S.2.1 fun x _ r => aw_one (pc + 2) (aw_p1 S.1 k (.inr (false, x))) (aw_c0 r) S.2.2 else none
  | .lstore_n k => if n = 1 ∧ (k : Nat) + 1 < K.2.2.2.2.2.1 ∧ nf < (k : Nat) + 1 then aw_l1 S.2.1 fun x _ r => aw_one (pc + 1) (aw_p2 S.1 k (.inr (true, x))) (aw_c0 r) S.2.2 else none
  | .lstore k => if n = 2 ∧ k + 1 < K.2.2.2.2.2.1 ∧ nf < k + 1 then aw_l1 S.2.1 fun x _ r => aw_one (pc + 2) (aw_p2 S.1 k (.inr (true, x))) (aw_c0 r) S.2.2 else none
  | .astore_n k => if n = 1 ∧ (k : Nat) < K.2.2.2.2.2.1 ∧ nf < (k : Nat) + 1 then aw_r1 S.2.1 fun a r => aw_one (pc + 1) (aw_p1 S.1 k (.inl a)) (aw_c0 r) S.2.2 else none
  | .astore k => if n = 2 ∧ k < K.2.2.2.2.2.1 ∧ nf < k + 1 then aw_r1 S.2.1 fun a r => aw_one (pc + 2) (aw_p1 S.1 k (.inl a)) (aw_c0 r) S.2.2 else none
  | .iinc k v => if n = 3 ∧ k < K.2.2.2.2.2.1 ∧ nf < k + 1 then (sm_lk S.1 k).bind fun w => aw_i1 [(w, none)] fun x _ _ => aw_one (pc + 3) (aw_p1 S.1 k (.inr (false, ar_2 (· + ·) (fun p q => ar_f32 (ar_add p q)) x [((Int32.ofInt v).toInt, (Int32.ofInt v).toInt)]))) (aw_c0 S.2.1) S.2.2 else none
  | .iadd => if n = 1 then aw_i2 S.2.1 fun x _ y _ r => aw_one (pc + 1) S.1 (aw_int (ar_2 (· + ·) (fun p q => ar_f32 (ar_add p q)) x y) :: r) S.2.2 else none
  | .isub => if n = 1 then aw_i2 S.2.1 fun x _ y _ r => aw_one (pc + 1) S.1 (aw_int (ar_2 (· - ·) (fun p q => ar_f32 (ar_subt p q)) x y) :: r) S.2.2 else none
  | .imul => if n = 1 then aw_i2 S.2.1 fun x _ y _ r => aw_one (pc + 1) S.1 (aw_int (ar_2 (· * ·) (fun p q => ar_f32 (ar_mul p q)) x y) :: r) S.2.2 else none
  | .iand => if n = 1 then aw_i2 S.2.1 fun x _ y _ r => aw_one (pc + 1) S.1 (aw_int (ar_2 (· &&& ·) ar_and x y) :: r) S.2.2 else none
  | .ior => if n = 1 then aw_i2 S.2.1 fun x _ y _ r => aw_one (pc + 1) S.1 (aw_int (ar_2 (· ||| ·) (fun _ _ => ar_t32) x y) :: r) S.2.2 else none
  | .ixor => if n = 1 then aw_i2 S.2.1 fun x _ y _ r => aw_one (pc + 1) S.1 (aw_int (ar_2 (· ^^^ ·) (fun _ _ => ar_t32) x y) :: r) S.2.2 else none
  | .ishl => if n = 1 then aw_i2 S.2.1 fun x _ y _ r => aw_one (pc + 1) S.1 (aw_int (ar_2 (fun a b => a <<< (b &&& 31)) ar_shl x y) :: r) S.2.2 else none
  | .ishr => if n = 1 then aw_i2 S.2.1 fun x _ y _ r => aw_one (pc + 1) S.1 (aw_int (ar_2 (fun a b => a >>> (b &&& 31)) (fun _ _ => ar_t32) x y) :: r) S.2.2 else none
  | .idiv => if n = 1 then aw_i2 S.2.1 fun x _ y _ r => if aw_n0 y = true then aw_one (pc + 1) S.1 (aw_int (ar_2 (· / ·) aw_div x y) :: r) S.2.2 else none else none
  | .irem => if n = 1 then aw_i2 S.2.1 fun x _ y _ r => if aw_n0 y = true then aw_one (pc + 1) S.1 (aw_int (ar_2 (fun a b => a - a / b * b) aw_rem x y) :: r) S.2.2 else none else none
  | .ineg => if n = 1 then aw_i1 S.2.1 fun x _ r => aw_one (pc + 1) S.1 (aw_int (ar_f32 (ar_subt (0, 0) (ar_h x))) :: r) S.2.2 else none
  | .ladd => if n = 1 then aw_l2 S.2.1 fun x _ y _ r => aw_one (pc + 1) S.1 (aw_lng (ar_2l (· + ·) (fun p q => ar_f64 (ar_add p q)) x y) :: r) S.2.2 else none
  | .lmul => if n = 1 then aw_l2 S.2.1 fun x _ y _ r => aw_one (pc + 1) S.1 (aw_lng (ar_2l (· * ·) (fun p q => ar_f64 (ar_mul p q)) x y) :: r) S.2.2 else none
  | .ldiv => if n = 1 then aw_l2 S.2.1 fun x _ y _ r => if aw_n0 y = true then aw_one (pc + 1) S.1 (aw_lng (ar_2l (· / ·) aw_ldiv x y) :: r) S.2.2 else none else none
  | .lrem => if n = 1 then aw_l2 S.2.1 fun x _ y _ r => if aw_n0 y = true then aw_one (pc + 1) S.1 (aw_lng (ar_2l (fun a b => a - a / b * b) aw_lrem x y) :: r) S.2.2 else none else none
  | .i2l => if n = 1 then aw_i1 S.2.1 fun x g r => aw_one (pc + 1) S.1 ((.inr (true, x), g) :: r) S.2.2 else none
  | .l2i => if n = 1 then aw_l1 S.2.1 fun x _ r => aw_one (pc + 1) S.1 (aw_int (ar_f32 (ar_h x)) :: r) S.2.2 else none
  | .i2b => if n = 1 then aw_i1 S.2.1 fun _ _ r => aw_one (pc + 1) S.1 (aw_int [(-128, 127)] :: r) S.2.2 else none
  | .goto off => if n = 3 then (sm_j pc off).bind fun t => aw_one t S.1 S.2.1 S.2.2 else none
  | .lcmp => if n = 1 then (tb (pc + 1)).bind fun u => match u with
      | (.ifCond q off, 3) => (sm_j (pc + 1) off).bind fun t => aw_l2 S.2.1 fun x gx y gy r => some (aw_br q x gx y gy t (pc + 1 + 3) (S.1, r, S.2.2))
      | _ => none else none
  | .ifCond q off => if n = 3 then (sm_j pc off).bind fun t => aw_i1 S.2.1 fun x gx r => some (aw_br q x gx [(0, 0)] none t (pc + 3) (S.1, r, S.2.2)) else none
  | .if_icmp q off => if n = 3 then (sm_j pc off).bind fun t => aw_i2 S.2.1 fun x gx y gy r => some (aw_br q x gx y gy t (pc + 3) (S.1, r, S.2.2)) else none
  | .tableswitch dflt lo hi offs => if hi = lo + offs.toList.length - 1 then aw_i1 S.2.1 fun x g r => (sm_j pc dflt).bind fun t => (aw_sw pc x g (S.1, r, S.2.2) offs.toList lo).bind fun l => some ((if (ar_le x (lo - 1)).isEmpty then [] else [(t, aw_rf g (ar_le x (lo - 1)) (S.1, r, S.2.2))]) ++ ((if (ar_ge x (hi + 1)).isEmpty then [] else [(t, aw_rf g (ar_ge x (hi + 1)) (S.1, r, S.2.2))]) ++ l)) else none
  | .aaload => if n = 1 then aw_ri S.2.1 fun a x g r => match sm_lk S.2.2 a with
      | some (.inr (.inr (.inl (_, cs)))) => if 0 ≤ (ar_h x).1 ∧ (ar_h x).2 < (cs.length : Int) then some (aw_rw (pc + 1) x g (S.1, r, S.2.2) cs 0) else none
      | _ => none else none
  | .invokestatic x => if n = 3 then (K.2.2.2.2.2.2 x).bind fun q => match q with
      | 0 => aw_i2 S.2.1 fun x _ y _ r => if (r.map fun v => aw_cat v.1).sum ≤ 8 then aw_one (pc + 3) S.1 (aw_int (aw_mx (ar_h x) (ar_h y)) :: r) S.2.2 else none
      | 1 => aw_i2 S.2.1 fun x _ y _ r => if (r.map fun v => aw_cat v.1).sum ≤ 8 then aw_one (pc + 3) S.1 (aw_int (aw_mn (ar_h x) (ar_h y)) :: r) S.2.2 else none
      | 2 => aw_i1 S.2.1 fun x _ r => if (r.map fun v => aw_cat v.1).sum ≤ 8 then aw_one (pc + 3) S.1 (aw_int (aw_ab (ar_h x)) :: r) S.2.2 else none
      | _ => none else none
  | .getstatic x => if n = 3 ∧ K.2.2.2.1 x = true then aw_one (pc + 3) S.1 ((.inl 999, none) :: S.2.1) S.2.2 else none
  | .getfield x => if n = 3 then aw_r1 S.2.1 fun a r => (K.1 x).bind fun q => match sm_lk S.2.2 a with
      | some (.inl (ci, vs)) => if ci = q.1 then (vs[q.2.1]?).bind fun v => aw_one (pc + 3) S.1 ((v, some (1, a, q.2.1)) :: r) S.2.2 else none
      | _ => none else none
  | .arraylength => if n = 1 then aw_r1 S.2.1 fun a r => (if a = 998 then none else aw_arr 0 S.2.2 a).bind fun w => if w.1 < 2147483648 then aw_one (pc + 1) S.1 (aw_int [((w.1 : Int), (w.1 : Int))] :: r) S.2.2 else none else none
  | .iaload => if n = 1 then aw_ri S.2.1 fun a x _ r => if a = 999 then (if 0 ≤ (ar_h x).1 ∧ (ar_h x).2 < 6 then aw_one (pc + 1) S.1 (aw_int ar_t32 :: r) S.2.2 else none) else if a = 998 then none else (aw_arr 0 S.2.2 a).bind fun w => (if 0 ≤ (ar_h x).1 ∧ (ar_h x).2 < (w.1 : Int) then aw_one (pc + 1) S.1 ((.inr (false, aw_ld w.2.1 w.2.2 (ar_h x)), if (ar_h x).1 = (ar_h x).2 then some (2, a, (ar_h x).1.toNat) else none) :: r) S.2.2 else none) else none
  | .baload => if n = 1 then aw_ri S.2.1 fun a x _ r => (aw_arr 1 S.2.2 a).bind fun w => (if 0 ≤ (ar_h x).1 ∧ (ar_h x).2 < (w.1 : Int) then aw_one (pc + 1) S.1 (aw_int (aw_ld w.2.1 w.2.2 (ar_h x)) :: r) S.2.2 else none) else none
  | .iastore => if n = 1 then aw_rii S.2.1 fun a x v r => (aw_arr 0 S.2.2 a).bind fun w => (if 0 ≤ (ar_h x).1 ∧ (ar_h x).2 < (w.1 : Int) ∧ aw_wr w.2.1 (ar_h x) v = true ∧ a ∈ WR then aw_one (pc + 1) S.1 (aw_ch r) (S.2.2.map fun q => if q.1 = a then (q.1, .inr (.inl (0, w.1, w.2.1, aw_tr w.2.2 (ar_h x) v))) else q) else none) else none
  | .bastore => if n = 1 then aw_rii S.2.1 fun a x _ r => (aw_arr 1 S.2.2 a).bind fun w => (if 0 ≤ (ar_h x).1 ∧ (ar_h x).2 < (w.1 : Int) ∧ aw_wr w.2.1 (ar_h x) [(-128, 127)] = true ∧ a ∈ WR then aw_one (pc + 1) S.1 (aw_ch r) (S.2.2.map fun q => if q.1 = a then (q.1, .inr (.inl (1, w.1, w.2.1, aw_tr w.2.2 (ar_h x) [(-128, 127)]))) else q) else none) else none
  | .putfield x => if n = 3 then (match S.2.1 with
      | (.inr (b, v), _) :: (.inl a, _) :: r => (K.1 x).bind fun q => if (q.2.2 = if b then 1 else 0) ∧ a ∈ WR then (match sm_lk S.2.2 a with
        | some (.inl (ci, vs)) => if ci = q.1 ∧ q.2.1 < vs.length then aw_one (pc + 3) S.1 (aw_ch r) (S.2.2.map fun p => if p.1 = a then (p.1, .inl (ci, vs.set q.2.1 (.inr (b, v)))) else p) else none
        | _ => none) else none
      | _ => none) else none
  | .dup => if n = 1 then (match S.2.1 with
      | v :: r => if aw_cat v.1 = 1 then aw_one (pc + 1) S.1 (v :: v :: r) S.2.2 else none
      | _ => none) else none
  | .dup2 => if n = 1 then (match S.2.1 with
      | v :: w :: r => if aw_cat v.1 = 1 ∧ aw_cat w.1 = 1 then aw_one (pc + 1) S.1 (v :: w :: v :: w :: r) S.2.2 else none
      | _ => none) else none
  | .pop => if n = 1 then (match S.2.1 with
      | v :: r => if aw_cat v.1 = 1 then aw_one (pc + 1) S.1 r S.2.2 else none
      | _ => none) else none
  | .pop2 => if n = 1 then (match S.2.1 with
      | v :: r => if aw_cat v.1 = 2 then aw_one (pc + 1) S.1 r S.2.2 else none
      | _ => none) else none
  | _ => none
