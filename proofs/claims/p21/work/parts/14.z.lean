/-! Loops with counters: a place is come to again only with a counter grown, so one turn is checked for all. -/
def ac_w1 (i : Instr) : Option Nat := match i with
  | .istore_n k => some k
  | .istore k => some k
  | .astore_n k => some k
  | .astore k => some k
  | .iinc k _ => some k
  | _ => none
def ac_w2 (i : Instr) : Option Nat := match i with
  | .lstore_n k => some k
  | .lstore k => some k
  | _ => none
def ac_h1 (o : Option Nat) (j : Nat) : Bool := match o with
  | some k => Nat.beq k j
  | none => false
def ac_h2 (o : Option Nat) (j : Nat) : Bool := match o with
  | some k => Nat.beq k j || Nat.beq (k + 1) j
  | none => false
def ac_w (j : Nat) (i : Instr) : Bool := ac_h1 (ac_w1 i) j || ac_h2 (ac_w2 i) j
theorem ac_or {a b : Bool} (h : (a || b) = false) : a = false ∧ b = false := by
  cases a
  · exact ⟨rfl, h⟩
  · cases h
theorem ac_if {α : Type} {c : Prop} [Decidable c] {a : Option α} {t : α} (h : (if c then a else none) = some t) : a = some t := (sm_if h).2
theorem ac_ifn {α : Type} {c : Prop} [Decidable c] {a : Option α} {t : α} (h : (if c then none else a) = some t) : a = some t := (sm_ifn h).2
theorem ac_iff {α : Type} {c : Prop} [Decidable c] {a b : Option α} {t : α} (h : (if c then a else b) = some t) : a = some t ∨ b = some t := by
  split at h
  · exact Or.inl h
  · exact Or.inr h
theorem ac_b {α β : Type} {x : Option α} {f : α → Option β} {t : β} (h : x.bind f = some t) : ∃ a, x = some a ∧ f a = some t := sm_bd h
set_option maxHeartbeats 2000000 in
theorem ac_stp {K : sm_K} {i : Instr} {n pc : Nat} {lv : sm_L} {st : List Value} {h : List va_E} {t : sm_T} (hs : sm_step K i n pc lv st h = some t) : (ac_w1 i = none ∧ ac_w2 i = none ∧ t.2.1 = lv) ∨ (∃ k v, ac_w1 i = some k ∧ t.2.1 = sm_put1 lv k v ∧ t.1 ≠ pc ∧ ∀ c, i = .iinc k c → ∃ x : Int32, sm_get lv k = some (.int x) ∧ v = .int (x + Int32.ofInt c)) ∨ (∃ k v, ac_w2 i = some k ∧ t.2.1 = sm_put2 lv k v ∧ t.1 ≠ pc) := by
  unfold sm_step at hs
  split at hs
  · have hs := ac_if hs
    cases hs
    exact Or.inl ⟨rfl, rfl, rfl⟩
  · have hs := ac_if hs
    cases hs
    exact Or.inl ⟨rfl, rfl, rfl⟩
  · have hs := ac_if hs
    cases hs
    exact Or.inl ⟨rfl, rfl, rfl⟩
  · have hs := ac_if hs
    cases hs
    exact Or.inl ⟨rfl, rfl, rfl⟩
  · have hs := ac_if hs
    obtain ⟨_, _, hs⟩ := ac_b hs
    cases hs
    exact Or.inl ⟨rfl, rfl, rfl⟩
  · have hs := ac_if hs
    obtain ⟨_, _, hs⟩ := ac_b hs
    cases hs
    exact Or.inl ⟨rfl, rfl, rfl⟩
  · have hs := ac_if hs
    obtain ⟨_, _, hs⟩ := ac_b hs
    cases hs
    exact Or.inl ⟨rfl, rfl, rfl⟩
  · have hs := ac_if hs
    obtain ⟨_, _, hs⟩ := ac_b hs
    obtain ⟨_, _, -, hs⟩ := sm_i1_s hs
    cases hs
    exact Or.inl ⟨rfl, rfl, rfl⟩
  · have hs := ac_if hs
    obtain ⟨_, _, hs⟩ := ac_b hs
    obtain ⟨_, _, -, hs⟩ := sm_i1_s hs
    cases hs
    exact Or.inl ⟨rfl, rfl, rfl⟩
  · have hs := ac_if hs
    obtain ⟨_, _, hs⟩ := ac_b hs
    obtain ⟨_, _, -, hs⟩ := sm_l1_s hs
    cases hs
    exact Or.inl ⟨rfl, rfl, rfl⟩
  · have hs := ac_if hs
    obtain ⟨_, _, hs⟩ := ac_b hs
    obtain ⟨_, _, -, hs⟩ := sm_l1_s hs
    cases hs
    exact Or.inl ⟨rfl, rfl, rfl⟩
  · have hs := ac_if hs
    obtain ⟨_, _, hs⟩ := ac_b hs
    obtain ⟨_, _, -, hs⟩ := sm_r1_s hs
    cases hs
    exact Or.inl ⟨rfl, rfl, rfl⟩
  · have hs := ac_if hs
    obtain ⟨_, _, hs⟩ := ac_b hs
    obtain ⟨_, _, -, hs⟩ := sm_r1_s hs
    cases hs
    exact Or.inl ⟨rfl, rfl, rfl⟩
  · have hs := ac_if hs
    obtain ⟨_, _, -, hs⟩ := sm_i1_s hs
    cases hs
    exact Or.inr (Or.inl ⟨_, _, rfl, rfl, (fun z => by have z : pc + 1 = pc := z; omega), fun c z => by cases z⟩)
  · have hs := ac_if hs
    obtain ⟨_, _, -, hs⟩ := sm_i1_s hs
    cases hs
    exact Or.inr (Or.inl ⟨_, _, rfl, rfl, (fun z => by have z : pc + 2 = pc := z; omega), fun c z => by cases z⟩)
  · have hs := ac_if hs
    obtain ⟨_, _, -, hs⟩ := sm_l1_s hs
    cases hs
    exact Or.inr (Or.inr ⟨_, _, rfl, rfl, fun z => by have z : pc + 1 = pc := z; omega⟩)
  · have hs := ac_if hs
    obtain ⟨_, _, -, hs⟩ := sm_l1_s hs
    cases hs
    exact Or.inr (Or.inr ⟨_, _, rfl, rfl, fun z => by have z : pc + 2 = pc := z; omega⟩)
  · have hs := ac_if hs
    obtain ⟨_, _, -, hs⟩ := sm_r1_s hs
    cases hs
    exact Or.inr (Or.inl ⟨_, _, rfl, rfl, (fun z => by have z : pc + 1 = pc := z; omega), fun c z => by cases z⟩)
  · have hs := ac_if hs
    obtain ⟨_, _, -, hs⟩ := sm_r1_s hs
    cases hs
    exact Or.inr (Or.inl ⟨_, _, rfl, rfl, (fun z => by have z : pc + 2 = pc := z; omega), fun c z => by cases z⟩)
  · have hs := ac_if hs
    obtain ⟨w, hw, hs⟩ := ac_b hs
    obtain ⟨x, r, e, hs⟩ := sm_i1_s hs
    cases e
    cases hs
    exact Or.inr (Or.inl ⟨_, _, rfl, rfl, (fun z => by have z : pc + 3 = pc := z; omega), fun c z => by cases z; exact ⟨x, hw, rfl⟩⟩)
  · have hs := ac_if hs
    obtain ⟨_, _, _, -, hs⟩ := sm_i2_s hs
    cases hs
    exact Or.inl ⟨rfl, rfl, rfl⟩
  · have hs := ac_if hs
    obtain ⟨_, _, _, -, hs⟩ := sm_i2_s hs
    cases hs
    exact Or.inl ⟨rfl, rfl, rfl⟩
  · have hs := ac_if hs
    obtain ⟨_, _, _, -, hs⟩ := sm_i2_s hs
    cases hs
    exact Or.inl ⟨rfl, rfl, rfl⟩
  · have hs := ac_if hs
    obtain ⟨_, _, _, -, hs⟩ := sm_i2_s hs
    cases hs
    exact Or.inl ⟨rfl, rfl, rfl⟩
  · have hs := ac_if hs
    obtain ⟨_, _, _, -, hs⟩ := sm_i2_s hs
    cases hs
    exact Or.inl ⟨rfl, rfl, rfl⟩
  · have hs := ac_if hs
    obtain ⟨_, _, _, -, hs⟩ := sm_i2_s hs
    cases hs
    exact Or.inl ⟨rfl, rfl, rfl⟩
  · have hs := ac_if hs
    obtain ⟨_, _, _, -, hs⟩ := sm_i2_s hs
    have hs := ac_ifn hs
    cases hs
    exact Or.inl ⟨rfl, rfl, rfl⟩
  · have hs := ac_if hs
    obtain ⟨_, _, _, -, hs⟩ := sm_i2_s hs
    have hs := ac_ifn hs
    cases hs
    exact Or.inl ⟨rfl, rfl, rfl⟩
  · have hs := ac_if hs
    obtain ⟨_, _, -, hs⟩ := sm_i1_s hs
    cases hs
    exact Or.inl ⟨rfl, rfl, rfl⟩
  · have hs := ac_if hs
    obtain ⟨_, _, _, -, hs⟩ := sm_i2_s hs
    cases hs
    exact Or.inl ⟨rfl, rfl, rfl⟩
  · have hs := ac_if hs
    obtain ⟨_, _, _, -, hs⟩ := sm_i2_s hs
    cases hs
    exact Or.inl ⟨rfl, rfl, rfl⟩
  · have hs := ac_if hs
    obtain ⟨_, _, _, -, hs⟩ := sm_l2_s hs
    cases hs
    exact Or.inl ⟨rfl, rfl, rfl⟩
  · have hs := ac_if hs
    obtain ⟨_, _, _, -, hs⟩ := sm_l2_s hs
    cases hs
    exact Or.inl ⟨rfl, rfl, rfl⟩
  · have hs := ac_if hs
    obtain ⟨_, _, _, -, hs⟩ := sm_l2_s hs
    have hs := ac_ifn hs
    cases hs
    exact Or.inl ⟨rfl, rfl, rfl⟩
  · have hs := ac_if hs
    obtain ⟨_, _, _, -, hs⟩ := sm_l2_s hs
    have hs := ac_ifn hs
    cases hs
    exact Or.inl ⟨rfl, rfl, rfl⟩
  · have hs := ac_if hs
    obtain ⟨_, _, _, -, hs⟩ := sm_l2_s hs
    cases hs
    exact Or.inl ⟨rfl, rfl, rfl⟩
  · have hs := ac_if hs
    obtain ⟨_, _, -, hs⟩ := sm_i1_s hs
    cases hs
    exact Or.inl ⟨rfl, rfl, rfl⟩
  · have hs := ac_if hs
    obtain ⟨_, _, -, hs⟩ := sm_l1_s hs
    cases hs
    exact Or.inl ⟨rfl, rfl, rfl⟩
  · have hs := ac_if hs
    obtain ⟨_, _, -, hs⟩ := sm_i1_s hs
    cases hs
    exact Or.inl ⟨rfl, rfl, rfl⟩
  · have hs := ac_if hs
    obtain ⟨_, _, hs⟩ := ac_b hs
    cases hs
    exact Or.inl ⟨rfl, rfl, rfl⟩
  · have hs := ac_if hs
    obtain ⟨_, _, hs⟩ := ac_b hs
    obtain ⟨_, _, -, hs⟩ := sm_i1_s hs
    cases hs
    exact Or.inl ⟨rfl, rfl, rfl⟩
  · have hs := ac_if hs
    obtain ⟨_, _, hs⟩ := ac_b hs
    obtain ⟨_, _, _, -, hs⟩ := sm_i2_s hs
    cases hs
    exact Or.inl ⟨rfl, rfl, rfl⟩
  · obtain ⟨_, _, -, hs⟩ := sm_i1_s hs
    rcases ac_iff hs with hs | hs
    · obtain ⟨_, _, hs⟩ := ac_b hs
      cases hs
      exact Or.inl ⟨rfl, rfl, rfl⟩
    · obtain ⟨_, _, hs⟩ := ac_b hs
      obtain ⟨_, _, hs⟩ := ac_b hs
      cases hs
      exact Or.inl ⟨rfl, rfl, rfl⟩
  · have hs := ac_if hs
    cases hs
    exact Or.inl ⟨rfl, rfl, rfl⟩
  · have hs := ac_if hs
    obtain ⟨_, _, -, hs⟩ := sm_r1_s hs
    obtain ⟨_, ek, hs⟩ := ac_b hs
    obtain ⟨_, eo, hs⟩ := ac_b hs
    obtain ⟨_, _, hs⟩ := ac_b hs
    cases hs
    exact Or.inl ⟨rfl, rfl, rfl⟩
  · have hs := ac_if hs
    obtain ⟨_, _, -, hs⟩ := sm_r1_s hs
    split at hs
    · rcases ac_iff hs with hs | hs
      · cases hs
        exact Or.inl ⟨rfl, rfl, rfl⟩
      · obtain ⟨_, _, hs⟩ := ac_b hs
        cases hs
        exact Or.inl ⟨rfl, rfl, rfl⟩
    · obtain ⟨_, _, hs⟩ := ac_b hs
      cases hs
      exact Or.inl ⟨rfl, rfl, rfl⟩
  · have hs := ac_if hs
    obtain ⟨_, _, _, -, hs⟩ := sm_ri_s hs
    rcases ac_iff hs with hs | hs
    · have hs := ac_ifn hs
      cases hs
      exact Or.inl ⟨rfl, rfl, rfl⟩
    · rcases ac_iff hs with hs | hs
      · obtain ⟨_, _, hs⟩ := ac_b hs
        have hs := ac_ifn hs
        cases hs
        exact Or.inl ⟨rfl, rfl, rfl⟩
      · obtain ⟨_, ea, hs⟩ := ac_b hs
        have hs := ac_ifn hs
        cases hs
        exact Or.inl ⟨rfl, rfl, rfl⟩
  · have hs := ac_if hs
    obtain ⟨_, _, _, -, hs⟩ := sm_ri_s hs
    obtain ⟨_, ea, hs⟩ := ac_b hs
    have hs := ac_ifn hs
    cases hs
    exact Or.inl ⟨rfl, rfl, rfl⟩
  · have hs := ac_if hs
    obtain ⟨_, _, _, -, hs⟩ := sm_ri_s hs
    obtain ⟨_, _, hs⟩ := ac_b hs
    have hs := ac_ifn hs
    obtain ⟨_, _, hs⟩ := ac_b hs
    cases hs
    exact Or.inl ⟨rfl, rfl, rfl⟩
  · have hs := ac_if hs
    obtain ⟨_, _, _, _, -, hs⟩ := sm_rii_s hs
    obtain ⟨_, ea, hs⟩ := ac_b hs
    have hs := ac_ifn hs
    cases hs
    exact Or.inl ⟨rfl, rfl, rfl⟩
  · have hs := ac_if hs
    obtain ⟨_, _, _, _, -, hs⟩ := sm_rii_s hs
    obtain ⟨_, ea, hs⟩ := ac_b hs
    have hs := ac_ifn hs
    cases hs
    exact Or.inl ⟨rfl, rfl, rfl⟩
  · have hs := ac_if hs
    split at hs
    · obtain ⟨_, ek, hs⟩ := ac_b hs
      have hs := ac_if hs
      obtain ⟨_, eo, hs⟩ := ac_b hs
      have hs := ac_if hs
      cases hs
      exact Or.inl ⟨rfl, rfl, rfl⟩
    · obtain ⟨_, ek, hs⟩ := ac_b hs
      have hs := ac_if hs
      obtain ⟨_, eo, hs⟩ := ac_b hs
      have hs := ac_if hs
      cases hs
      exact Or.inl ⟨rfl, rfl, rfl⟩
    · cases hs
  · have hs := ac_if hs
    split at hs
    · have hs := ac_if hs
      cases hs
      exact Or.inl ⟨rfl, rfl, rfl⟩
    · cases hs
  · have hs := ac_if hs
    split at hs
    · have hs := ac_if hs
      cases hs
      exact Or.inl ⟨rfl, rfl, rfl⟩
    · cases hs
  · have hs := ac_if hs
    split at hs
    · have hs := ac_if hs
      cases hs
      exact Or.inl ⟨rfl, rfl, rfl⟩
    · cases hs
  · have hs := ac_if hs
    split at hs
    · have hs := ac_if hs
      cases hs
      exact Or.inl ⟨rfl, rfl, rfl⟩
    · cases hs
  · have hs := ac_if hs
    obtain ⟨_, _, hs⟩ := ac_b hs
    split at hs
    · obtain ⟨_, _, _, -, hs⟩ := sm_i2_s hs
      have hs := ac_if hs
      cases hs
      exact Or.inl ⟨rfl, rfl, rfl⟩
    · obtain ⟨_, _, _, -, hs⟩ := sm_i2_s hs
      have hs := ac_if hs
      cases hs
      exact Or.inl ⟨rfl, rfl, rfl⟩
    · obtain ⟨_, _, -, hs⟩ := sm_i1_s hs
      have hs := ac_if hs
      cases hs
      exact Or.inl ⟨rfl, rfl, rfl⟩
    · obtain ⟨_, _, _, _, _, _, -, hs⟩ := sm_c5_s hs
      obtain ⟨_, _, hs⟩ := ac_b hs
      obtain ⟨_, ea, hs⟩ := ac_b hs
      have hs := ac_if hs
      cases hs
      exact Or.inl ⟨rfl, rfl, rfl⟩
    · cases hs
  · cases hs
theorem ac_g1 {lv : sm_L} {k j : Nat} {v : Value} {y : Int32} (hk : k ≠ j) (h : sm_get lv j = some (.int y)) : sm_get (sm_put1 lv k v) j = some (.int y) := by
  unfold sm_put1 sm_get
  rw [if_neg hk]
  refine aw_get_fl h ?_
  have e1 : (j == k) = false := beq_eq_false_iff_ne.mpr (fun z => hk z.symm)
  have e2 : ((Value.int y).category == 2) = false := rfl
  dsimp only
  rw [e1, e2]
  simp
theorem ac_g2 {lv : sm_L} {k j : Nat} {v : Value} {y : Int32} (hk : k ≠ j) (hk1 : k + 1 ≠ j) (h : sm_get lv j = some (.int y)) : sm_get (sm_put2 lv k v) j = some (.int y) := by
  unfold sm_put2 sm_get
  rw [if_neg hk]
  refine aw_get_fl h ?_
  have e1 : (j == k) = false := beq_eq_false_iff_ne.mpr (fun z => hk z.symm)
  have e3 : (j == k + 1) = false := beq_eq_false_iff_ne.mpr (fun z => hk1 z.symm)
  have e2 : ((Value.int y).category == 2) = false := rfl
  dsimp only
  rw [e1, e2, e3]
  simp
theorem ac_gs (lv : sm_L) (k : Nat) (v : Value) : sm_get (sm_put1 lv k v) k = some v := by
  unfold sm_put1 sm_get
  rw [if_pos rfl]
def ac_rl (S : aw_S) (k : Nat) : Bool := match sm_lk S.1 k with
  | some (.inr (false, r)) => ar_sub r [(-2147483647, 2147483647)]
  | _ => false
/-- what a path does to the counters: 0 nothing, 1 grown by one, 3 less by one, 2 lost -/
def ac_rg (S : aw_S) (k : Nat) : Bool := match sm_lk S.1 k with
  | some (.inr (false, r)) => ar_sub r [(-2147483648, 2147483646)]
  | _ => false
def ac_e (S : aw_S) (i : Instr) (q : Nat × Nat) : Nat × Nat := if ac_w q.1 i then (match i with
    | .iinc _ v => if (Nat.beq q.2 0 && (decide (v = 1) && ac_rg S q.1)) = true then (q.1, 1) else if (Nat.beq q.2 0 && (decide (v = -1) && ac_rl S q.1)) = true then (q.1, 3) else (q.1, 2)
    | _ => (q.1, 2)) else q
def ac_ef (S : aw_S) (i : Instr) (ef : List (Nat × Nat)) : List (Nat × Nat) := ef.map (ac_e S i)
def ac_ws (ef : List (Nat × Nat)) (i : Instr) : Bool := ef.any fun q => ac_w q.1 i
def ac_rq (rq ef : List (Nat × Nat)) : Bool := rq.all fun r => ef.any fun q => Nat.beq r.1 q.1 && Nat.beq r.2 q.2
def ac_q (x : Nat → Int32) (lv : sm_L) (q : Nat × Nat) : Prop := (q.2 = 0 → sm_get lv q.1 = some (.int (x q.1))) ∧ (q.2 = 1 → ∃ y : Int32, sm_get lv q.1 = some (.int y) ∧ y.toInt = (x q.1).toInt + 1) ∧ (q.2 = 3 → ∃ y : Int32, sm_get lv q.1 = some (.int y) ∧ y.toInt = (x q.1).toInt - 1)
def ac_r (x : Nat → Int32) (lv : sm_L) (ef : List (Nat × Nat)) : Prop := ∀ q ∈ ef, ac_q x lv q
theorem ac_rq_s {x : Nat → Int32} {lv : sm_L} {rq ef : List (Nat × Nat)} (h : ac_rq rq ef = true) (hr : ac_r x lv ef) : ac_r x lv rq := by
  intro r hr0
  obtain ⟨q, hq, e⟩ := List.any_eq_true.mp (List.all_eq_true.mp h r hr0)
  obtain ⟨e1, e2⟩ := sm_an e
  have e1 := Nat.eq_of_beq_eq_true e1
  have e2 := Nat.eq_of_beq_eq_true e2
  have g := hr q hq
  unfold ac_q at g ⊢
  rw [e1, e2]
  exact g
theorem ac_ws_q {ef : List (Nat × Nat)} {i : Instr} (h : ac_ws ef i = false) {q : Nat × Nat} (hq : q ∈ ef) : ac_w q.1 i = false := by
  cases e : ac_w q.1 i with
  | false => rfl
  | true =>
    have : ac_ws ef i = true := List.any_eq_true.mpr ⟨q, hq, e⟩
    rw [h] at this
    cases this
theorem ac_ef_n {S : aw_S} {ef : List (Nat × Nat)} {i : Instr} (h : ac_ws ef i = false) : ac_ef S i ef = ef := by
  unfold ac_ef
  have : ef.map (ac_e S i) = ef.map id := List.map_congr_left (fun q hq => by
    unfold ac_e
    rw [ac_ws_q h hq]
    exact if_neg Bool.false_ne_true)
  rw [this, List.map_id]
/-- a step that writes none of the counters, or one -/
theorem ac_qn {K : sm_K} {i : Instr} {n pc : Nat} {lv : sm_L} {st : List Value} {h : List va_E} {t : sm_T} {x : Nat → Int32} {q : Nat × Nat} (hs : sm_step K i n pc lv st h = some t) (hw : ac_w q.1 i = false) (hq : ac_q x lv q) : ac_q x t.2.1 q := by
  have key : ∀ y : Int32, sm_get lv q.1 = some (.int y) → sm_get t.2.1 q.1 = some (.int y) := by
    intro y hy
    rcases ac_stp hs with ⟨-, -, e⟩ | ⟨k, v, e1, e2, -, -⟩ | ⟨k, v, e1, e2, -⟩
    · rw [e]; exact hy
    · unfold ac_w at hw
      rw [e1] at hw
      have hw : Nat.beq k q.1 = false := (ac_or hw).1
      have hk : k ≠ q.1 := fun z => by
        rw [z, Nat.beq_refl] at hw
        cases hw
      rw [e2]
      exact ac_g1 hk hy
    · unfold ac_w at hw
      rw [e1] at hw
      have hw : (Nat.beq k q.1 || Nat.beq (k + 1) q.1) = false := (ac_or hw).2
      obtain ⟨w1, w2⟩ := ac_or hw
      have hk : k ≠ q.1 := fun z => by
        rw [z, Nat.beq_refl] at w1
        cases w1
      have hk1 : k + 1 ≠ q.1 := fun z => by
        rw [z, Nat.beq_refl] at w2
        cases w2
      rw [e2]
      exact ac_g2 hk hk1 hy
  refine ⟨fun z => key _ (hq.1 z), fun z => ?_, fun z => ?_⟩
  · obtain ⟨y, y1, y2⟩ := hq.2.1 z
    exact ⟨y, key y y1, y2⟩
  · obtain ⟨y, y1, y2⟩ := hq.2.2 z
    exact ⟨y, key y y1, y2⟩
theorem ac_A {K : sm_K} {i : Instr} {n pc : Nat} {lv : sm_L} {st : List Value} {h : List va_E} {t : sm_T} {x : Nat → Int32} {ef : List (Nat × Nat)} (hs : sm_step K i n pc lv st h = some t) (hw : ac_ws ef i = false) (hr : ac_r x lv ef) : ac_r x t.2.1 ef :=
  fun q hq => ac_qn hs (ac_ws_q hw hq) (hr q hq)
theorem ac_hi {S : aw_S} {lv : sm_L} {j : Nat} {r : ar_R} {y : Int32} {lo hi : Int} (hS : aw_l S.1 lv) (hl : sm_lk S.1 j = some (.inr (false, r))) (g : sm_get lv j = some (.int y)) (h : ar_sub r [(lo, hi)] = true) : lo ≤ y.toInt ∧ y.toInt ≤ hi := by
  obtain ⟨w, hw, hm⟩ := hS _ (aw_lk hl)
  obtain ⟨x', hx', hin⟩ := hm
  have hw : sm_get lv j = some w := hw
  rw [g] at hw
  cases hw
  cases hx'
  obtain ⟨p, hp, p1, p2⟩ := ar_sub_s h hin
  rcases List.mem_cons.mp hp with rfl | hp
  · exact ⟨p1, p2⟩
  · exact absurd hp List.not_mem_nil
theorem ac_B {K : sm_K} {i : Instr} {n pc : Nat} {lv : sm_L} {st : List Value} {h : List va_E} {t : sm_T} {x : Nat → Int32} {ef : List (Nat × Nat)} {S : aw_S} (hS : aw_l S.1 lv) (hs : sm_step K i n pc lv st h = some t) (hr : ac_r x lv ef) : ac_r x t.2.1 (ac_ef S i ef) := by
  intro q' hq'
  obtain ⟨q, hq, rfl⟩ := List.mem_map.mp hq'
  have h0 := hr q hq
  cases e : ac_w q.1 i with
  | false =>
    have : ac_e S i q = q := by
      unfold ac_e
      rw [e]
      exact if_neg Bool.false_ne_true
    rw [this]
    exact ac_qn hs e h0
  | true =>
    have lost : ac_q x t.2.1 (q.1, 2) := ⟨fun z => absurd (show (2 : Nat) = 0 from z) (by decide), fun z => absurd (show (2 : Nat) = 1 from z) (by decide), fun z => absurd (show (2 : Nat) = 3 from z) (by decide)⟩
    unfold ac_e
    rw [e, if_pos rfl]
    have grow : ∀ (k : Nat) (v : Int), i = .iinc k v → q.2 = 0 → ∃ y : Int32, sm_get lv q.1 = some (.int (x q.1)) ∧ sm_get t.2.1 q.1 = some (.int y) ∧ y = x q.1 + Int32.ofInt v := by
      intro k v hi c1
      subst hi
      have e : (Nat.beq k q.1 || false) = true := e
      rw [Bool.or_false] at e
      have hk : k = q.1 := Nat.eq_of_beq_eq_true e
      subst hk
      have g0 := h0.1 c1
      rcases ac_stp hs with ⟨e1, -, -⟩ | ⟨k', v', e1, e2, -, e3⟩ | ⟨k', v', e1, -⟩
      · cases e1
      · have e1 : some q.1 = some k' := e1
        cases e1
        obtain ⟨y, y1, y2⟩ := e3 v rfl
        have ey : y = x q.1 := by
          have := y1.symm.trans g0
          cases this
          rfl
        subst ey
        exact ⟨_, g0, by rw [e2, y2]; exact ac_gs _ _ _, rfl⟩
      · cases e1
    split
    · rename_i k v
      split
      · rename_i c
        obtain ⟨c1, c⟩ := sm_an c
        obtain ⟨c2, c3⟩ := sm_an c
        have c1 := Nat.eq_of_beq_eq_true c1
        have c2 := of_decide_eq_true c2
        obtain ⟨y, g0, g1, g2⟩ := grow k v rfl c1
        rw [c2, show Int32.ofInt 1 = 1 from by decide] at g2
        refine ⟨fun z => absurd (show (1 : Nat) = 0 from z) (by decide), fun _ => ⟨y, g1, ?_⟩, fun z => absurd (show (1 : Nat) = 3 from z) (by decide)⟩
        unfold ac_rg at c3
        split at c3
        · rename_i r hl
          have p2 := ac_hi hS hl g0 c3
          have l := Int32.le_toInt (x q.1)
          have o : (1 : Int32).toInt = 1 := rfl
          show y.toInt = (x q.1).toInt + 1
          rw [g2, Int32.toInt_add, o]
          exact Int.bmod_eq_of_le (by omega) (by omega)
        · cases c3
      · split
        · rename_i c
          obtain ⟨c1, c⟩ := sm_an c
          obtain ⟨c2, c3⟩ := sm_an c
          have c1 := Nat.eq_of_beq_eq_true c1
          have c2 := of_decide_eq_true c2
          obtain ⟨y, g0, g1, g2⟩ := grow k v rfl c1
          rw [c2, show Int32.ofInt (-1) = -1 from by decide] at g2
          refine ⟨fun z => absurd (show (3 : Nat) = 0 from z) (by decide), fun z => absurd (show (3 : Nat) = 1 from z) (by decide), fun _ => ⟨y, g1, ?_⟩⟩
          unfold ac_rl at c3
          split at c3
          · rename_i r hl
            have p2 := ac_hi hS hl g0 c3
            have l := Int32.toInt_lt (x q.1)
            have o : (-1 : Int32).toInt = -1 := rfl
            show y.toInt = (x q.1).toInt - 1
            rw [g2, Int32.toInt_add, o]
            exact Int.bmod_eq_of_le (by omega) (by omega)
          · cases c3
        · exact lost
    · exact lost
theorem ac_C {K : sm_K} {i : Instr} {n pc : Nat} {lv : sm_L} {st : List Value} {h : List va_E} {t : sm_T} {ef : List (Nat × Nat)} (hs : sm_step K i n pc lv st h = some t) (hw : ac_ws ef i = true) : t.1 ≠ pc := by
  obtain ⟨q, -, hq⟩ := List.any_eq_true.mp hw
  rcases ac_stp hs with ⟨e1, e2, -⟩ | ⟨k, v, -, -, e, -⟩ | ⟨k, v, -, -, e⟩
  · unfold ac_w at hq
    rw [e1, e2] at hq
    exact absurd hq Bool.false_ne_true
  · exact e
  · exact e
def ac_fi (ef : List (Nat × Nat)) (o : Option (Instr × Nat)) : Option (Instr × Nat) := match o with
  | some q => if ac_ws ef q.1 then none else some q
  | none => none
theorem ac_fi_s {ef : List (Nat × Nat)} {o : Option (Instr × Nat)} {q : Instr × Nat} (h : ac_fi ef o = some q) : o = some q ∧ ac_ws ef q.1 = false := by
  unfold ac_fi at h
  split at h
  · rename_i q'
    cases e : ac_ws ef q'.1 with
    | true =>
      rw [e, if_pos rfl] at h
      cases h
    | false =>
      rw [e, if_neg Bool.false_ne_true] at h
      cases h
      exact ⟨rfl, e⟩
  · cases h
def ac_nx (cs : List ak_C) (B : sm_P) (WR wd : List Nat) (nf : Nat) (i : Instr) (n pc : Nat) (S : aw_S) (ef : List (Nat × Nat)) : Option (List (Nat × aw_S)) := match ak_call cs B.2.2.1 WR i n pc S with
  | some l => if ac_ws ef i then none else some l
  | none => if ac_ws ef i then (aw_step B.2.1 (fun p => if p = pc then some (i, n) else none) wd nf i n pc S).bind fun l => (if l.all (fun u => !Nat.beq u.1 pc) = true then some l else none) else aw_step B.2.1 (fun p => ac_fi ef (B.1 p)) wd nf i n pc S
abbrev ac_T : Type := Nat × aw_S × List (Nat × Nat)
def ac_go (cs : List ak_C) (c : ak_C) (B : sm_P) (wd : List Nat) (nf : Nat) (hd : List Nat) (fk : List (Nat × aw_G × Int × Nat)) (ts : List ac_T) : Nat → Bool → Nat → aw_S → List (Nat × Nat) → Bool
  | 0, _, _, _, _ => false
  | f + 1, first, pc, S, ef => if first = false ∧ hd.contains pc = true then ts.any fun u => decide (u.1 = pc) && (ac_rq u.2.2 ef && as_sub S u.2.1)
    else match (if first then none else sm_lk fk pc) with
    | some q => (match ai_fk q.1 q.2.1 q.2.2 S with
      | none => false
      | some l => l.all fun S' => ac_go cs c B wd nf hd fk ts f true pc S' ef)
    | none => match B.1 pc with
    | none => false
    | some (i, n) => if ai_isret i then ai_ret c B.2.2.2 i n S else match ac_nx cs B c.2.2.2.1 wd nf i n pc S ef with
      | none => false
      | some l => l.all fun u => ac_go cs c B wd nf hd fk ts f false u.1 u.2 (ac_ef S i ef)
section ACS
variable {cs : List ak_C} {c : ak_C} {B : sm_P} {X : sm_X} {wd : List Nat} {nf : Nat} {hd : List Nat} {fk : List (Nat × aw_G × Int × Nat)} {Psi : List va_E → Prop}
set_option maxHeartbeats 2000000 in
theorem ac_go_s (hcs : ∀ c ∈ cs, ak_ok Psi X c) (hwd : ∀ a, a ∈ wd → a ∈ c.2.2.2.1) (hPsi : ∀ (h : List va_E) (a : Nat) (e : va_E), a ∈ wd → Psi h → Psi (h.set a e)) {vs : List Value} {lv0 : sm_L} {h0 : List va_E}
    (hfz : ∀ (rs : List ar_R) (L : aw_L) (lv : sm_L), (∃ q ∈ c.2.2.2.2, q.1 = rs) → aw_l L lv → (∀ (j : Nat) (w : Value), j < nf → (w.category = 2 → j + 1 < nf) → sm_get lv0 j = some w → sm_get lv j = some w) → ai_rf (ai_sl c.2.1 0) rs L = true → ak_rf rs vs) {x : Nat → Int32}
    {ts : List ac_T} (hn : ∀ u ∈ ts, ∀ (lv : sm_L) (st : List Value) (h : List va_E), aw_ok u.2.1 lv st h → ai_I c Psi nf lv0 h0 lv h → ac_r x lv u.2.2 → ai_G c B X Psi vs h0 u.1 lv st h) :
    ∀ (f : Nat) (first : Bool) (pc : Nat) (S : aw_S) (ef : List (Nat × Nat)), ac_go cs c B wd nf hd fk ts f first pc S ef = true → ∀ (lv : sm_L) (st : List Value) (h : List va_E), aw_ok S lv st h → ai_I c Psi nf lv0 h0 lv h → ac_r x lv ef → ai_G c B X Psi vs h0 pc lv st h := by
  intro f
  induction f with
  | zero => intro first pc S ef e; cases e
  | succ f ih =>
    intro first pc S ef e lv st h hok hI hr
    unfold ac_go at e
    split at e
    · obtain ⟨u, hu, e⟩ := List.any_eq_true.mp e
      obtain ⟨e1, e2⟩ := sm_an e
      obtain ⟨e2, e3⟩ := sm_an e2
      have e1 := of_decide_eq_true e1
      subst e1
      exact hn u hu lv st h (as_sub_s e3 hok) hI (ac_rq_s e2 hr)
    · split at e
      · split at e
        · cases e
        · rename_i l hl
          obtain ⟨S', s1, s2⟩ := ai_fk_s hl hok
          exact ih true pc S' ef (List.all_eq_true.mp e S' s1) lv st h s2 hI hr
      · split at e
        · cases e
        · rename_i i n hB
          split at e
          · have fin : ∀ (v : Option aw_V) (o : Option Value), ak_res v o → sm_ret B.2.2.2 i n st o → ai_end c v S = true → ai_G c B X Psi vs h0 pc lv st h := by
              intro v o hv hr he
              refine ⟨1, o, h, ⟨i, n, hB, Or.inl ⟨hr, rfl⟩⟩, hI.2.1, hI.1, ai_end_s (lv := lv) (lv0 := lv0) (h0 := h0) hv hok.1 hok.2.2 he (fun rs hrs hh => hfz rs S.1 lv hrs hok.1 hI.2.2 hh)⟩
            obtain ⟨v, o, a1, a2, a3⟩ := ai_ret_s e hok.2.1
            exact fin v o a1 a2 a3
          · split at e
            · cases e
            · rename_i l hl
              have go : ∀ u ∈ l, ∀ (lv' : sm_L) (st' : List Value) (h' : List va_E), aw_ok u.2 lv' st' h' → ai_I c Psi nf lv0 h0 lv' h' → ac_r x lv' (ac_ef S i ef) → ai_G c B X Psi vs h0 u.1 lv' st' h' := fun u hu lv' st' h' o1 o2 o3 => ih false u.1 u.2 _ (List.all_eq_true.mp e u hu) lv' st' h' o1 o2 o3
              unfold ac_nx at hl
              split at hl
              · rename_i l' hcall
                cases hw : ac_ws ef i with
                | true =>
                  rw [hw, if_pos rfl] at hl
                  cases hl
                | false =>
                  rw [hw, if_neg Bool.false_ne_true] at hl
                  cases hl
                  rw [ac_ef_n hw] at go
                  obtain ⟨k, vs1, r, o, h', x1, x2, x3, x4, u, hu, u1, u2⟩ := ak_call_s hcs hcall hok hI.2.1
                  obtain ⟨f', o', h'', g1, g2⟩ := go u hu lv _ h' u2 ⟨fun a ha => (x4 a ha).trans (hI.1 a ha), x3, hI.2.2⟩ hr
                  rw [u1] at g1
                  exact ⟨f' + 1, o', h'', ⟨i, n, hB, Or.inr (Or.inr ⟨k, vs1, r, o, h', x1, x2, g1⟩)⟩, g2⟩
              · cases hw : ac_ws ef i with
                | true =>
                  rw [hw, if_pos rfl] at hl
                  obtain ⟨l', hl, hl2⟩ := sm_bd hl
                  obtain ⟨hne, hl2⟩ := sm_if hl2
                  cases hl2
                  have g := aw_sound (tb := fun p => if p = pc then some (i, n) else none) (K := B.2.1) (WR := wd) (nf := nf) (Psi := Psi) (G := fun p l s hh => (p = pc → aw_l S.1 l → ac_r x l ef → ai_G c B X Psi vs h0 p l s hh) ∧ (p ≠ pc → ac_r x l (ac_ef S i ef) → ai_G c B X Psi vs h0 p l s hh)) ?_ hPsi (show (if pc = pc then some (i, n) else none) = some (i, n) from if_pos rfl) hl hok hI.2.1 ?_
                  · exact g.1 rfl hok.1 hr
                  · intro p i' n' l s hh t h1 h2 h3
                    have h1 : (if p = pc then some (i, n) else none) = some (i', n') := h1
                    by_cases hp : p = pc
                    · rw [if_pos hp] at h1
                      cases h1
                      refine ⟨fun _ hS hr' => ?_, fun z => absurd hp z⟩
                      obtain ⟨f', o', h'', g1, g2⟩ := h3.2 (fun z => ac_C h2 hw (z.trans hp.symm)) (ac_B hS h2 hr')
                      exact ⟨f' + 1, o', h'', ⟨i, n, by rw [hp]; exact hB, Or.inr (Or.inl ⟨t, h2, g1⟩)⟩, g2⟩
                    · rw [if_neg hp] at h1
                      cases h1
                  · intro u hu lv' st' h' o1 o2 o3 o4
                    refine ⟨fun z => ?_, fun _ o5 => go u hu lv' st' h' o1 ⟨fun a ha => (o2 a (fun z => ha (hwd a z))).trans (hI.1 a ha), o3, fun j w a1 a2 a3 => o4 j w a1 a2 (hI.2.2 j w a1 a2 a3)⟩ o5⟩
                    have := List.all_eq_true.mp hne u hu
                    rw [z, Nat.beq_refl] at this
                    cases this
                | false =>
                  rw [hw, if_neg Bool.false_ne_true] at hl
                  rw [ac_ef_n hw] at go
                  have g := aw_sound (tb := fun p => ac_fi ef (B.1 p)) (K := B.2.1) (WR := wd) (nf := nf) (Psi := Psi) (G := fun p l s hh => ac_r x l ef → ai_G c B X Psi vs h0 p l s hh) ?_ hPsi (by show ac_fi ef (B.1 pc) = _; rw [hB]; show (if ac_ws ef i = true then none else some (i, n)) = _; rw [hw]; exact if_neg Bool.false_ne_true) hl hok hI.2.1 ?_
                  · exact g hr
                  · intro p i' n' l s hh t h1 h2 h3 hr'
                    obtain ⟨h1, h4⟩ := ac_fi_s (show ac_fi ef (B.1 p) = some (i', n') from h1)
                    obtain ⟨f', o', h'', g1, g2⟩ := h3 (ac_A h2 h4 hr')
                    exact ⟨f' + 1, o', h'', ⟨i', n', h1, Or.inr (Or.inl ⟨t, h2, g1⟩)⟩, g2⟩
                  · intro u hu lv' st' h' o1 o2 o3 o4 o5
                    exact go u hu lv' st' h' o1 ⟨fun a ha => (o2 a (fun z => ha (hwd a z))).trans (hI.1 a ha), o3, fun j w a1 a2 a3 => o4 j w a1 a2 (hI.2.2 j w a1 a2 a3)⟩ o5
end ACS
/-- nodes: single ones, or a loop of nodes with its counter, each with one of its own or none -/
abbrev ac_N : Type := (Nat × aw_S) × Option Nat
abbrev ac_I : Type := (Nat × aw_S) ⊕ (Nat × Bool × List ac_N)
def ac_mu (dn : Bool) (y : Int32) : Int := if dn = true then y.toInt + 2147483648 else 2147483647 - y.toInt
def ac_oc (dn : Bool) : Nat := if dn = true then 3 else 1
theorem ac_mu_b (dn : Bool) (y : Int32) : 0 ≤ ac_mu dn y ∧ ac_mu dn y < 4294967296 := by
  have l := Int32.le_toInt y
  have u := Int32.toInt_lt y
  unfold ac_mu
  cases dn
  · rw [if_neg Bool.false_ne_true]; omega
  · rw [if_pos rfl]; omega
theorem ac_mu_s {x : Nat → Int32} {lv : sm_L} {a : Nat} {dn : Bool} (h : ac_q x lv (a, ac_oc dn)) : ∃ y : Int32, sm_get lv a = some (.int y) ∧ ac_mu dn y = ac_mu dn (x a) - 1 := by
  cases dn
  · obtain ⟨y, y1, y2⟩ := h.2.1 rfl
    have y2 : y.toInt = (x a).toInt + 1 := y2
    refine ⟨y, y1, ?_⟩
    unfold ac_mu
    rw [if_neg Bool.false_ne_true, if_neg Bool.false_ne_true]
    omega
  · obtain ⟨y, y1, y2⟩ := h.2.2 rfl
    have y2 : y.toInt = (x a).toInt - 1 := y2
    refine ⟨y, y1, ?_⟩
    unfold ac_mu
    rw [if_pos rfl, if_pos rfl]
    omega
def ac_fl : List ac_I → List (Nat × aw_S)
  | [] => []
  | .inl u :: r => u :: ac_fl r
  | .inr (_, _, vs) :: r => vs.map (fun v => v.1) ++ ac_fl r
def ac_in (S : aw_S) (j : Nat) : Bool := match sm_lk S.1 j with
  | some (.inr (false, _)) => true
  | _ => false
def ac_ow (a : Nat) (v : ac_N) : List (Nat × Nat) := (a, 0) :: (match v.2 with
  | none => []
  | some b => [(b, 0)])
def ac_t0 (u : Nat × aw_S) : ac_T := (u.1, u.2, [])
def ac_t1 (a e : Nat) (w : ac_N) : ac_T := (w.1.1, w.1.2, [(a, e)])
def ac_tb (a : Nat) (v : ac_N) : List ac_T := match v.2 with
  | none => []
  | some b => [(v.1.1, v.1.2, [(a, 0), (b, 1)])]
def ac_tg (a : Nat) (dn : Bool) (rest : List (Nat × aw_S)) (all vs : List ac_N) (v : ac_N) : List ac_T := rest.map ac_t0 ++ (all.map (ac_t1 a (ac_oc dn)) ++ (vs.map (ac_t1 a 0) ++ ac_tb a v))
def ac_gr (cs : List ak_C) (c : ak_C) (B : sm_P) (wd : List Nat) (nf : Nat) (hd : List Nat) (fk : List (Nat × aw_G × Int × Nat)) (fuel a : Nat) (dn : Bool) (rest : List (Nat × aw_S)) (all : List ac_N) : List ac_N → Bool
  | [] => true
  | v :: vs => (ac_in v.1.2 a && ((match v.2 with
    | none => true
    | some b => ac_in v.1.2 b) && ac_go cs c B wd nf hd fk (ac_tg a dn rest all vs v) fuel true v.1.1 v.1.2 (ac_ow a v))) && ac_gr cs c B wd nf hd fk fuel a dn rest all vs
def ac_ch (cs : List ak_C) (c : ak_C) (B : sm_P) (wd : List Nat) (nf : Nat) (hd : List Nat) (fk : List (Nat × aw_G × Int × Nat)) (fuel : Nat) : List ac_I → Bool
  | [] => true
  | .inl u :: r => ai_go cs c B wd nf hd fk (ac_fl r) fuel true u.1 u.2 && ac_ch cs c B wd nf hd fk fuel r
  | .inr (a, dn, vs) :: r => ac_gr cs c B wd nf hd fk fuel a dn (ac_fl r) vs vs && ac_ch cs c B wd nf hd fk fuel r
theorem ac_in_s {S : aw_S} {j : Nat} {lv : sm_L} (h : ac_in S j = true) (hL : aw_l S.1 lv) : ∃ y : Int32, sm_get lv j = some (.int y) := by
  unfold ac_in at h
  split at h
  · rename_i r hl
    obtain ⟨w, hw, hm⟩ := hL _ (aw_lk hl)
    obtain ⟨y, hy, -⟩ := hm
    rw [hy] at hw
    exact ⟨y, hw⟩
  · cases h
section ACG
variable {cs : List ak_C} {c : ak_C} {B : sm_P} {X : sm_X} {wd : List Nat} {nf : Nat} {hd : List Nat} {fk : List (Nat × aw_G × Int × Nat)} {Psi : List va_E → Prop}
theorem ac_gr_s (hcs : ∀ c ∈ cs, ak_ok Psi X c) (hwd : ∀ a, a ∈ wd → a ∈ c.2.2.2.1) (hPsi : ∀ (h : List va_E) (a : Nat) (e : va_E), a ∈ wd → Psi h → Psi (h.set a e)) {vs : List Value} {lv0 : sm_L} {h0 : List va_E}
    (hfz : ∀ (rs : List ar_R) (L : aw_L) (lv : sm_L), (∃ q ∈ c.2.2.2.2, q.1 = rs) → aw_l L lv → (∀ (j : Nat) (w : Value), j < nf → (w.category = 2 → j + 1 < nf) → sm_get lv0 j = some w → sm_get lv j = some w) → ai_rf (ai_sl c.2.1 0) rs L = true → ak_rf rs vs) {fuel a : Nat} {dn : Bool}
    {rest : List (Nat × aw_S)} {all : List ac_N} (hn : ∀ u ∈ rest, ∀ (lv : sm_L) (st : List Value) (h : List va_E), aw_ok u.2 lv st h → ai_I c Psi nf lv0 h0 lv h → ai_G c B X Psi vs h0 u.1 lv st h) (hg : ac_gr cs c B wd nf hd fk fuel a dn rest all all = true) :
    ∀ (N : Nat), ∀ v ∈ all, ∀ (lv : sm_L) (st : List Value) (h : List va_E) (y : Int32), aw_ok v.1.2 lv st h → ai_I c Psi nf lv0 h0 lv h → sm_get lv a = some (.int y) → ac_mu dn y < N → ai_G c B X Psi vs h0 v.1.1 lv st h := by
  intro N
  induction N with
  | zero =>
    intro v _ lv st h y _ _ _ hy
    have := (ac_mu_b dn y).1
    omega
  | succ N ihN =>
    have key : ∀ ws : List ac_N, ac_gr cs c B wd nf hd fk fuel a dn rest all ws = true → ∀ v ∈ ws, ∀ (lv : sm_L) (st : List Value) (h : List va_E) (y : Int32), aw_ok v.1.2 lv st h → ai_I c Psi nf lv0 h0 lv h → sm_get lv a = some (.int y) → ac_mu dn y < ((N + 1 : Nat) : Int) → ai_G c B X Psi vs h0 v.1.1 lv st h := by
      intro ws
      induction ws with
      | nil => intro _ v hv; exact absurd hv List.not_mem_nil
      | cons w ws ihw =>
        intro hw v hv
        obtain ⟨h1, h2⟩ := sm_an hw
        rcases List.mem_cons.mp hv with rfl | hv
        · obtain ⟨h3, h4⟩ := sm_an h1
          obtain ⟨h5, h6⟩ := sm_an h4
          -- its own counter
          have own : ∀ (Nb : Nat) (z : Int32), (∀ b, v.2 = some b → 2147483647 - z.toInt < Nb) → ∀ (lv : sm_L) (st : List Value) (h : List va_E) (y : Int32), aw_ok v.1.2 lv st h → ai_I c Psi nf lv0 h0 lv h → sm_get lv a = some (.int y) → ac_mu dn y < ((N + 1 : Nat) : Int) → (∀ b, v.2 = some b → sm_get lv b = some (.int z)) → ai_G c B X Psi vs h0 v.1.1 lv st h := by
            intro Nb
            induction Nb with
            | zero =>
              intro z hz lv st h y o1 o2 o3 o4 o5
              cases hb : v.2 with
              | some b =>
                have := hz b hb
                have := Int32.toInt_lt z
                omega
              | none =>
                refine ac_go_s hcs hwd hPsi hfz (x := fun _ => y) (ts := ac_tg a dn rest all ws v) (fun u hu lv' st' h' p1 p2 p3 => ?_) fuel true v.1.1 v.1.2 _ h6 lv st h o1 o2 ?_
                · have hb0 : ac_tb a v = [] := by
                    unfold ac_tb
                    rw [hb]
                  unfold ac_tg at hu
                  rw [hb0, List.append_nil] at hu
                  rcases List.mem_append.mp hu with hu | hu
                  · obtain ⟨u0, hu0, rfl⟩ := List.mem_map.mp hu
                    exact hn u0 hu0 lv' st' h' p1 p2
                  · rcases List.mem_append.mp hu with hu | hu
                    · obtain ⟨u0, hu0, rfl⟩ := List.mem_map.mp hu
                      obtain ⟨y', y1, y2⟩ := ac_mu_s (p3 (a, ac_oc dn) List.mem_cons_self)
                      exact ihN u0 hu0 lv' st' h' y' p1 p2 y1 (by omega)
                    · obtain ⟨u0, hu0, rfl⟩ := List.mem_map.mp hu
                      exact ihw h2 u0 hu0 lv' st' h' y p1 p2 ((p3 (a, 0) List.mem_cons_self).1 rfl) o4
                · intro q hq
                  unfold ac_ow at hq
                  rw [hb] at hq
                  rcases List.mem_cons.mp hq with rfl | hq
                  · exact ⟨fun _ => o3, fun z => absurd (show (0 : Nat) = 1 from z) (by decide), fun z => absurd (show (0 : Nat) = 3 from z) (by decide)⟩
                  · exact absurd hq List.not_mem_nil
            | succ Nb ihb =>
              intro z hz lv st h y o1 o2 o3 o4 o5
              refine ac_go_s hcs hwd hPsi hfz (x := fun j => if j = a then y else z) (ts := ac_tg a dn rest all ws v) (fun u hu lv' st' h' p1 p2 p3 => ?_) fuel true v.1.1 v.1.2 _ h6 lv st h o1 o2 ?_
              · have xa : (fun j : Nat => if j = a then y else z) a = y := if_pos rfl
                unfold ac_tg at hu
                rcases List.mem_append.mp hu with hu | hu
                · obtain ⟨u0, hu0, rfl⟩ := List.mem_map.mp hu
                  exact hn u0 hu0 lv' st' h' p1 p2
                · rcases List.mem_append.mp hu with hu | hu
                  · obtain ⟨u0, hu0, rfl⟩ := List.mem_map.mp hu
                    obtain ⟨y', y1, y2⟩ := ac_mu_s (p3 (a, ac_oc dn) List.mem_cons_self)
                    rw [if_pos rfl] at y2
                    exact ihN u0 hu0 lv' st' h' y' p1 p2 y1 (by omega)
                  · rcases List.mem_append.mp hu with hu | hu
                    · obtain ⟨u0, hu0, rfl⟩ := List.mem_map.mp hu
                      have g := (p3 (a, 0) List.mem_cons_self).1 rfl
                      have g : sm_get lv' a = some (.int ((fun j : Nat => if j = a then y else z) a)) := g
                      rw [xa] at g
                      exact ihw h2 u0 hu0 lv' st' h' y p1 p2 g o4
                    · unfold ac_tb at hu
                      cases hb : v.2 with
                      | none =>
                        rw [hb] at hu
                        exact absurd hu List.not_mem_nil
                      | some b =>
                        rw [hb] at hu
                        rcases List.mem_cons.mp hu with rfl | hu
                        · have g := (p3 (a, 0) List.mem_cons_self).1 rfl
                          have g : sm_get lv' a = some (.int ((fun j : Nat => if j = a then y else z) a)) := g
                          rw [xa] at g
                          obtain ⟨z', z1, z2⟩ := (p3 (b, 1) (List.mem_cons_of_mem _ List.mem_cons_self)).2.1 rfl
                          have z2 : z'.toInt = (if b = a then y else z).toInt + 1 := z2
                          have hba : b ≠ a := by
                            intro e
                            have z1 : sm_get lv' b = some (.int z') := z1
                            rw [e, g] at z1
                            cases z1
                            rw [if_pos e] at z2
                            omega
                          rw [if_neg hba] at z2
                          have hz0 := hz b hb
                          refine ihb z' (fun b' hb' => ?_) lv' st' h' y p1 p2 g o4 (fun b' hb' => ?_)
                          · omega
                          · have e := Option.some.inj (hb'.symm.trans hb)
                            rw [e]
                            exact z1
                        · exact absurd hu List.not_mem_nil
              · intro q hq
                unfold ac_ow at hq
                rcases List.mem_cons.mp hq with rfl | hq
                · refine ⟨fun _ => ?_, fun z => absurd (show (0 : Nat) = 1 from z) (by decide), fun z => absurd (show (0 : Nat) = 3 from z) (by decide)⟩
                  show sm_get lv a = some (.int (if a = a then y else z))
                  rw [if_pos rfl]
                  exact o3
                · cases hb : v.2 with
                  | none =>
                    rw [hb] at hq
                    exact absurd hq List.not_mem_nil
                  | some b =>
                    rw [hb] at hq
                    rcases List.mem_cons.mp hq with rfl | hq
                    · refine ⟨fun _ => ?_, fun z => absurd (show (0 : Nat) = 1 from z) (by decide), fun z => absurd (show (0 : Nat) = 3 from z) (by decide)⟩
                      show sm_get lv b = some (.int (if b = a then y else z))
                      by_cases e : b = a
                      · rw [if_pos e, e]
                        exact o3
                      · rw [if_neg e]
                        exact o5 b hb
                    · exact absurd hq List.not_mem_nil
          intro lv st h y o1 o2 o3 o4
          cases hb : v.2 with
          | none => exact own 0 0 (fun b z => by rw [hb] at z; cases z) lv st h y o1 o2 o3 o4 (fun b z => by rw [hb] at z; cases z)
          | some b =>
            rw [hb] at h5
            obtain ⟨z, hz⟩ := ac_in_s (show ac_in v.1.2 b = true from h5) o1.1
            have l := Int32.le_toInt z
            refine own 4294967296 z (fun b' _ => ?_) lv st h y o1 o2 o3 o4 (fun b' hb' => ?_)
            · omega
            · have e := Option.some.inj (hb'.symm.trans hb)
              rw [e]
              exact hz
        · exact ihw h2 v hv
    exact key all hg
theorem ac_ch_s (hcs : ∀ c ∈ cs, ak_ok Psi X c) (hwd : ∀ a, a ∈ wd → a ∈ c.2.2.2.1) (hPsi : ∀ (h : List va_E) (a : Nat) (e : va_E), a ∈ wd → Psi h → Psi (h.set a e)) {vs : List Value} {lv0 : sm_L} {h0 : List va_E}
    (hfz : ∀ (rs : List ar_R) (L : aw_L) (lv : sm_L), (∃ q ∈ c.2.2.2.2, q.1 = rs) → aw_l L lv → (∀ (j : Nat) (w : Value), j < nf → (w.category = 2 → j + 1 < nf) → sm_get lv0 j = some w → sm_get lv j = some w) → ai_rf (ai_sl c.2.1 0) rs L = true → ak_rf rs vs) {fuel : Nat} :
    ∀ (ns : List ac_I), ac_ch cs c B wd nf hd fk fuel ns = true → ∀ u ∈ ac_fl ns, ∀ (lv : sm_L) (st : List Value) (h : List va_E), aw_ok u.2 lv st h → ai_I c Psi nf lv0 h0 lv h → ai_G c B X Psi vs h0 u.1 lv st h := by
  intro ns
  induction ns with
  | nil => intro _ u hu; exact absurd hu List.not_mem_nil
  | cons u0 ns ih =>
    intro en u hu lv st h o1 o2
    cases u0 with
    | inl u1 =>
      obtain ⟨en1, en2⟩ := sm_an (show (ai_go cs c B wd nf hd fk (ac_fl ns) fuel true u1.1 u1.2 && ac_ch cs c B wd nf hd fk fuel ns) = true from en)
      rcases List.mem_cons.mp hu with rfl | hu
      · exact ai_go_s hcs hwd hPsi hfz (ih en2) fuel true u.1 u.2 en1 lv st h o1 o2
      · exact ih en2 u hu lv st h o1 o2
    | inr g =>
      obtain ⟨a, dn, ws⟩ := g
      obtain ⟨en1, en2⟩ := sm_an (show (ac_gr cs c B wd nf hd fk fuel a dn (ac_fl ns) ws ws && ac_ch cs c B wd nf hd fk fuel ns) = true from en)
      rcases List.mem_append.mp (show u ∈ ws.map (fun v => v.1) ++ ac_fl ns from hu) with hu | hu
      · obtain ⟨v, hv, rfl⟩ := List.mem_map.mp hu
        have ain : ∀ ws' : List ac_N, ac_gr cs c B wd nf hd fk fuel a dn (ac_fl ns) ws ws' = true → ∀ v ∈ ws', ac_in v.1.2 a = true := by
          intro ws'
          induction ws' with
          | nil => intro _ v hv; exact absurd hv List.not_mem_nil
          | cons w r ihr =>
            intro hw v hv
            obtain ⟨w1, w2⟩ := sm_an hw
            rcases List.mem_cons.mp hv with rfl | hv
            · exact (sm_an w1).1
            · exact ihr w2 v hv
        obtain ⟨y, hy⟩ := ac_in_s (ain ws en1 v hv) o1.1
        have l := (ac_mu_b dn y).2
        exact ac_gr_s hcs hwd hPsi hfz (ih en2) en1 4294967296 v hv lv st h y o1 o2 hy (by omega)
      · exact ih en2 u hu lv st h o1 o2
def ai_ch2 (cs : List ak_C) (c : ak_C) (B : sm_P) (wd : List Nat) (nL nf : Nat) (hd : List Nat) (fk : List (Nat × aw_G × Int × Nat)) (fuel : Nat) (us : List ac_I) : Bool := (wd.all fun a => decide (a ∈ c.2.2.2.1) && !decide (a ∈ ai_pc)) && (decide (ai_n c.2.1 0 ≤ nL) && ((decide (nf = 0 ∨ nf = ai_n c.2.1 0) && (decide (nf = ai_n c.2.1 0) || c.2.2.2.2.all fun q => q.1.all fun r => r.isEmpty)) && ac_ch cs c B wd nf hd fk fuel (.inl (0, ai_lv c.2.1 0, [], c.2.2.1) :: us)))
theorem ai_ch2_s {NM d fuel : Nat} {ML : Nat → Nat} {BB : Nat → sm_P} {us : List ac_I} (hk : c.1 < NM) (hcs : ∀ c' ∈ cs, ak_ok Psi (sm_Ex NM ML BB d) c') (hPsi : ∀ (h : List va_E) (a : Nat) (e : va_E), a ∉ ai_pc → Psi h → Psi (h.set a e)) (e : ai_ch2 cs c (BB c.1) wd (ML c.1) nf hd fk fuel us = true) : ak_ok Psi (sm_Ex NM ML BB (d + 1)) c := by
  obtain ⟨e0, e⟩ := sm_an e
  have hw : ∀ a ∈ wd, a ∈ c.2.2.2.1 ∧ a ∉ ai_pc := by
    intro a ha
    obtain ⟨w1, w2⟩ := sm_an (List.all_eq_true.mp e0 a ha)
    exact ⟨of_decide_eq_true w1, by simpa using w2⟩
  obtain ⟨e1, e⟩ := sm_an e
  obtain ⟨e2, e⟩ := sm_an e
  obtain ⟨e2, e3⟩ := sm_an e2
  have e1 := of_decide_eq_true e1
  have e2 := of_decide_eq_true e2
  intro vs h0 hvs hH hp
  obtain ⟨n1, n2⟩ := ai_n_s (i := 0) hvs
  have hfz : ∀ (rs : List ar_R) (L : aw_L) (lv : sm_L), (∃ q ∈ c.2.2.2.2, q.1 = rs) → aw_l L lv → (∀ (j : Nat) (w : Value), j < nf → (w.category = 2 → j + 1 < nf) → sm_get (lv_args 0 vs) j = some w → sm_get lv j = some w) → ai_rf (ai_sl c.2.1 0) rs L = true → ak_rf rs vs := by
    intro rs L lv hq hL hfr hh
    rcases (Bool.or_eq_true _ _).mp e3 with e3 | e3
    · have e3 := of_decide_eq_true e3
      refine ai_rf_s hL hvs (fun j w hm => ?_) hh
      have := n2 j w hm
      rw [← e3] at this
      exact hfr j w this.1 this.2 (ai_get hm)
    · obtain ⟨q, hq, rfl⟩ := hq
      exact ai_rf_0 (List.all_eq_true.mp e3 q hq)
  have entry : aw_ok (ai_lv c.2.1 0, [], c.2.2.1) (lv_args 0 vs) [] h0 := by
    refine ⟨fun q hq => ?_, trivial, hH⟩
    obtain ⟨w, h1, h2⟩ := ai_lv_s hvs q hq
    exact ⟨w, ai_get h1, h2⟩
  obtain ⟨f, o, h', g1, g2, g3, g4⟩ := ac_ch_s (X := sm_Ex NM ML BB d) hcs (fun a ha => (hw a ha).1) (fun h a e ha => hPsi h a e (hw a ha).2) hfz _ e (0, ai_lv c.2.1 0, [], c.2.2.1) (show _ ∈ (0, ai_lv c.2.1 0, [], c.2.2.1) :: ac_fl us from List.mem_cons_self) (lv_args 0 vs) [] h0 entry ⟨fun _ _ => rfl, hp, fun _ _ _ _ z => z⟩
  exact ⟨o, h', ⟨hk, by omega, f, g1⟩, g2, g3, g4⟩
end ACG
theorem ai_ok2 {Psi : List va_E → Prop} {cs : List ak_C} {c : ak_C} {B : sm_P} {wd : List Nat} {nL nf d fuel : Nat} {hd : List Nat} {fk : List (Nat × aw_G × Int × Nat)} {us : List ac_I} (hk : Nat.blt c.1 200 = true) (hB : sm_B c.1 = B) (hL : sm_ML c.1 = nL) (hP : ∀ (h : List va_E) (a : Nat) (e : va_E), a ∉ ai_pc → Psi h → Psi (h.set a e)) (hcs : ∀ c' ∈ cs, ak_ok Psi (sm_Ex 200 sm_ML sm_B d) c') (e : ai_ch2 cs c B wd nL nf hd fk fuel us = true) : ak_ok Psi (sm_Ex 200 sm_ML sm_B (d + 1)) c := by
  subst hB
  subst hL
  exact ai_ch2_s (Nat.le_of_ble_eq_true hk) hcs hP e
