/-! Only register writes how many lines and mice the reference has. -/
theorem fz_if {α : Type} {c : Prop} [Decidable c] {a : Option α} {t : α} (h : (if c then a else none) = some t) : a = some t := by
  split at h
  · exact h
  · cases h
theorem fz_ifn {α : Type} {c : Prop} [Decidable c] {a : Option α} {t : α} (h : (if c then none else a) = some t) : a = some t := by
  split at h
  · cases h
  · exact h
theorem fz_iff {α : Type} {c : Prop} [Decidable c] {a b : Option α} {t : α} (h : (if c then a else b) = some t) : a = some t ∨ b = some t := by
  split at h
  · exact Or.inl h
  · exact Or.inr h
theorem fz_b {α β : Type} {x : Option α} {f : α → Option β} {t : β} (h : x.bind f = some t) : ∃ a, x = some a ∧ f a = some t := Option.bind_eq_some_iff.mp h
set_option maxHeartbeats 2000000 in
theorem fz_step {K : sm_K} {i : Instr} {n pc : Nat} {lv : sm_L} {st : List Value} {h : List va_E} {t : sm_T} (hs : sm_step K i n pc lv st h = some t) : t.2.2.2 = h ∨ (∃ a e e', h[a]? = some (.inl e) ∧ t.2.2.2 = h.set a (.inl e')) ∨ (∃ x a ci k ty v fs, i = .putfield x ∧ K.1 x = some (ci, k, ty) ∧ h[a]? = some (.inr (ci, fs)) ∧ t.2.2.2 = h.set a (.inr (ci, fs.set k v))) := by
  unfold sm_step at hs
  split at hs
  · have hs := fz_if hs
    cases hs
    exact Or.inl rfl
  · have hs := fz_if hs
    cases hs
    exact Or.inl rfl
  · have hs := fz_if hs
    cases hs
    exact Or.inl rfl
  · have hs := fz_if hs
    cases hs
    exact Or.inl rfl
  · have hs := fz_if hs
    obtain ⟨_, _, hs⟩ := fz_b hs
    cases hs
    exact Or.inl rfl
  · have hs := fz_if hs
    obtain ⟨_, _, hs⟩ := fz_b hs
    cases hs
    exact Or.inl rfl
  · have hs := fz_if hs
    obtain ⟨_, _, hs⟩ := fz_b hs
    cases hs
    exact Or.inl rfl
  · have hs := fz_if hs
    obtain ⟨_, _, hs⟩ := fz_b hs
    obtain ⟨_, _, -, hs⟩ := sm_i1_s hs
    cases hs
    exact Or.inl rfl
  · have hs := fz_if hs
    obtain ⟨_, _, hs⟩ := fz_b hs
    obtain ⟨_, _, -, hs⟩ := sm_i1_s hs
    cases hs
    exact Or.inl rfl
  · have hs := fz_if hs
    obtain ⟨_, _, hs⟩ := fz_b hs
    obtain ⟨_, _, -, hs⟩ := sm_l1_s hs
    cases hs
    exact Or.inl rfl
  · have hs := fz_if hs
    obtain ⟨_, _, hs⟩ := fz_b hs
    obtain ⟨_, _, -, hs⟩ := sm_l1_s hs
    cases hs
    exact Or.inl rfl
  · have hs := fz_if hs
    obtain ⟨_, _, hs⟩ := fz_b hs
    obtain ⟨_, _, -, hs⟩ := sm_r1_s hs
    cases hs
    exact Or.inl rfl
  · have hs := fz_if hs
    obtain ⟨_, _, hs⟩ := fz_b hs
    obtain ⟨_, _, -, hs⟩ := sm_r1_s hs
    cases hs
    exact Or.inl rfl
  · have hs := fz_if hs
    obtain ⟨_, _, -, hs⟩ := sm_i1_s hs
    cases hs
    exact Or.inl rfl
  · have hs := fz_if hs
    obtain ⟨_, _, -, hs⟩ := sm_i1_s hs
    cases hs
    exact Or.inl rfl
  · have hs := fz_if hs
    obtain ⟨_, _, -, hs⟩ := sm_l1_s hs
    cases hs
    exact Or.inl rfl
  · have hs := fz_if hs
    obtain ⟨_, _, -, hs⟩ := sm_l1_s hs
    cases hs
    exact Or.inl rfl
  · have hs := fz_if hs
    obtain ⟨_, _, -, hs⟩ := sm_r1_s hs
    cases hs
    exact Or.inl rfl
  · have hs := fz_if hs
    obtain ⟨_, _, -, hs⟩ := sm_r1_s hs
    cases hs
    exact Or.inl rfl
  · have hs := fz_if hs
    obtain ⟨_, _, hs⟩ := fz_b hs
    obtain ⟨_, _, -, hs⟩ := sm_i1_s hs
    cases hs
    exact Or.inl rfl
  · have hs := fz_if hs
    obtain ⟨_, _, _, -, hs⟩ := sm_i2_s hs
    cases hs
    exact Or.inl rfl
  · have hs := fz_if hs
    obtain ⟨_, _, _, -, hs⟩ := sm_i2_s hs
    cases hs
    exact Or.inl rfl
  · have hs := fz_if hs
    obtain ⟨_, _, _, -, hs⟩ := sm_i2_s hs
    cases hs
    exact Or.inl rfl
  · have hs := fz_if hs
    obtain ⟨_, _, _, -, hs⟩ := sm_i2_s hs
    cases hs
    exact Or.inl rfl
  · have hs := fz_if hs
    obtain ⟨_, _, _, -, hs⟩ := sm_i2_s hs
    cases hs
    exact Or.inl rfl
  · have hs := fz_if hs
    obtain ⟨_, _, _, -, hs⟩ := sm_i2_s hs
    cases hs
    exact Or.inl rfl
  · have hs := fz_if hs
    obtain ⟨_, _, _, -, hs⟩ := sm_i2_s hs
    have hs := fz_ifn hs
    cases hs
    exact Or.inl rfl
  · have hs := fz_if hs
    obtain ⟨_, _, _, -, hs⟩ := sm_i2_s hs
    have hs := fz_ifn hs
    cases hs
    exact Or.inl rfl
  · have hs := fz_if hs
    obtain ⟨_, _, -, hs⟩ := sm_i1_s hs
    cases hs
    exact Or.inl rfl
  · have hs := fz_if hs
    obtain ⟨_, _, _, -, hs⟩ := sm_i2_s hs
    cases hs
    exact Or.inl rfl
  · have hs := fz_if hs
    obtain ⟨_, _, _, -, hs⟩ := sm_i2_s hs
    cases hs
    exact Or.inl rfl
  · have hs := fz_if hs
    obtain ⟨_, _, _, -, hs⟩ := sm_l2_s hs
    cases hs
    exact Or.inl rfl
  · have hs := fz_if hs
    obtain ⟨_, _, _, -, hs⟩ := sm_l2_s hs
    cases hs
    exact Or.inl rfl
  · have hs := fz_if hs
    obtain ⟨_, _, _, -, hs⟩ := sm_l2_s hs
    have hs := fz_ifn hs
    cases hs
    exact Or.inl rfl
  · have hs := fz_if hs
    obtain ⟨_, _, _, -, hs⟩ := sm_l2_s hs
    have hs := fz_ifn hs
    cases hs
    exact Or.inl rfl
  · have hs := fz_if hs
    obtain ⟨_, _, _, -, hs⟩ := sm_l2_s hs
    cases hs
    exact Or.inl rfl
  · have hs := fz_if hs
    obtain ⟨_, _, -, hs⟩ := sm_i1_s hs
    cases hs
    exact Or.inl rfl
  · have hs := fz_if hs
    obtain ⟨_, _, -, hs⟩ := sm_l1_s hs
    cases hs
    exact Or.inl rfl
  · have hs := fz_if hs
    obtain ⟨_, _, -, hs⟩ := sm_i1_s hs
    cases hs
    exact Or.inl rfl
  · have hs := fz_if hs
    obtain ⟨_, _, hs⟩ := fz_b hs
    cases hs
    exact Or.inl rfl
  · have hs := fz_if hs
    obtain ⟨_, _, hs⟩ := fz_b hs
    obtain ⟨_, _, -, hs⟩ := sm_i1_s hs
    cases hs
    exact Or.inl rfl
  · have hs := fz_if hs
    obtain ⟨_, _, hs⟩ := fz_b hs
    obtain ⟨_, _, _, -, hs⟩ := sm_i2_s hs
    cases hs
    exact Or.inl rfl
  · obtain ⟨_, _, -, hs⟩ := sm_i1_s hs
    rcases fz_iff hs with hs | hs
    · obtain ⟨_, _, hs⟩ := fz_b hs
      cases hs
      exact Or.inl rfl
    · obtain ⟨_, _, hs⟩ := fz_b hs
      obtain ⟨_, _, hs⟩ := fz_b hs
      cases hs
      exact Or.inl rfl
  · have hs := fz_if hs
    cases hs
    exact Or.inl rfl
  · have hs := fz_if hs
    obtain ⟨_, _, -, hs⟩ := sm_r1_s hs
    obtain ⟨_, ek, hs⟩ := fz_b hs
    obtain ⟨_, eo, hs⟩ := fz_b hs
    obtain ⟨_, _, hs⟩ := fz_b hs
    cases hs
    exact Or.inl rfl
  · have hs := fz_if hs
    obtain ⟨_, _, -, hs⟩ := sm_r1_s hs
    split at hs
    · rcases fz_iff hs with hs | hs
      · cases hs
        exact Or.inl rfl
      · obtain ⟨_, _, hs⟩ := fz_b hs
        cases hs
        exact Or.inl rfl
    · obtain ⟨_, _, hs⟩ := fz_b hs
      cases hs
      exact Or.inl rfl
  · have hs := fz_if hs
    obtain ⟨_, _, _, -, hs⟩ := sm_ri_s hs
    rcases fz_iff hs with hs | hs
    · have hs := fz_ifn hs
      cases hs
      exact Or.inl rfl
    · rcases fz_iff hs with hs | hs
      · obtain ⟨_, _, hs⟩ := fz_b hs
        have hs := fz_ifn hs
        cases hs
        exact Or.inl rfl
      · obtain ⟨_, ea, hs⟩ := fz_b hs
        have hs := fz_ifn hs
        cases hs
        exact Or.inl rfl
  · have hs := fz_if hs
    obtain ⟨_, _, _, -, hs⟩ := sm_ri_s hs
    obtain ⟨_, ea, hs⟩ := fz_b hs
    have hs := fz_ifn hs
    cases hs
    exact Or.inl rfl
  · have hs := fz_if hs
    obtain ⟨_, _, _, -, hs⟩ := sm_ri_s hs
    obtain ⟨_, _, hs⟩ := fz_b hs
    have hs := fz_ifn hs
    obtain ⟨_, _, hs⟩ := fz_b hs
    cases hs
    exact Or.inl rfl
  · have hs := fz_if hs
    obtain ⟨_, _, _, _, -, hs⟩ := sm_rii_s hs
    obtain ⟨_, ea, hs⟩ := fz_b hs
    have hs := fz_ifn hs
    cases hs
    exact Or.inr (Or.inl ⟨_, _, _, sm_ints_s ea, rfl⟩)
  · have hs := fz_if hs
    obtain ⟨_, _, _, _, -, hs⟩ := sm_rii_s hs
    obtain ⟨_, ea, hs⟩ := fz_b hs
    have hs := fz_ifn hs
    cases hs
    exact Or.inr (Or.inl ⟨_, _, _, sm_byts_s ea, rfl⟩)
  · have hs := fz_if hs
    split at hs
    · obtain ⟨_, ek, hs⟩ := fz_b hs
      have hs := fz_if hs
      obtain ⟨_, eo, hs⟩ := fz_b hs
      have hs := fz_if hs
      cases hs
      exact Or.inr (Or.inr ⟨_, _, _, _, _, _, _, rfl, ek, sm_obj_s eo, rfl⟩)
    · obtain ⟨_, ek, hs⟩ := fz_b hs
      have hs := fz_if hs
      obtain ⟨_, eo, hs⟩ := fz_b hs
      have hs := fz_if hs
      cases hs
      exact Or.inr (Or.inr ⟨_, _, _, _, _, _, _, rfl, ek, sm_obj_s eo, rfl⟩)
    · cases hs
  · have hs := fz_if hs
    split at hs
    · have hs := fz_if hs
      cases hs
      exact Or.inl rfl
    · cases hs
  · have hs := fz_if hs
    split at hs
    · have hs := fz_if hs
      cases hs
      exact Or.inl rfl
    · cases hs
  · have hs := fz_if hs
    split at hs
    · have hs := fz_if hs
      cases hs
      exact Or.inl rfl
    · cases hs
  · have hs := fz_if hs
    split at hs
    · have hs := fz_if hs
      cases hs
      exact Or.inl rfl
    · cases hs
  · have hs := fz_if hs
    obtain ⟨_, _, hs⟩ := fz_b hs
    split at hs
    · obtain ⟨_, _, _, -, hs⟩ := sm_i2_s hs
      have hs := fz_if hs
      cases hs
      exact Or.inl rfl
    · obtain ⟨_, _, _, -, hs⟩ := sm_i2_s hs
      have hs := fz_if hs
      cases hs
      exact Or.inl rfl
    · obtain ⟨_, _, -, hs⟩ := sm_i1_s hs
      have hs := fz_if hs
      cases hs
      exact Or.inl rfl
    · obtain ⟨_, _, _, _, _, _, -, hs⟩ := sm_c5_s hs
      obtain ⟨_, _, hs⟩ := fz_b hs
      obtain ⟨_, ea, hs⟩ := fz_b hs
      have hs := fz_if hs
      cases hs
      exact Or.inr (Or.inl ⟨_, _, _, sm_ints_s ea, rfl⟩)
    · cases hs
  · cases hs
/-- the reference's object keeps its lines and mice -/
def fz_R (h h' : List va_E) : Prop := ∀ fs, h[81]? = some (.inr (3, fs)) → ∃ fs', h'[81]? = some (.inr (3, fs')) ∧ fs'[1]? = fs[1]? ∧ fs'[4]? = fs[4]?
theorem fz_rf (h : List va_E) : fz_R h h := fun fs hf => ⟨fs, hf, rfl, rfl⟩
theorem fz_tr {h h1 h2 : List va_E} (a : fz_R h h1) (b : fz_R h1 h2) : fz_R h h2 := fun fs hf => by
  obtain ⟨f1, x1, x2, x3⟩ := a fs hf
  obtain ⟨f2, y1, y2, y3⟩ := b f1 x1
  exact ⟨f2, y1, y2.trans x2, y3.trans x3⟩
def fz_G (k : Nat) : Bool := !(Nat.beq k 129)
def fz_c (k : Nat) (i : Instr) : Bool := match i with
  | .putfield x => match sm_lk (sm_fl (sm_O k)) x with
    | some (ci, j, _) => !(Nat.beq ci 3 && (Nat.beq j 1 || Nat.beq j 4))
    | none => true
  | .invokevirtual x => match sm_lk (sm_ca (sm_O k)) x with
    | some (_, k', _) => fz_G k'
    | none => true
  | .invokestatic x => match sm_lk (sm_ca (sm_O k)) x with
    | some (_, k', _) => fz_G k'
    | none => true
  | _ => true
def fz_k (k : Nat) : Bool := (sm_tl.getD k []).all fun u => u.2.all fun q => fz_c k q.2.1
theorem fz_all : ((List.range 200).all fun k => !(fz_G k) || fz_k k) = true := by decide +kernel
theorem fz_in {k pc n : Nat} {i : Instr} (hk : k < 200) (hg : fz_G k = true) (hi : (sm_B k).1 pc = some (i, n)) : fz_c k i = true := by
  have h1 := List.all_eq_true.mp fz_all k (List.mem_range.mpr hk)
  rw [hg] at h1
  have h1 : fz_k k = true := h1
  obtain ⟨u, hu, hm⟩ := sm_ch_s hi
  exact List.all_eq_true.mp (List.all_eq_true.mp h1 u hu) _ hm
theorem fz_rn {k : Nat} (hk : k < 200) (hg : fz_G k = true) {X : sm_X} (hX : ∀ k' vs h o h', fz_G k' = true → X k' vs h o h' → fz_R h h') : ∀ (f pc : Nat) (lv : sm_L) (st : List Value) (h : List va_E) (o : Option Value) (h' : List va_E), sm_rn (sm_B k) X f pc lv st h o h' → fz_R h h' := by
  intro f
  induction f with
  | zero => intro pc lv st h o h' hr; exact hr.elim
  | succ f ih =>
    intro pc lv st h o h' hr
    obtain ⟨i, n, hi, hr⟩ := hr
    have hc := fz_in hk hg hi
    rcases hr with ⟨-, rfl⟩ | ⟨t, hs, hr⟩ | ⟨k', vs, r, o1, h1, hcl, hx, hr⟩
    · exact fz_rf _
    · refine fz_tr ?_ (ih _ _ _ _ _ _ hr)
      rcases fz_step hs with e | ⟨a, e, e', h1, h2⟩ | ⟨x, a, ci, j, ty, v, fs, rfl, h1, h2, h3⟩
      · rw [e]; exact fz_rf _
      · intro fs hf
        refine ⟨fs, ?_, rfl, rfl⟩
        rw [h2, List.getElem?_set_ne (fun z => by rw [z, hf] at h1; cases h1)]
        exact hf
      · have h1 : sm_lk (sm_fl (sm_O k)) x = some (ci, j, ty) := h1
        have hc : (match sm_lk (sm_fl (sm_O k)) x with
          | some (ci, j, _) => !(Nat.beq ci 3 && (Nat.beq j 1 || Nat.beq j 4))
          | none => true) = true := hc
        rw [h1] at hc
        dsimp only at hc
        intro fs0 hf
        by_cases ha : a = 81
        · subst ha
          rw [hf] at h2
          cases h2
          have hj : j ≠ 1 ∧ j ≠ 4 := by
            refine ⟨fun z => ?_, fun z => ?_⟩
            · subst z; exact absurd hc (by decide)
            · subst z; exact absurd hc (by decide)
          refine ⟨_, by rw [h3]; exact sm_set_s hf, ?_, ?_⟩
          · rw [List.getElem?_set_ne hj.1]
          · rw [List.getElem?_set_ne hj.2]
        · exact ⟨fs0, by rw [h3, List.getElem?_set_ne ha]; exact hf, rfl, rfl⟩
    · refine fz_tr (hX k' vs h o1 h1 ?_ hx) (ih _ _ _ _ _ _ hr)
      obtain ⟨-, -, hcl⟩ := hcl
      rcases hcl with ⟨x, ci, b, As, rfl, hca, -⟩ | ⟨x, ci, rfl, hca, -⟩ | ⟨x, ci, rfl, hca, -⟩
      all_goals
        have hca : sm_lk (sm_ca (sm_O k)) x = _ := hca
        have hc : (match sm_lk (sm_ca (sm_O k)) x with
          | some (_, k', _) => fz_G k'
          | none => true) = true := hc
        rw [hca] at hc
        exact hc
theorem fz_run : ∀ (d k : Nat) (vs : List Value) (h : List va_E) (o : Option Value) (h' : List va_E), fz_G k = true → sm_Ex 200 sm_ML sm_B d k vs h o h' → fz_R h h' := by
  intro d
  induction d with
  | zero => intro k vs h o h' _ hx; exact hx.elim
  | succ d ih =>
    intro k vs h o h' hg hx
    obtain ⟨hk, -, f, hr⟩ := hx
    exact fz_rn hk hg (fun k' vs h o h' a b => ih k' vs h o h' a b) f _ _ _ _ _ _ hr

