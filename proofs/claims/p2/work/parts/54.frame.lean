/-! Only register writes how many lines and mice the reference has. -/
theorem ff_step {K : sm_K} {i : Instr} {n pc : Nat} {lv : sm_L} {st : List Value} {h : List va_E} {t : sm_T} (hs : sm_step K i n pc lv st h = some t) : t.2.2.2 = h ∨ (∃ a e e', h[a]? = some (.inl e) ∧ t.2.2.2 = h.set a (.inl e')) ∨ (∃ x a ci k ty v fs, i = .putfield x ∧ K.1 x = some (ci, k, ty) ∧ h[a]? = some (.inr (ci, fs)) ∧ t.2.2.2 = h.set a (.inr (ci, fs.set k v))) := by
  unfold sm_step at hs
  split at hs
  all_goals (try simp only [sm_i1, sm_i2, sm_l1, sm_l2, sm_r1, sm_ri, sm_rii, sm_c5, Option.bind] at hs)
  all_goals (repeat' (split at hs))
  all_goals (first | (cases hs; done) | skip)
  all_goals cases hs
  all_goals (first | exact Or.inl rfl | exact Or.inr (Or.inl ⟨_, _, _, sm_ints_s (by assumption), rfl⟩) | exact Or.inr (Or.inl ⟨_, _, _, sm_byts_s (by assumption), rfl⟩) | exact Or.inr (Or.inr ⟨_, _, _, _, _, _, _, rfl, by assumption, sm_obj_s (by assumption), rfl⟩))
/-- the reference's object keeps its lines and mice -/
def ff_R (h h' : List va_E) : Prop := ∀ fs, h[81]? = some (.inr (3, fs)) → ∃ fs', h'[81]? = some (.inr (3, fs')) ∧ fs'[1]? = fs[1]? ∧ fs'[4]? = fs[4]?
theorem ff_rf (h : List va_E) : ff_R h h := fun fs hf => ⟨fs, hf, rfl, rfl⟩
theorem ff_tr {h h1 h2 : List va_E} (a : ff_R h h1) (b : ff_R h1 h2) : ff_R h h2 := fun fs hf => by
  obtain ⟨f1, x1, x2, x3⟩ := a fs hf
  obtain ⟨f2, y1, y2, y3⟩ := b f1 x1
  exact ⟨f2, y1, y2.trans x2, y3.trans x3⟩
def ff_G (k : Nat) : Bool := !(Nat.beq k 129)
def ff_c (k : Nat) (i : Instr) : Bool := match i with
  | .putfield x => match sm_lk (sm_fl (sm_O k)) x with
    | some (ci, j, _) => !(Nat.beq ci 3 && (Nat.beq j 1 || Nat.beq j 4))
    | none => true
  | .invokevirtual x => match sm_lk (sm_ca (sm_O k)) x with
    | some (_, k', _) => ff_G k'
    | none => true
  | .invokestatic x => match sm_lk (sm_ca (sm_O k)) x with
    | some (_, k', _) => ff_G k'
    | none => true
  | _ => true
def ff_k (k : Nat) : Bool := (sm_tl.getD k []).all fun u => u.2.all fun q => ff_c k q.2.1
theorem ff_all : ((List.range 200).all fun k => !(ff_G k) || ff_k k) = true := by decide +kernel
theorem ff_in {k pc n : Nat} {i : Instr} (hk : k < 200) (hg : ff_G k = true) (hi : (sm_B k).1 pc = some (i, n)) : ff_c k i = true := by
  have h1 := List.all_eq_true.mp ff_all k (List.mem_range.mpr hk)
  rw [hg] at h1
  have h1 : ff_k k = true := h1
  obtain ⟨u, hu, hm⟩ := sm_ch_s hi
  exact List.all_eq_true.mp (List.all_eq_true.mp h1 u hu) _ hm
theorem ff_rn {k : Nat} (hk : k < 200) (hg : ff_G k = true) {X : sm_X} (hX : ∀ k' vs h o h', ff_G k' = true → X k' vs h o h' → ff_R h h') : ∀ (f pc : Nat) (lv : sm_L) (st : List Value) (h : List va_E) (o : Option Value) (h' : List va_E), sm_rn (sm_B k) X f pc lv st h o h' → ff_R h h' := by
  intro f
  induction f with
  | zero => intro pc lv st h o h' hr; exact hr.elim
  | succ f ih =>
    intro pc lv st h o h' hr
    obtain ⟨i, n, hi, hr⟩ := hr
    have hc := ff_in hk hg hi
    rcases hr with ⟨-, rfl⟩ | ⟨t, hs, hr⟩ | ⟨k', vs, r, o1, h1, hcl, hx, hr⟩
    · exact ff_rf _
    · refine ff_tr ?_ (ih _ _ _ _ _ _ hr)
      rcases ff_step hs with e | ⟨a, e, e', h1, h2⟩ | ⟨x, a, ci, j, ty, v, fs, rfl, h1, h2, h3⟩
      · rw [e]; exact ff_rf _
      · intro fs hf
        refine ⟨fs, ?_, rfl, rfl⟩
        rw [h2, List.getElem?_set_ne (fun z => by rw [z, hf] at h1; cases h1)]
        exact hf
      · have h1 : sm_lk (sm_fl (sm_O k)) x = some (ci, j, ty) := h1
        have hc : (match sm_lk (sm_fl (sm_O k)) x with
          | some (ci, j, _) => !(Nat.beq ci 3 && (Nat.beq j 1 || Nat.beq j 4))
          | none => true) = true := hc
        rw [h1] at hc
        dsimp only at hc
        intro fs0 hf
        by_cases ha : a = 81
        · subst ha
          rw [hf] at h2
          cases h2
          have hj : j ≠ 1 ∧ j ≠ 4 := by
            refine ⟨fun z => ?_, fun z => ?_⟩
            · subst z; exact absurd hc (by decide)
            · subst z; exact absurd hc (by decide)
          refine ⟨_, by rw [h3]; exact sm_set_s hf, ?_, ?_⟩
          · rw [List.getElem?_set_ne hj.1]
          · rw [List.getElem?_set_ne hj.2]
        · exact ⟨fs0, by rw [h3, List.getElem?_set_ne ha]; exact hf, rfl, rfl⟩
    · refine ff_tr (hX k' vs h o1 h1 ?_ hx) (ih _ _ _ _ _ _ hr)
      obtain ⟨-, -, hcl⟩ := hcl
      rcases hcl with ⟨x, ci, b, As, rfl, hca, -⟩ | ⟨x, ci, rfl, hca, -⟩ | ⟨x, ci, rfl, hca, -⟩
      all_goals
        have hca : sm_lk (sm_ca (sm_O k)) x = _ := hca
        have hc : (match sm_lk (sm_ca (sm_O k)) x with
          | some (_, k', _) => ff_G k'
          | none => true) = true := hc
        rw [hca] at hc
        exact hc
theorem ff_run : ∀ (d k : Nat) (vs : List Value) (h : List va_E) (o : Option Value) (h' : List va_E), ff_G k = true → sm_Ex 200 sm_ML sm_B d k vs h o h' → ff_R h h' := by
  intro d
  induction d with
  | zero => intro k vs h o h' _ hx; exact hx.elim
  | succ d ih =>
    intro k vs h o h' hg hx
    obtain ⟨hk, -, f, hr⟩ := hx
    exact ff_rn hk hg (fun k' vs h o h' a b => ih k' vs h o h' a b) f _ _ _ _ _ _ hr
