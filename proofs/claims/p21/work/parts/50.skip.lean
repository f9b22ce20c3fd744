theorem mo_set {ci k : Nat} {vs : List aw_V} {fs : List Value} {v : aw_V} {w : Value} (hl : fs.length = vs.length) (hf : ∀ (k : Nat) (v : aw_V) (w : Value), vs[k]? = some v → fs[k]? = some w → aw_m v w) (hm : aw_m v w) : aw_c (.inl (ci, vs.set k v)) (.inr (ci, fs.set k w)) := by
  refine ⟨_, rfl, by rw [List.length_set, List.length_set]; exact hl, fun j v' w' hv hw => ?_⟩
  by_cases hj : k = j
  · subst hj
    have h1 : k < fs.length := by
      have := (List.getElem?_eq_some_iff.mp hw).1
      rw [List.length_set] at this
      exact this
    rw [List.getElem?_set_self (by omega)] at hv
    rw [List.getElem?_set_self h1] at hw
    cases hv
    cases hw
    exact hm
  · rw [List.getElem?_set_ne hj] at hv hw
    exact hf j v' w' hv hw
theorem mo_get {vs : List aw_V} {fs : List Value} {k : Nat} {v : aw_V} (hl : fs.length = vs.length) (hf : ∀ (k : Nat) (v : aw_V) (w : Value), vs[k]? = some v → fs[k]? = some w → aw_m v w) (hv : vs[k]? = some v) : ∃ w, fs[k]? = some w ∧ aw_m v w := by
  have h1 : k < fs.length := by rw [hl]; exact (List.getElem?_eq_some_iff.mp hv).1
  exact ⟨_, List.getElem?_eq_getElem h1, hf k v _ hv (List.getElem?_eq_getElem h1)⟩
