def si_X0 : si_X := fun _ _ _ => none
def si_X1 : si_X := fun k a hh => if k < 2 then (si_rn (si_B k) si_X0 (si_stop k) (si_F k) 0 [(0, .ref a)] [] hh).map (fun q => q.2) else none
def si_X2 : si_X := fun k a hh => if k < 4 then (si_rn (si_B k) si_X1 (si_stop k) (si_F k) 0 [(0, .ref a)] [] hh).map (fun q => q.2) else none
theorem si_x1 {l : Launch} {D : va_G} {cid : Nat → ClassId} : ∀ k a hh hh' ad, si_X1 k a hh = some hh' → si_C l D cid ad k hh a hh' := by
  intro k a hh hh' ad h
  obtain ⟨hk, h⟩ := sm_if h
  obtain ⟨⟨lv, q⟩, hq, h⟩ := Option.map_eq_some_iff.mp h
  cases h
  exact si_met (by omega) (fun _ _ _ _ _ z => by cases z) hq
theorem si_x2 {l : Launch} {D : va_G} {cid : Nat → ClassId} : ∀ k a hh hh' ad, si_X2 k a hh = some hh' → si_C l D cid ad k hh a hh' := by
  intro k a hh hh' ad h
  obtain ⟨hk, h⟩ := sm_if h
  obtain ⟨⟨lv, q⟩, hq, h⟩ := Option.map_eq_some_iff.mp h
  cases h
  exact si_met hk si_x1 hq


