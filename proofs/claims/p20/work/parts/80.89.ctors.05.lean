theorem si_wsk : ∀ k, k < 4 → ∀ w ∈ si_ws k, w ∈ sm_tb := by
  intro k hk w hw
  unfold si_ws at hw
  rcases List.mem_cons.mp hw with rfl | hw
  · match k, hk with
    | 0, _ => exact si_wk _ (List.mem_of_getElem? (i := 28) rfl)
    | 1, _ => exact si_wk _ (List.mem_of_getElem? (i := 29) rfl)
    | 2, _ => exact si_wk _ (List.mem_of_getElem? (i := 30) rfl)
    | 3, _ => exact si_wk _ (List.mem_of_getElem? (i := 31) rfl)
    | n + 4, h => omega
  · exact hw
theorem si_calB {R : Room} {s : State} {args : Array Value} {Ts : List Jvm.Cond} (hts : ∀ w ∈ Ts, w.before args s = true) (hTb : ∀ w ∈ sm_tb, w ∈ Ts) (hN : si_Ns s) {k : Nat} (hR : 2 ≤ k → 2 ≤ R.frames ∧ 200 ≤ R.locals) (hk : k < 4) : si_Cal R s args (sm_own k) (si_B k) := by
  have V : ∀ (j : Nat) (w : Jvm.Cond), si_wl[j]? = some w → w.before args s = true := fun j w h => hts w (hTb w (si_wk w (List.mem_of_getElem? h)))
  intro x k' h
  have h : si_sp k x = some (some k') := h
  unfold si_sp at h
  split at h
  · cases h
  · cases h
  · cases h
  · cases h
  · cases h
    obtain ⟨r1, r2⟩ := hR (by decide)
    exact ⟨by decide, by decide, rfl, V 23 _ rfl, Or.inl ⟨"MiceRegisters", va_cnB 0 hts (sm_good sm_tb_good hTb (si_wsk 1 (by decide))) rfl rfl rfl hN.1 (V 1 _ rfl) ⟨by decide, by decide, by decide⟩ ⟨r1, by show 8 + (1 + 11) + 100 ≤ R.locals; omega⟩⟩⟩
  · cases h
    obtain ⟨r1, r2⟩ := hR (by decide)
    exact ⟨by decide, by decide, rfl, V 22 _ rfl, Or.inl ⟨"MiceRegisters", va_cnB 0 hts (sm_good sm_tb_good hTb (si_wsk 0 (by decide))) rfl rfl rfl hN.2.1 (V 0 _ rfl) ⟨by decide, by decide, by decide⟩ ⟨r1, by show 8 + (1 + 11) + 100 ≤ R.locals; omega⟩⟩⟩
  · exact absurd hk (by decide)
  · exact absurd hk (by decide)
  · cases h
