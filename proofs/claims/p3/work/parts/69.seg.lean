/-! Nodes checked one by one, each with the contracts of the calls that it makes and the nodes that it comes to. -/
section ASEG
variable {c : ak_C} {B : sm_P} {X : sm_X} {Psi : List va_E → Prop} {wd hd : List Nat} {fk : List (Nat × aw_G × Int × Nat)} {fuel : Nat}
def as_1 (c : ak_C) (B : sm_P) (X : sm_X) (Psi : List va_E → Prop) (u : Nat × aw_S) : Prop := ∀ (vs : List Value) (h0 : List va_E) (lv : sm_L) (st : List Value) (h : List va_E), aw_ok u.2 lv st h → ai_I c Psi 0 [] h0 lv h → ai_G c B X Psi vs h0 u.1 lv st h
def as_W (c : ak_C) (B : sm_P) (X : sm_X) (Psi : List va_E → Prop) (ns : List (Nat × aw_S)) : Prop := ∀ u ∈ ns, as_1 c B X Psi u
theorem as_nil : as_W c B X Psi [] := fun _ hu => absurd hu List.not_mem_nil
theorem as_cons {u : Nat × aw_S} {ns : List (Nat × aw_S)} (h1 : as_1 c B X Psi u) (h2 : as_W c B X Psi ns) : as_W c B X Psi (u :: ns) := List.forall_mem_cons.mpr ⟨h1, h2⟩
theorem as_nd {cs : List ak_C} {ns : List (Nat × aw_S)} {u : Nat × aw_S} (hP : ∀ (h : List va_E) (a : Nat) (e : va_E), a ∉ ai_pc → Psi h → Psi (h.set a e)) (hw : (wd.all fun a => decide (a ∈ c.2.2.2.1) && !decide (a ∈ ai_pc)) = true) (hr : (c.2.2.2.2.all fun q => q.1.isEmpty) = true) (hcs : ∀ c' ∈ cs, ak_ok Psi X c') (hn : as_W c B X Psi ns) (e : ai_go cs c B wd 0 hd fk ns fuel true u.1 u.2 = true) : as_1 c B X Psi u := by
  have hw' : ∀ a ∈ wd, a ∈ c.2.2.2.1 ∧ a ∉ ai_pc := by
    intro a ha
    obtain ⟨w1, w2⟩ := sm_an (List.all_eq_true.mp hw a ha)
    exact ⟨of_decide_eq_true w1, by simpa using w2⟩
  intro vs h0 lv st h o1 o2
  have hfz : ∀ (rs : List ar_R) (L : aw_L) (lv : sm_L), (∃ q ∈ c.2.2.2.2, q.1 = rs) → aw_l L lv → (∀ (j : Nat) (w : Value), j < 0 → (w.category = 2 → j + 1 < 0) → sm_get [] j = some w → sm_get lv j = some w) → ai_rf (ai_sl c.2.1 0) rs L = true → ak_rf rs vs := by
    intro rs L lv hq _ _ _
    obtain ⟨q, hq, rfl⟩ := hq
    have e := List.all_eq_true.mp hr q hq
    rw [List.isEmpty_iff] at e
    rw [e]
    unfold ak_rf
    trivial
  exact ai_go_s hcs (fun a ha => (hw' a ha).1) (fun h a e ha => hP h a e (hw' a ha).2) hfz (fun u hu => hn u hu vs h0) fuel true u.1 u.2 e lv st h o1 o2
theorem as_ok {d : Nat} (hk : Nat.blt c.1 200 = true) (hB : sm_B c.1 = B) (hn : ai_n c.2.1 0 ≤ sm_ML c.1) (hs : as_1 c B (sm_Ex 200 sm_ML sm_B d) Psi (0, ai_lv c.2.1 0, [], c.2.2.1)) : ak_ok Psi (sm_Ex 200 sm_ML sm_B (d + 1)) c := by
  subst hB
  intro vs h0 hvs hH hp
  obtain ⟨n1, n2⟩ := ai_n_s (i := 0) hvs
  have entry : aw_ok (ai_lv c.2.1 0, [], c.2.2.1) (lv_args 0 vs) [] h0 := by
    refine ⟨fun q hq => ?_, trivial, hH⟩
    obtain ⟨w, h1, h2⟩ := ai_lv_s hvs q hq
    exact ⟨w, ai_get h1, h2⟩
  obtain ⟨f, o, h', g1, g2, g3, g4⟩ := hs vs h0 (lv_args 0 vs) [] h0 entry ⟨fun _ _ => rfl, hp, fun j _ hj => absurd hj (Nat.not_lt_zero _)⟩
  exact ⟨o, h', ⟨Nat.le_of_ble_eq_true hk, by omega, f, g1⟩, g2, g3, g4⟩
end ASEG
