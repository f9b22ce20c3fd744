theorem mg_go2 {c : ak_C} {d : Nat} {W : aw_H} {li mi : ar_R} {te : List (Nat × Nat × ar_R)} (hc : ak_ok ps_h (sm_Ex 200 sm_ML sm_B d) c) (hk : fz_G c.1 = true) (b : mg_b W c = true) {h : List va_E} (hI : aw_h (mw li mi te) h) (hW : aw_h W h) (hp : ps_h h) {vs : List Value} (ha : ak_as c.2.1 vs) : ∃ o h', sm_Ex 200 sm_ML sm_B d c.1 vs h o h' ∧ ps_h h' ∧ (∀ a, a ∉ c.2.2.2.1 → h'[a]? = h[a]?) ∧ (∀ a, a < 81 → h'[a]? = h[a]?) ∧ aw_h (mw li mi te) h' ∧ ak_end c vs o h' := by
  obtain ⟨b1, b⟩ := sm_an b
  obtain ⟨b2, b3⟩ := sm_an b
  obtain ⟨o, h', x1, x2, x3, x4⟩ := hc vs h ha (ah_sub_s b1 hW) hp
  have w : ∀ a, a ∈ c.2.2.2.1 → 81 ≤ a ∧ a ≠ 86 := by
    intro a ha
    obtain ⟨w1, w2⟩ := sm_an (List.all_eq_true.mp b2 a ha)
    refine ⟨Nat.le_of_ble_eq_true w1, fun z => ?_⟩
    subst z
    cases w2
  refine ⟨o, h', x1, x2, x3, fun a ha => x3 a (fun z => by have := (w a z).1; omega), ?_, x4⟩
  obtain ⟨q, hq, q1, q2, q3⟩ := x4
  exact mw_keep hI (ah_sub_s (List.all_eq_true.mp b3 q hq) (ak_hp_s hW q3 x3)) (x3 86 (fun z => (w 86 z).2 rfl)) (fz_run _ _ _ _ _ _ hk x1)
theorem kg_go2 {c : ak_C} {d : Nat} (hc : ak_ok ps_h (sm_Ex 200 sm_ML sm_B d) c) (b : kg_b c = true) {h : List va_E} (hI : aw_h kw h) (hp : ps_h h) {vs : List Value} (ha : ak_as c.2.1 vs) : ∃ o h', sm_Ex 200 sm_ML sm_B d c.1 vs h o h' ∧ ps_h h' ∧ (∀ a, a ∉ c.2.2.2.1 → h'[a]? = h[a]?) ∧ (∀ a, 81 ≤ a → h'[a]? = h[a]?) ∧ aw_h kw h' ∧ ak_end c vs o h' := by
  obtain ⟨b1, b⟩ := sm_an b
  obtain ⟨b2, b3⟩ := sm_an b
  obtain ⟨o, h', x1, x2, x3, x4⟩ := hc vs h ha (ah_sub_s b1 hI) hp
  refine ⟨o, h', x1, x2, x3, fun a ha => x3 a (fun z => ?_), ?_, x4⟩
  · have := Nat.le_of_ble_eq_true (List.all_eq_true.mp b2 a z)
    omega
  · obtain ⟨q, hq, q1, q2, q3⟩ := x4
    exact ah_sub_s (List.all_eq_true.mp b3 q hq) (ak_hp_s hI q3 x3)
