/-! Both sides' public methods from any world of theirs, called with places of the script. -/
def lw_R (b : Bool) (o : Option Value) : Prop := ∃ w, o = some w ∧ w.category = (if b then 2 else 1)
def lr_r (b : Bool) (v : Option aw_V) : Bool := match v with
  | some (.inr (b', _)) => b == b'
  | _ => false
theorem lr_s {b : Bool} {v : Option aw_V} {o : Option Value} (h : lr_r b v = true) (hr : ak_res v o) : lw_R b o := by
  match v, h with
  | some (.inr (b', r)), h =>
    have e : b = b' := by simpa [lr_r] using h
    subst e
    cases o with
    | none => exact hr.elim
    | some w =>
      cases b with
      | false => obtain ⟨x, rfl, -⟩ := hr; exact ⟨_, rfl, rfl⟩
      | true => obtain ⟨x, rfl, -⟩ := hr; exact ⟨_, rfl, rfl⟩
/-- the script's places i + j, i + j + 1, .. -/
def la_vs (xs : Nat → Int32) (i : Nat) : Nat → Nat → List Value
  | 0, _ => []
  | n + 1, j => .int (xs (i + j)) :: la_vs xs i n (j + 1)
theorem la_len (xs : Nat → Int32) (i : Nat) : ∀ n j : Nat, (la_vs xs i n j).length = n
  | 0, _ => rfl
  | n + 1, j => by rw [la_vs, List.length_cons, la_len xs i n (j + 1)]
theorem la_as (xs : Nat → Int32) (i : Nat) : ∀ n j : Nat, ak_as (List.replicate n (.inr (false, ar_t32))) (la_vs xs i n j)
  | 0, _ => trivial
  | n + 1, j => ⟨⟨_, rfl, ar_in32 _⟩, la_as xs i n (j + 1)⟩
def kd_ok (b : Bool) (k : Nat) (S : List Nat) (vs : List Value) : Prop := ∀ h : List va_E, aw_h kw h → ps_h h → ∃ o h', sm_Ex 200 sm_ML sm_B 12 k vs h o h' ∧ ps_h h' ∧ (∀ a, 81 ≤ a ∨ a ∈ S → h'[a]? = h[a]?) ∧ aw_h kw h' ∧ lw_R b o
def md_ok (b : Bool) (k : Nat) (S : List Nat) (vs : List Value) : Prop := ∀ (m : Nat) (h : List va_E), m < 5 → aw_h (mwm m) h → ps_h h → ∃ o h', sm_Ex 200 sm_ML sm_B 12 k vs h o h' ∧ ps_h h' ∧ (∀ a, a < 81 ∨ a ∈ S → h'[a]? = h[a]?) ∧ (∃ m', m' < 5 ∧ aw_h (mwm m') h') ∧ lw_R b o
def lr_b (b : Bool) (c : ak_C) : Bool := c.2.2.2.2.all fun q => lr_r b q.2.1
def fr_b (S : List Nat) (c : ak_C) : Bool := S.all fun a => !decide (a ∈ c.2.2.2.1)
theorem fr_s {S : List Nat} {c : ak_C} (h : fr_b S c = true) : ∀ a ∈ S, a ∉ c.2.2.2.1 := fun a ha => by
  have e := List.all_eq_true.mp h a ha
  intro z
  rw [decide_eq_true z] at e
  cases e
theorem kd_c {S : List Nat} {c : ak_C} {d n i j : Nat} {b : Bool} {xs : Nat → Int32} (hc : ak_ok ps_h (sm_Ex 200 sm_ML sm_B d) c) (hd : d ≤ 12) (bb : (kg_b c && (lr_b b c && fr_b S c)) = true) (ha : c.2.1 = .inl 0 :: List.replicate n (.inr (false, ar_t32))) : kd_ok b c.1 S (.ref 0 :: la_vs xs i n j) := by
  obtain ⟨b1, b2⟩ := sm_an bb
  obtain ⟨b2, b3⟩ := sm_an b2
  intro h hk hp
  obtain ⟨o, h', x1, x2, x0, x3, x4, q, hq, q1, q2, q3⟩ := kg_go2 (ak_ok_le 12 hd hc) b1 hk hp (vs := .ref 0 :: la_vs xs i n j) (by rw [ha]; exact ⟨rfl, la_as xs i n j⟩)
  exact ⟨o, h', x1, x2, fun a ha => ha.elim (x3 a) (fun z => x0 a (fr_s b3 a z)), x4, lr_s (List.all_eq_true.mp b2 q hq) q2⟩
theorem mwm_G : ∀ m, m < 5 → ah_sub (mwm m) mwG = true := by decide +kernel
/-- a contract for the worlds W, mice m -/
def md_1 (b : Bool) (k n : Nat) (S : List Nat) (m : Nat) : Prop := ∃ (c : ak_C) (W : aw_H), c.1 = k ∧ ak_ok ps_h (sm_Ex 200 sm_ML sm_B 12) c ∧ fz_G k = true ∧ (mg_b W c && (lr_b b c && fr_b S c)) = true ∧ c.2.1 = .inl 81 :: List.replicate n (.inr (false, ar_t32)) ∧ ah_sub (mwm m) W = true
theorem md_c {b : Bool} {k n : Nat} {S : List Nat} (hc : ∀ m, m < 5 → md_1 b k n S m) {i j : Nat} {xs : Nat → Int32} : md_ok b k S (.ref 81 :: la_vs xs i n j) := by
  intro m h hm hI hp
  obtain ⟨c, W, rfl, hc, hk, bb, ha, hs⟩ := hc m hm
  obtain ⟨b1, b2⟩ := sm_an bb
  obtain ⟨b2, b3⟩ := sm_an b2
  obtain ⟨o, h', x1, x2, x0, x3, x4, q, hq, q1, q2, q3⟩ := mg_go2 hc hk b1 hI (ah_sub_s hs hI) hp (vs := .ref 81 :: la_vs xs i n j) (by rw [ha]; exact ⟨rfl, la_as xs i n j⟩)
  exact ⟨o, h', x1, x2, fun a ha => ha.elim (x3 a) (fun z => x0 a (fr_s b3 a z)), ⟨m, hm, x4⟩, lr_s (List.all_eq_true.mp b2 q hq) q2⟩
theorem md_G {S : List Nat} {b : Bool} {c : ak_C} {d n : Nat} (hc : ak_ok ps_h (sm_Ex 200 sm_ML sm_B d) c) (hd : d ≤ 12) (hk : fz_G c.1 = true) (bb : (mg_b mwG c && (lr_b b c && fr_b S c)) = true) (ha : c.2.1 = .inl 81 :: List.replicate n (.inr (false, ar_t32))) : ∀ m, m < 5 → md_1 b c.1 n S m := fun m hm => ⟨c, mwG, rfl, ak_ok_le 12 hd hc, hk, bb, ha, mwm_G m hm⟩
def mwA : aw_H := mw [(0, 8)] [(0, 0)] []
def mwB : aw_H := mw [(1, 8)] [(1, 4)] []

