/-! The class' copy by hand. -/
theorem hd_call {Psi : List va_E → Prop} {X : sm_X} {c : ak_C} {H : aw_H} {WR : List Nat} (hc : ak_ok Psi X c) (h1 : ah_sub H c.2.2.1 = true) (h2 : (c.2.2.2.2.all fun q => ah_sub (ak_hp c.2.2.2.1 q.2.2 H) H) = true) (h3 : (c.2.2.2.1.all fun a => decide (a ∈ WR)) = true) {vs : List Value} {h : List va_E} (hv : ak_as c.2.1 vs) (hh : aw_h H h) (hp : Psi h) : ∃ o h', X c.1 vs h o h' ∧ Psi h' ∧ aw_h H h' ∧ (∀ a, a ∉ WR → h'[a]? = h[a]?) ∧ ∃ q ∈ c.2.2.2.2, ak_rf q.1 vs ∧ ak_res q.2.1 o := by
  obtain ⟨o, h', x1, x2, x3, q, hq, q1, q2, q3⟩ := hc vs h hv (ah_sub_s h1 hh) hp
  have h3 : ∀ a ∈ c.2.2.2.1, a ∈ WR := fun a ha => of_decide_eq_true (List.all_eq_true.mp h3 a ha)
  exact ⟨o, h', x1, x2, ah_sub_s (List.all_eq_true.mp h2 q hq) (ak_hp_s hh q3 x3), fun a ha => x3 a (fun z => ha (h3 a z)), q, hq, q1, q2⟩
section HANDC
variable {B : sm_P} {X : sm_X} {P : Option Value → List va_E → Prop} {pc : Nat} {lv : sm_L} {h : List va_E}
theorem sm_go_aa {a n t b : Nat} {f : Nat → Option Nat} {i : Int32} {r : List Value} (hi : B.1 pc = some (.aaload, 1)) (he : h[a]? = some (.inl (t, n, .inr (.inr (.inr (.inr f)))))) (ht : 2 ≤ t ∧ t < 5) (hin : ¬ (i < 0 ∨ n ≤ i.toNatClampNeg)) (hb : f i.toNatClampNeg = some b) (k : sm_Go B X P (pc + 1) lv (.ref b :: r) h) : sm_Go B X P pc lv (.int i :: .ref a :: r) h := by
  refine sm_go_st (t := (pc + 1, lv, .ref b :: r, h)) hi ?_ k
  have hr : sm_refs h a = some (t, n, f) := by unfold sm_refs; rw [he]; exact if_pos ht
  show (sm_refs h a).bind _ = _
  rw [hr]
  show (if i < 0 ∨ n ≤ i.toNatClampNeg then _ else _) = _
  rw [if_neg hin]
  show (f i.toNatClampNeg).bind _ = _
  rw [hb]
  rfl
theorem sm_go_ac {x a0 a n0 n1 : Nat} {f g : Nat → Int32} {sp dp k : Int32} (hi : B.1 pc = some (.invokestatic x, 3)) (hx : B.2.1.2.2.2.2.2.2 x = some 3) (h0 : h[a0]? = some (.inl (0, n0, .inl f))) (h1 : h[a]? = some (.inl (0, n1, .inl g))) (g1 : ¬ sp < 0) (g2 : ¬ dp < 0) (g3 : ¬ k < 0) (g4 : sp.toNatClampNeg + k.toNatClampNeg ≤ n0) (g5 : dp.toNatClampNeg + k.toNatClampNeg ≤ n1) (kk : sm_Go B X P (pc + 3) lv [] (h.set a (.inl (0, n1, .inl (va_cpy f g sp.toNatClampNeg dp.toNatClampNeg k.toNatClampNeg))))) : sm_Go B X P pc lv [.int k, .int dp, .ref a, .int sp, .ref a0] h := by
  refine sm_go_st (t := (pc + 3, lv, [], h.set a (.inl (0, n1, .inl (va_cpy f g sp.toNatClampNeg dp.toNatClampNeg k.toNatClampNeg))))) hi ?_ kk
  show (B.2.1.2.2.2.2.2.2 x).bind _ = _
  rw [hx]
  show (sm_ints h a0).bind _ = _
  rw [aw_ints_of h0]
  show (sm_ints h a).bind _ = _
  rw [aw_ints_of h1]
  exact if_pos ⟨by decide, g1, g2, g3, g4, g5⟩
end HANDC
def ib_B : sm_P := (fun pc => sm_ch sm_t9 pc, sm_Kn 2 3 none, fun x => sm_lk sm_ca2 x, some .boolean)
theorem cp_ib {d : Nat} (a b c : Int32) (h : List va_E) : ∃ r : Int32, sm_Ex 200 sm_ML sm_B (d + 1) 9 [.int a, .int b, .int c] h (some (.int r)) h ∧ (r.toInt = 0 → 0 ≤ a.toInt ∧ a.toInt ≤ (c - b).toInt) := by
  have run : sm_Go ib_B (sm_Ex 200 sm_ML sm_B d) (fun o h' => h' = h ∧ ∃ r : Int32, o = some (.int r) ∧ (r.toInt = 0 → 0 ≤ a.toInt ∧ a.toInt ≤ (c - b).toInt)) 0 [(0, .int a), (1, .int b), (2, .int c)] [] h := by
    have one : sm_Go ib_B (sm_Ex 200 sm_ML sm_B d) (fun o h' => h' = h ∧ ∃ r : Int32, o = some (.int r) ∧ (r.toInt = 0 → 0 ≤ a.toInt ∧ a.toInt ≤ (c - b).toInt)) 11 [(0, .int a), (1, .int b), (2, .int c)] [] h := by
      refine sm_go_st (i := .iconst 1) (n := 1) (t := (12, [(0, .int a), (1, .int b), (2, .int c)], [.int 1], h)) rfl rfl ?_
      refine sm_go_st (i := .goto 4) (n := 3) (t := (16, [(0, .int a), (1, .int b), (2, .int c)], [.int 1], h)) rfl rfl ?_
      exact sm_go_rt (o := some (.int 1)) (i := .ireturn) (n := 1) rfl ⟨rfl, Or.inl ⟨rfl, 1, rfl, rfl, Or.inr ⟨rfl, Or.inr rfl⟩⟩⟩ ⟨rfl, 1, rfl, fun z => absurd z (by decide)⟩
    refine sm_go_st (i := .iload_n 0) (n := 1) (t := (1, [(0, .int a), (1, .int b), (2, .int c)], [.int a], h)) rfl rfl ?_
    refine sm_go_if (t := 11) (q := .lt) (off := 10) rfl rfl (fun _ => one) (fun c1 => ?_)
    have c1 : ¬ a.toInt < 0 := c1
    refine sm_go_st (i := .iload_n 0) (n := 1) (t := (5, [(0, .int a), (1, .int b), (2, .int c)], [.int a], h)) rfl rfl ?_
    refine sm_go_st (i := .iload_n 2) (n := 1) (t := (6, [(0, .int a), (1, .int b), (2, .int c)], [.int c, .int a], h)) rfl rfl ?_
    refine sm_go_st (i := .iload_n 1) (n := 1) (t := (7, [(0, .int a), (1, .int b), (2, .int c)], [.int b, .int c, .int a], h)) rfl rfl ?_
    refine sm_go_st (i := .isub) (n := 1) (t := (8, [(0, .int a), (1, .int b), (2, .int c)], [.int (c - b), .int a], h)) rfl rfl ?_
    refine sm_go_ic (t := 15) (q := .le) (off := 7) rfl rfl (fun c2 => ?_) (fun _ => one)
    have c2 : a.toInt ≤ (c - b).toInt := c2
    refine sm_go_st (i := .iconst 0) (n := 1) (t := (16, [(0, .int a), (1, .int b), (2, .int c)], [.int 0], h)) rfl rfl ?_
    exact sm_go_rt (o := some (.int 0)) (i := .ireturn) (n := 1) rfl ⟨rfl, Or.inl ⟨rfl, 0, rfl, rfl, Or.inr ⟨rfl, Or.inl rfl⟩⟩⟩ ⟨rfl, 0, rfl, fun _ => ⟨by omega, c2⟩⟩
  obtain ⟨f, o, h', hr, rfl, r, rfl, hrr⟩ := run
  exact ⟨r, ⟨by decide, show (3 : Nat) ≤ sm_ML 9 by decide +kernel, f, hr⟩, hrr⟩
def cp_B : sm_P := (fun pc => sm_ch sm_t8 pc, sm_Kn 2 6 none, fun x => sm_lk sm_ca2 x, some .int)
def cp_H : aw_H := kcc9.2.2.1
theorem cp_main {h : List va_E} (hh : aw_h cp_H h) : ∃ fs, h[0]? = some (.inr (2, fs)) ∧ fs[0]? = some (.ref 1) ∧ fs[1]? = some (.ref 2) := by
  obtain ⟨e, he, fs, rfl, hl, hf⟩ := hh _ (aw_lk (show sm_lk cp_H 0 = some (.inl (2, [.inl 1, .inl 2, .inl 9, .inl 10, .inl 15, .inl 24, .inl 33, .inl 42, .inl 46, .inl 59, .inl 80, .inr (false, ar_t32), .inr (false, ar_t32), .inr (true, ar_t64), .inr (true, ar_t64)])) from rfl))
  have hl : fs.length = 15 := hl
  have h0 : 0 < fs.length := by omega
  have h1 : 1 < fs.length := by omega
  have a0 : fs[0] = .ref 1 := hf 0 (.inl 1) _ rfl (List.getElem?_eq_getElem h0)
  have a1 : fs[1] = .ref 2 := hf 1 (.inl 2) _ rfl (List.getElem?_eq_getElem h1)
  exact ⟨fs, he, by rw [List.getElem?_eq_getElem h0, a0], by rw [List.getElem?_eq_getElem h1, a1]⟩
theorem cp_sz {h : List va_E} (hh : aw_h cp_H h) : ∃ fz : Nat → Int32, h[1]? = some (.inl (0, 6, .inl fz)) ∧ ∀ j : Nat, j < 6 → -1 ≤ (fz j).toInt ∧ (fz j).toInt ≤ 40 := by
  obtain ⟨e, he, f, rfl, hs, -⟩ := hh _ (aw_lk (show sm_lk cp_H 1 = some (.inr (.inl (0, 6, [(0, 5, [(-1, 40)])], []))) from rfl))
  exact ⟨f, he, fun j hj => ar_1 (hs _ List.mem_cons_self j (Nat.zero_le _) (by show j ≤ 5; omega))⟩
theorem cp_rows {h : List va_E} (hh : aw_h cp_H h) : ∃ g : Nat → Option Nat, h[2]? = some (.inl (2, 6, .inr (.inr (.inr (.inr g))))) ∧ ∀ j : Nat, j < 6 → g j = some (3 + j) := by
  obtain ⟨e, he, -, -, g, rfl, hg⟩ := hh _ (aw_lk (show sm_lk cp_H 2 = some (.inr (.inr (.inl (2, [3, 4, 5, 6, 7, 8])))) from rfl))
  refine ⟨g, he, fun j hj => hg j (3 + j) ?_⟩
  rcases (show j = 0 ∨ j = 1 ∨ j = 2 ∨ j = 3 ∨ j = 4 ∨ j = 5 by omega) with rfl | rfl | rfl | rfl | rfl | rfl <;> rfl
theorem cp_row {h : List va_E} (hh : aw_h cp_H h) (j : Nat) (hj : j < 6) : ∃ f : Nat → Int32, h[3 + j]? = some (.inl (0, 40, .inl f)) := by
  have k : ∀ j : Nat, j < 6 → sm_lk cp_H (3 + j) = some (.inr (.inl (0, 40, [], []))) := by
    intro j hj
    rcases (show j = 0 ∨ j = 1 ∨ j = 2 ∨ j = 3 ∨ j = 4 ∨ j = 5 by omega) with rfl | rfl | rfl | rfl | rfl | rfl <;> rfl
  obtain ⟨e, he, f, rfl, -, -⟩ := hh _ (aw_lk (k j hj))
  exact ⟨f, he⟩
theorem cp_set {h : List va_E} (hh : aw_h cp_H h) (j : Nat) (hj : j < 6) (f : Nat → Int32) : aw_h cp_H (h.set (3 + j) (.inl (0, 40, .inl f))) := by
  obtain ⟨f0, hf0⟩ := cp_row hh j hj
  have hm : aw_h (cp_H.map fun q => if q.1 = 3 + j then (q.1, (fun _ => (.inr (.inl (0, 40, [], [])) : aw_A)) q.2) else q) (h.set (3 + j) (.inl (0, 40, .inl f))) := aw_h_map (a := 3 + j) (F := fun _ => .inr (.inl (0, 40, [], []))) hh (fun b hb => by rw [List.getElem?_set_ne (fun z => hb z.symm)]) (fun c _ e _ _ => ⟨_, sm_set_s hf0, f, rfl, fun q hq => absurd hq List.not_mem_nil, fun q hq => absurd hq List.not_mem_nil⟩)
  have e : (cp_H.map fun q => if q.1 = 3 + j then (q.1, (fun _ => (.inr (.inl (0, 40, [], [])) : aw_A)) q.2) else q) = cp_H := by
    rcases (show j = 0 ∨ j = 1 ∨ j = 2 ∨ j = 3 ∨ j = 4 ∨ j = 5 by omega) with rfl | rfl | rfl | rfl | rfl | rfl <;> rfl
  rw [e] at hm
  exact hm
/-- an end: the answer is one of three, the cells as they must be -/
theorem cp_end {vs : List Value} {h : List va_E} (hh : aw_h cp_H h) (r : Int32) (hr : r.toInt = -1 ∨ r.toInt = -3 ∨ r.toInt = 1) : ak_end kcc9 vs (some (.int r)) h := by
  have key : ∀ q ∈ kcc9.2.2.2.2, ah_sub cp_H q.2.2 = true ∧ q.1 = [] := by decide +kernel
  have res : kcc9.2.2.2.2.map (fun q => q.2.1) = [some (.inr (false, [(-1, -1)])), some (.inr (false, [(-3, -3)])), some (.inr (false, [(1, 1)]))] := rfl
  have pick : ∀ (z : Int), some (.inr (false, [(z, z)])) ∈ kcc9.2.2.2.2.map (fun q => q.2.1) → r.toInt = z → ak_end kcc9 vs (some (.int r)) h := by
    intro z hz hrz
    obtain ⟨q, hq, hqz⟩ := List.mem_map.mp hz
    obtain ⟨k1, k2⟩ := key q hq
    refine ⟨q, hq, ?_, ?_, ah_sub_s k1 hh⟩
    · rw [k2]
      unfold ak_rf
      trivial
    · rw [hqz]
      exact ⟨r, rfl, ar_o (by omega) (by omega)⟩
  rcases hr with hr | hr | hr
  · exact pick (-1) (by rw [res]; exact List.mem_cons_self) hr
  · exact pick (-3) (by rw [res]; exact List.mem_cons_of_mem _ List.mem_cons_self) hr
  · exact pick 1 (by rw [res]; exact List.mem_cons_of_mem _ (List.mem_cons_of_mem _ List.mem_cons_self)) hr
theorem cp_in {x : Int32} (h0 : 0 ≤ x.toInt) (h5 : x.toInt ≤ 5) : ¬ (x < 0 ∨ 6 ≤ x.toNatClampNeg) := aw_in6 (q := (x.toInt, x.toInt)) (n := 6) ⟨Int.le_refl _, Int.le_refl _⟩ h0 (by show x.toInt < ((6 : Nat) : Int); omega)
theorem cp_nl {x : Int32} (h0 : 0 ≤ x.toInt) : ¬ x < 0 := fun z => by have := Int32.lt_iff_toInt_lt.mp z; have z0 : (0 : Int32).toInt = 0 := rfl; omega
theorem cp_isno {d : Nat} (x : Int32) {h : List va_E} (hh : aw_h cp_H h) (hp : ps_h h) : ∃ (r : Int32) (h' : List va_E), sm_Ex 200 sm_ML sm_B (d + 1) 1 [.int x] h (some (.int r)) h' ∧ ps_h h' ∧ aw_h cp_H h' ∧ (∀ a : Nat, h'[a]? = h[a]?) ∧ (r.toInt = 0 → 0 ≤ x.toInt ∧ x.toInt ≤ 5) := by
  obtain ⟨o, h', x1, x2, x3, x4, q, hq, q1, q2⟩ := hd_call (WR := []) (H := cp_H) (ak_ok_le (d + 1) (by omega) (keo19 ps_P)) (by decide +kernel) (by decide +kernel) (by decide +kernel) (vs := [.int x]) ⟨⟨x, rfl, ar_in32 x⟩, trivial⟩ hh hp
  have hq : q ∈ [([[(-2147483648, -1), (6, 2147483647)]], some (.inr (false, [(1, 1)])), []), ([[(0, 5)]], some (.inr (false, [(0, 0)])), [])] := hq
  simp only [List.mem_cons, List.not_mem_nil, or_false] at hq
  rcases hq with rfl | rfl
  · cases o with
    | none => exact q2.elim
    | some v =>
      obtain ⟨r, rfl, hr⟩ := q2
      have hr := ar_1 hr
      exact ⟨r, h', x1, x2, x3, fun a => x4 a List.not_mem_nil, fun z => by omega⟩
  · cases o with
    | none => exact q2.elim
    | some v =>
      obtain ⟨r, rfl, hr⟩ := q2
      exact ⟨r, h', x1, x2, x3, fun a => x4 a List.not_mem_nil, fun _ => ar_1 (q1.1 rfl _ rfl)⟩
theorem cp_ref {d : Nat} (x : Int32) (hx : 1 ≤ x.toInt ∧ x.toInt ≤ 5) {h : List va_E} (hh : aw_h cp_H h) (hp : ps_h h) : ∃ (r : Int32) (h' : List va_E), sm_Ex 200 sm_ML sm_B (d + 1) 2 [.ref 0, .int x] h (some (.int r)) h' ∧ ps_h h' ∧ aw_h cp_H h' ∧ (∀ a : Nat, a ∉ [0, 80] → h'[a]? = h[a]?) ∧ r.toInt = -3 := by
  obtain ⟨o, h', x1, x2, x3, x4, q, hq, q1, q2⟩ := hd_call (WR := [0, 80]) (H := cp_H) (ak_ok_le (d + 1) (by omega) (keo20 ps_P)) (by decide +kernel) (by decide +kernel) (by decide +kernel) (vs := [.ref 0, .int x]) ⟨rfl, ⟨x, rfl, ar_o hx.1 hx.2⟩, trivial⟩ hh hp
  have e1 : ∀ q ∈ kec20.2.2.2.2, q.2.1 = some (.inr (false, [(-3, -3)])) := by decide +kernel
  rw [e1 q hq] at q2
  cases o with
  | none => exact q2.elim
  | some v =>
    obtain ⟨r, rfl, hr⟩ := q2
    have hr := ar_1 hr
    exact ⟨r, h', x1, x2, x3, x4, by omega⟩
theorem cp_obj {h : List va_E} (hh : aw_h cp_H h) : ∃ fs, sm_obj h 0 2 = some fs := by
  obtain ⟨fs, m0, -, -⟩ := cp_main hh
  exact ⟨fs, by unfold sm_obj; rw [m0]; exact if_pos rfl⟩
abbrev cp_Q (vs : List Value) (h0 : List va_E) : Option Value → List va_E → Prop := fun o h' => ps_h h' ∧ (∀ a, a ∉ kcc9.2.2.2.1 → h'[a]? = h0[a]?) ∧ ak_end kcc9 vs o h'
/-- a refusal: from the call of refuseBy on -/
theorem cp_no {d pc : Nat} {vs : List Value} {h0 h : List va_E} {lv : sm_L} (x : Int32) (hx : 1 ≤ x.toInt ∧ x.toInt ≤ 5) (hi : cp_B.1 pc = some (.invokevirtual 77, 3)) (hi2 : cp_B.1 (pc + 3) = some (.ireturn, 1)) (hh : aw_h cp_H h) (hp : ps_h h) (fr : ∀ a : Nat, a ∉ kcc9.2.2.2.1 → h[a]? = h0[a]?) : sm_Go cp_B (sm_Ex 200 sm_ML sm_B (d + 1)) (cp_Q vs h0) pc lv [.int x, .ref 0] h := by
  obtain ⟨r, h', x1, x2, x3, x4, x5⟩ := cp_ref (d := d) x hx hh hp
  obtain ⟨fs, hfs⟩ := cp_obj hh
  refine sm_go_cl (k := 2) (r := []) hi ⟨rfl, by decide, Or.inl ⟨77, 2, 0, [.int x], rfl, rfl, rfl, rfl, fs, hfs⟩⟩ x1 ?_
  refine sm_go_rt (o := some (.int r)) hi2 ⟨rfl, Or.inl ⟨rfl, r, rfl, rfl, Or.inl rfl⟩⟩ ⟨x2, fun a ha => ?_, cp_end x3 r (Or.inr (Or.inl x5))⟩
  have sub : ∀ b ∈ [0, 80], b ∈ kcc9.2.2.2.1 := by decide
  rw [x4 a (fun z => ha (sub a z))]
  exact fr a ha
set_option maxHeartbeats 4000000 in
theorem cp_ok : ak_ok ps_h (sm_Ex 200 sm_ML sm_B 3) kcc9 := by
  refine sm_hand (B := cp_B) (show (8 : Nat) < 200 by decide) rfl (by decide +kernel) ?_
  intro vs h hv hh hPs
  match vs, hv with
  | [v0, v1, v2, v3, v4, v5], hv =>
    obtain ⟨e0, e1, e2, e3, e4, e5, -⟩ := hv
    have e0 : v0 = .ref 0 := e0
    obtain ⟨r, rfl, -⟩ := sm_vi e1
    obtain ⟨i, rfl, -⟩ := sm_vi e2
    obtain ⟨t, rfl, -⟩ := sm_vi e3
    obtain ⟨j, rfl, -⟩ := sm_vi e4
    obtain ⟨n, rfl, -⟩ := sm_vi e5
    subst e0
    have hh : aw_h cp_H h := hh
    have bad : ∀ (h1 : List va_E) (lv : sm_L), aw_h cp_H h1 → ps_h h1 → (∀ a : Nat, h1[a]? = h[a]?) → sm_Go cp_B (sm_Ex 200 sm_ML sm_B 2) (cp_Q [.ref 0, .int r, .int i, .int t, .int j, .int n] h) 14 lv [] h1 := by
      intro h1 lv a1 a2 a3
      refine sm_go_st (i := .iconst (-1)) (n := 1) (t := (15, lv, [.int (-1)], h1)) rfl rfl ?_
      exact sm_go_rt (o := some (.int (-1))) (i := .ireturn) (n := 1) rfl ⟨rfl, Or.inl ⟨rfl, -1, rfl, rfl, Or.inl rfl⟩⟩ ⟨a2, fun a _ => a3 a, cp_end a1 (-1) (Or.inl rfl)⟩
    show sm_Go cp_B (sm_Ex 200 sm_ML sm_B 2) (cp_Q [.ref 0, .int r, .int i, .int t, .int j, .int n] h) 0 [(0, .ref 0), (1, .int r), (2, .int i), (3, .int t), (4, .int j), (5, .int n)] [] h
    refine sm_go_st (i := .iload_n 1) (n := 1) (t := (1, [(0, .ref 0), (1, .int r), (2, .int i), (3, .int t), (4, .int j), (5, .int n)], [.int r], h)) rfl rfl ?_
    obtain ⟨q1, h1, x1, y1, z1, f1, k1⟩ := cp_isno (d := 1) r hh hPs
    refine sm_go_cl (i := .invokestatic 73) (n := 3) (k := 1) (r := []) rfl ⟨rfl, by decide, Or.inr (Or.inl ⟨73, 2, rfl, rfl, rfl⟩)⟩ x1 ?_
    refine sm_go_if (t := 14) (q := .ne) (off := 10) rfl rfl (fun _ => bad h1 _ z1 y1 f1) (fun c1 => ?_)
    have c1 : ¬ ¬ q1.toInt = 0 := c1
    have hr := k1 (Classical.not_not.mp c1)
    refine sm_go_st (i := .iload_n 3) (n := 1) (t := (8, [(0, .ref 0), (1, .int r), (2, .int i), (3, .int t), (4, .int j), (5, .int n)], [.int t], h1)) rfl rfl ?_
    obtain ⟨q2, h2, x2, y2, z2, f2, k2⟩ := cp_isno (d := 1) t z1 y1
    refine sm_go_cl (i := .invokestatic 73) (n := 3) (k := 1) (r := []) rfl ⟨rfl, by decide, Or.inr (Or.inl ⟨73, 2, rfl, rfl, rfl⟩)⟩ x2 ?_
    have f2 : ∀ a : Nat, h2[a]? = h[a]? := fun a => (f2 a).trans (f1 a)
    refine sm_go_if (t := 16) (q := .eq) (off := 5) rfl rfl (fun c2 => ?_) (fun _ => bad h2 _ z2 y2 f2)
    have c2 : q2.toInt = 0 := c2
    have ht := k2 c2
    have fr : ∀ a : Nat, a ∉ kcc9.2.2.2.1 → h2[a]? = h[a]? := fun a _ => f2 a
    obtain ⟨fs, m0, m1, m2⟩ := cp_main z2
    obtain ⟨fz, p1, p2⟩ := cp_sz z2
    have inr := cp_in hr.1 hr.2
    have int := cp_in ht.1 ht.2
    have ir := aw_ix (i := r) hr.1
    have it := aw_ix (i := t) ht.1
    have sr := p2 r.toNatClampNeg (by omega)
    have stt := p2 t.toNatClampNeg (by omega)
    refine sm_go_st (i := .iload 5) (n := 2) (t := (18, [(0, .ref 0), (1, .int r), (2, .int i), (3, .int t), (4, .int j), (5, .int n)], [.int n], h2)) rfl rfl ?_
    refine sm_go_if (t := 27) (q := .ge) (off := 9) rfl rfl (fun c3 => ?_) (fun c3 => ?_)
    rotate_left
    · show sm_Go cp_B (sm_Ex 200 sm_ML sm_B 2) (cp_Q [.ref 0, .int r, .int i, .int t, .int j, .int n] h) 21 [(0, .ref 0), (1, .int r), (2, .int i), (3, .int t), (4, .int j), (5, .int n)] [] h2
      refine sm_go_st (i := .aload_n 0) (n := 1) (t := (22, [(0, .ref 0), (1, .int r), (2, .int i), (3, .int t), (4, .int j), (5, .int n)], [.ref 0], h2)) rfl rfl ?_
      refine sm_go_st (i := .iconst 5) (n := 1) (t := (23, [(0, .ref 0), (1, .int r), (2, .int i), (3, .int t), (4, .int j), (5, .int n)], [.int 5, .ref 0], h2)) rfl rfl ?_
      exact cp_no (d := 1) 5 (by decide) rfl rfl z2 y2 fr
    have c3 : 0 ≤ n.toInt := c3
    have no1 : sm_Go cp_B (sm_Ex 200 sm_ML sm_B 2) (cp_Q [.ref 0, .int r, .int i, .int t, .int j, .int n] h) 47 [(0, .ref 0), (1, .int r), (2, .int i), (3, .int t), (4, .int j), (5, .int n)] [] h2 := by
      refine sm_go_st (i := .aload_n 0) (n := 1) (t := (48, [(0, .ref 0), (1, .int r), (2, .int i), (3, .int t), (4, .int j), (5, .int n)], [.ref 0], h2)) rfl rfl ?_
      refine sm_go_st (i := .iconst 1) (n := 1) (t := (49, [(0, .ref 0), (1, .int r), (2, .int i), (3, .int t), (4, .int j), (5, .int n)], [.int 1, .ref 0], h2)) rfl rfl ?_
      exact cp_no (d := 1) 1 (by decide) rfl rfl z2 y2 fr
    refine sm_go_st (i := .aload_n 0) (n := 1) (t := (28, [(0, .ref 0), (1, .int r), (2, .int i), (3, .int t), (4, .int j), (5, .int n)], [.ref 0], h2)) rfl rfl ?_
    refine sm_go_gf (r := []) (v := .ref 1) rfl rfl m0 m1 ?_
    refine sm_go_st (i := .iload_n 1) (n := 1) (t := (32, [(0, .ref 0), (1, .int r), (2, .int i), (3, .int t), (4, .int j), (5, .int n)], [.int r, .ref 1], h2)) rfl rfl ?_
    refine sm_go_ia (r := []) rfl p1 (by decide) inr ?_
    refine sm_go_st (i := .iconst (-1)) (n := 1) (t := (34, [(0, .ref 0), (1, .int r), (2, .int i), (3, .int t), (4, .int j), (5, .int n)], [.int (-1), .int (fz r.toNatClampNeg)], h2)) rfl rfl ?_
    refine sm_go_ic (t := 47) (q := .eq) (off := 13) rfl rfl (fun _ => no1) (fun c4 => ?_)
    refine sm_go_st (i := .aload_n 0) (n := 1) (t := (38, [(0, .ref 0), (1, .int r), (2, .int i), (3, .int t), (4, .int j), (5, .int n)], [.ref 0], h2)) rfl rfl ?_
    refine sm_go_gf (r := []) (v := .ref 1) rfl rfl m0 m1 ?_
    refine sm_go_st (i := .iload_n 3) (n := 1) (t := (42, [(0, .ref 0), (1, .int r), (2, .int i), (3, .int t), (4, .int j), (5, .int n)], [.int t, .ref 1], h2)) rfl rfl ?_
    refine sm_go_ia (r := []) rfl p1 (by decide) int ?_
    refine sm_go_st (i := .iconst (-1)) (n := 1) (t := (44, [(0, .ref 0), (1, .int r), (2, .int i), (3, .int t), (4, .int j), (5, .int n)], [.int (-1), .int (fz t.toNatClampNeg)], h2)) rfl rfl ?_
    refine sm_go_ic (t := 53) (q := .ne) (off := 9) rfl rfl (fun c5 => ?_) (fun _ => no1)
    have no2 : sm_Go cp_B (sm_Ex 200 sm_ML sm_B 2) (cp_Q [.ref 0, .int r, .int i, .int t, .int j, .int n] h) 84 [(0, .ref 0), (1, .int r), (2, .int i), (3, .int t), (4, .int j), (5, .int n)] [] h2 := by
      refine sm_go_st (i := .aload_n 0) (n := 1) (t := (85, [(0, .ref 0), (1, .int r), (2, .int i), (3, .int t), (4, .int j), (5, .int n)], [.ref 0], h2)) rfl rfl ?_
      refine sm_go_st (i := .iconst 2) (n := 1) (t := (86, [(0, .ref 0), (1, .int r), (2, .int i), (3, .int t), (4, .int j), (5, .int n)], [.int 2, .ref 0], h2)) rfl rfl ?_
      exact cp_no (d := 1) 2 (by decide) rfl rfl z2 y2 fr
    refine sm_go_st (i := .iload_n 2) (n := 1) (t := (54, [(0, .ref 0), (1, .int r), (2, .int i), (3, .int t), (4, .int j), (5, .int n)], [.int i], h2)) rfl rfl ?_
    refine sm_go_st (i := .iload 5) (n := 2) (t := (56, [(0, .ref 0), (1, .int r), (2, .int i), (3, .int t), (4, .int j), (5, .int n)], [.int n, .int i], h2)) rfl rfl ?_
    refine sm_go_st (i := .aload_n 0) (n := 1) (t := (57, [(0, .ref 0), (1, .int r), (2, .int i), (3, .int t), (4, .int j), (5, .int n)], [.ref 0, .int n, .int i], h2)) rfl rfl ?_
    refine sm_go_gf (r := [.int n, .int i]) (v := .ref 1) rfl rfl m0 m1 ?_
    refine sm_go_st (i := .iload_n 1) (n := 1) (t := (61, [(0, .ref 0), (1, .int r), (2, .int i), (3, .int t), (4, .int j), (5, .int n)], [.int r, .ref 1, .int n, .int i], h2)) rfl rfl ?_
    refine sm_go_ia (r := [.int n, .int i]) rfl p1 (by decide) inr ?_
    obtain ⟨b1, u1, v1⟩ := cp_ib (d := 1) i n (fz r.toNatClampNeg) h2
    refine sm_go_cl (i := .invokestatic 88) (n := 3) (k := 9) (vs := [.int i, .int n, .int (fz r.toNatClampNeg)]) (r := []) rfl ⟨rfl, by decide, Or.inr (Or.inl ⟨88, 2, rfl, rfl, rfl⟩)⟩ u1 ?_
    refine sm_go_if (t := 84) (q := .ne) (off := 19) rfl rfl (fun _ => no2) (fun c6 => ?_)
    have c6 : ¬ ¬ b1.toInt = 0 := c6
    have w1 := v1 (Classical.not_not.mp c6)
    refine sm_go_st (i := .iload 4) (n := 2) (t := (70, [(0, .ref 0), (1, .int r), (2, .int i), (3, .int t), (4, .int j), (5, .int n)], [.int j], h2)) rfl rfl ?_
    refine sm_go_st (i := .iload 5) (n := 2) (t := (72, [(0, .ref 0), (1, .int r), (2, .int i), (3, .int t), (4, .int j), (5, .int n)], [.int n, .int j], h2)) rfl rfl ?_
    refine sm_go_st (i := .aload_n 0) (n := 1) (t := (73, [(0, .ref 0), (1, .int r), (2, .int i), (3, .int t), (4, .int j), (5, .int n)], [.ref 0, .int n, .int j], h2)) rfl rfl ?_
    refine sm_go_gf (r := [.int n, .int j]) (v := .ref 1) rfl rfl m0 m1 ?_
    refine sm_go_st (i := .iload_n 3) (n := 1) (t := (77, [(0, .ref 0), (1, .int r), (2, .int i), (3, .int t), (4, .int j), (5, .int n)], [.int t, .ref 1, .int n, .int j], h2)) rfl rfl ?_
    refine sm_go_ia (r := [.int n, .int j]) rfl p1 (by decide) int ?_
    obtain ⟨b2, u2, v2⟩ := cp_ib (d := 1) j n (fz t.toNatClampNeg) h2
    refine sm_go_cl (i := .invokestatic 88) (n := 3) (k := 9) (vs := [.int j, .int n, .int (fz t.toNatClampNeg)]) (r := []) rfl ⟨rfl, by decide, Or.inr (Or.inl ⟨88, 2, rfl, rfl, rfl⟩)⟩ u2 ?_
    refine sm_go_if (t := 90) (q := .eq) (off := 9) rfl rfl (fun c7 => ?_) (fun _ => no2)
    have c7 : b2.toInt = 0 := c7
    have w2 := v2 c7
    have n9 := n.toInt_lt
    have sb : ∀ x : Int32, -1 ≤ x.toInt → x.toInt ≤ 40 → (x - n).toInt = x.toInt - n.toInt := fun x a b => by
      rw [Int32.toInt_sub, Int.bmod_eq_of_le (by omega) (by omega)]
    rw [sb _ sr.1 sr.2] at w1
    rw [sb _ stt.1 stt.2] at w2
    obtain ⟨g, g0, g1⟩ := cp_rows z2
    obtain ⟨fa, ga⟩ := cp_row z2 r.toNatClampNeg (by omega)
    obtain ⟨fb, gb⟩ := cp_row z2 t.toNatClampNeg (by omega)
    refine sm_go_st (i := .aload_n 0) (n := 1) (t := (91, [(0, .ref 0), (1, .int r), (2, .int i), (3, .int t), (4, .int j), (5, .int n)], [.ref 0], h2)) rfl rfl ?_
    refine sm_go_gf (r := []) (v := .ref 2) rfl rfl m0 m2 ?_
    refine sm_go_st (i := .iload_n 1) (n := 1) (t := (95, [(0, .ref 0), (1, .int r), (2, .int i), (3, .int t), (4, .int j), (5, .int n)], [.int r, .ref 2], h2)) rfl rfl ?_
    refine sm_go_aa (r := []) rfl g0 (by decide) inr (g1 _ (by omega)) ?_
    refine sm_go_st (i := .iload_n 2) (n := 1) (t := (97, [(0, .ref 0), (1, .int r), (2, .int i), (3, .int t), (4, .int j), (5, .int n)], [.int i, .ref (3 + r.toNatClampNeg)], h2)) rfl rfl ?_
    refine sm_go_st (i := .aload_n 0) (n := 1) (t := (98, [(0, .ref 0), (1, .int r), (2, .int i), (3, .int t), (4, .int j), (5, .int n)], [.ref 0, .int i, .ref (3 + r.toNatClampNeg)], h2)) rfl rfl ?_
    refine sm_go_gf (r := [.int i, .ref (3 + r.toNatClampNeg)]) (v := .ref 2) rfl rfl m0 m2 ?_
    refine sm_go_st (i := .iload_n 3) (n := 1) (t := (102, [(0, .ref 0), (1, .int r), (2, .int i), (3, .int t), (4, .int j), (5, .int n)], [.int t, .ref 2, .int i, .ref (3 + r.toNatClampNeg)], h2)) rfl rfl ?_
    refine sm_go_aa (r := [.int i, .ref (3 + r.toNatClampNeg)]) rfl g0 (by decide) int (g1 _ (by omega)) ?_
    refine sm_go_st (i := .iload 4) (n := 2) (t := (105, [(0, .ref 0), (1, .int r), (2, .int i), (3, .int t), (4, .int j), (5, .int n)], [.int j, .ref (3 + t.toNatClampNeg), .int i, .ref (3 + r.toNatClampNeg)], h2)) rfl rfl ?_
    refine sm_go_st (i := .iload 5) (n := 2) (t := (107, [(0, .ref 0), (1, .int r), (2, .int i), (3, .int t), (4, .int j), (5, .int n)], [.int n, .int j, .ref (3 + t.toNatClampNeg), .int i, .ref (3 + r.toNatClampNeg)], h2)) rfl rfl ?_
    have xi := aw_ix (i := i) w1.1
    have xj := aw_ix (i := j) w2.1
    have xn := aw_ix (i := n) c3
    refine sm_go_ac rfl rfl ga gb (cp_nl w1.1) (cp_nl w2.1) (cp_nl c3) (by omega) (by omega) ?_
    generalize hg : h2.set (3 + t.toNatClampNeg) (.inl (0, 40, .inl (va_cpy fa fb i.toNatClampNeg j.toNatClampNeg n.toNatClampNeg))) = h3
    have z3 : aw_h cp_H h3 := by rw [← hg]; exact cp_set z2 _ (by omega) _
    have y3 : ps_h h3 := by
      rw [← hg]
      refine ps_P _ _ _ ?_ y2
      have k : ∀ b ∈ ai_pc, 9 < b := by decide
      intro z
      have := k _ z
      omega
    refine sm_go_st (i := .iconst 1) (n := 1) (t := (111, [(0, .ref 0), (1, .int r), (2, .int i), (3, .int t), (4, .int j), (5, .int n)], [.int 1], h3)) rfl rfl ?_
    refine sm_go_rt (o := some (.int 1)) (i := .ireturn) (n := 1) rfl ⟨rfl, Or.inl ⟨rfl, 1, rfl, rfl, Or.inl rfl⟩⟩ ⟨y3, fun a ha => ?_, cp_end z3 1 (Or.inr (Or.inr rfl))⟩
    have hne : 3 + t.toNatClampNeg ≠ a := by
      intro z
      apply ha
      rw [← z]
      rcases (show t.toNatClampNeg = 0 ∨ t.toNatClampNeg = 1 ∨ t.toNatClampNeg = 2 ∨ t.toNatClampNeg = 3 ∨ t.toNatClampNeg = 4 ∨ t.toNatClampNeg = 5 by omega) with q | q | q | q | q | q <;> rw [q] <;> decide
    rw [← hg, List.getElem?_set_ne hne]
    exact fr a ha
  | [], hv => exact hv.elim
  | [_], hv => exact hv.2.elim
  | [_, _], hv => exact hv.2.2.elim
  | [_, _, _], hv => exact hv.2.2.2.elim
  | [_, _, _, _], hv => exact hv.2.2.2.2.elim
  | [_, _, _, _, _], hv => exact hv.2.2.2.2.2.elim
  | _ :: _ :: _ :: _ :: _ :: _ :: _ :: _, hv => exact hv.2.2.2.2.2.2.elim

