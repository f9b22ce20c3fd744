/-! The reference's register: by hand to its place 37, from there on by its checks. -/
/-- cells that register leaves alone -/
def rg_lo (a : Nat) : Prop := a < 81 ∨ (87 ≤ a ∧ a ≤ 90)
theorem mg_go2 {c : ak_C} {d : Nat} {W : aw_H} {li mi : ar_R} {te : List (Nat × Nat × ar_R)} (hc : ak_ok ps_h (sm_Ex 200 sm_ML sm_B d) c) (hk : fz_G c.1 = true) (b : mg_b W c = true) {h : List va_E} (hI : aw_h (mw li mi te) h) (hW : aw_h W h) (hp : ps_h h) {vs : List Value} (ha : ak_as c.2.1 vs) : ∃ o h', sm_Ex 200 sm_ML sm_B d c.1 vs h o h' ∧ ps_h h' ∧ (∀ a, a ∉ c.2.2.2.1 → h'[a]? = h[a]?) ∧ (∀ a, a < 81 → h'[a]? = h[a]?) ∧ aw_h (mw li mi te) h' ∧ ak_end c vs o h' := by
  obtain ⟨b1, b⟩ := sm_an b
  obtain ⟨b2, b3⟩ := sm_an b
  obtain ⟨o, h', x1, x2, x3, x4⟩ := hc vs h ha (ah_sub_s b1 hW) hp
  have w : ∀ a, a ∈ c.2.2.2.1 → 81 ≤ a ∧ a ≠ 86 := by
    intro a ha
    obtain ⟨w1, w2⟩ := sm_an (List.all_eq_true.mp b2 a ha)
    refine ⟨Nat.le_of_ble_eq_true w1, fun z => ?_⟩
    subst z
    cases w2
  refine ⟨o, h', x1, x2, x3, fun a ha => x3 a (fun z => by have := (w a z).1; omega), ?_, x4⟩
  obtain ⟨q, hq, q1, q2, q3⟩ := x4
  exact mw_keep hI (ah_sub_s (List.all_eq_true.mp b3 q hq) (ak_hp_s hW q3 x3)) (x3 86 (fun z => (w 86 z).2 rfl)) (fz_run _ _ _ _ _ _ hk x1)
theorem kg_go2 {c : ak_C} {d : Nat} (hc : ak_ok ps_h (sm_Ex 200 sm_ML sm_B d) c) (b : kg_b c = true) {h : List va_E} (hI : aw_h kw h) (hp : ps_h h) {vs : List Value} (ha : ak_as c.2.1 vs) : ∃ o h', sm_Ex 200 sm_ML sm_B d c.1 vs h o h' ∧ ps_h h' ∧ (∀ a, a ∉ c.2.2.2.1 → h'[a]? = h[a]?) ∧ (∀ a, 81 ≤ a → h'[a]? = h[a]?) ∧ aw_h kw h' ∧ ak_end c vs o h' := by
  obtain ⟨b1, b⟩ := sm_an b
  obtain ⟨b2, b3⟩ := sm_an b
  obtain ⟨o, h', x1, x2, x3, x4⟩ := hc vs h ha (ah_sub_s b1 hI) hp
  refine ⟨o, h', x1, x2, x3, fun a ha => x3 a (fun z => ?_), ?_, x4⟩
  · have := Nat.le_of_ble_eq_true (List.all_eq_true.mp b2 a z)
    omega
  · obtain ⟨q, hq, q1, q2, q3⟩ := x4
    exact ah_sub_s (List.all_eq_true.mp b3 q hq) (ak_hp_s hI q3 x3)
/-- no cell of 87 to 90 -/
def rg_n (a : Nat) : Bool := Nat.ble 81 a && (Nat.blt a 87 || Nat.blt 90 a)
theorem rg_ns {a : Nat} (h : rg_n a = true) (ha : rg_lo a) : False := by
  obtain ⟨z1, z2⟩ := sm_an h
  have z1 := Nat.le_of_ble_eq_true z1
  rcases (Bool.or_eq_true _ _).mp z2 with z2 | z2
  · have z2 : a < 87 := Nat.le_of_ble_eq_true z2
    rcases ha with ha | ha <;> omega
  · have z2 : 90 < a := Nat.le_of_ble_eq_true z2
    rcases ha with ha | ha <;> omega
theorem hd_mem {α : Type} {l : List α} {x : α} (h : l.isEmpty = false) : l.headD x ∈ l := by
  cases l with
  | nil => cases h
  | cons a r => exact List.mem_cons_self
theorem ai_sfx {c : ak_C} {B : sm_P} {X : sm_X} {wd hd : List Nat} {fuel : Nat} {Psi : List va_E → Prop} (hP : ∀ (h : List va_E) (a : Nat) (e : va_E), a ∉ ai_pc → Psi h → Psi (h.set a e)) (hw : (wd.all fun a => decide (a ∈ c.2.2.2.1) && !decide (a ∈ ai_pc)) = true) (hr : (c.2.2.2.2.all fun q => q.1.isEmpty) = true) {vs : List Value} {h0 : List va_E} : ∀ (ns : List (Nat × aw_S)), ai_nds [] c B wd 0 hd [] fuel ns = true → ∀ u ∈ ns, ∀ (lv : sm_L) (st : List Value) (h : List va_E), aw_ok u.2 lv st h → ai_I c Psi 0 [] h0 lv h → ai_G c B X Psi vs h0 u.1 lv st h := by
  have hw : ∀ a ∈ wd, a ∈ c.2.2.2.1 ∧ a ∉ ai_pc := by
    intro a ha
    obtain ⟨w1, w2⟩ := sm_an (List.all_eq_true.mp hw a ha)
    exact ⟨of_decide_eq_true w1, by simpa using w2⟩
  have hfz : ∀ (rs : List ar_R) (L : aw_L) (lv : sm_L), (∃ q ∈ c.2.2.2.2, q.1 = rs) → aw_l L lv → (∀ (j : Nat) (w : Value), j < 0 → (w.category = 2 → j + 1 < 0) → sm_get [] j = some w → sm_get lv j = some w) → ai_rf (ai_sl c.2.1 0) rs L = true → ak_rf rs vs := by
    intro rs L lv hq _ _ _
    obtain ⟨q, hq, rfl⟩ := hq
    have e := List.all_eq_true.mp hr q hq
    rw [List.isEmpty_iff] at e
    rw [e]
    unfold ak_rf
    trivial
  intro ns
  induction ns with
  | nil => intro _ u hu; exact absurd hu List.not_mem_nil
  | cons u0 ns ih =>
    intro en u hu lv st h o1 o2
    obtain ⟨en1, en2⟩ := sm_an en
    rcases List.mem_cons.mp hu with rfl | hu
    · exact ai_go_s ak_nil (fun a ha => (hw a ha).1) (fun h a e ha => hP h a e (hw a ha).2) hfz (ih en2) fuel true u.1 u.2 en1 lv st h o1 o2
    · exact ih en2 u hu lv st h o1 o2
def rg_B : sm_P := (fun pc => sm_ch sm_t129 pc, sm_Kn 3 3 none, fun x => sm_lk sm_ca3 x, some .int)
/-- from place 37 on, m mice read -/
def rg_S (m : Nat) (u : aw_S) : Prop := ∀ (lv : sm_L) (st : List Value) (h : List va_E), aw_ok u lv st h → aw_h mwG h → ps_h h → ∃ f o h', sm_rn rg_B (sm_Ex 200 sm_ML sm_B 11) f 37 lv st h o h' ∧ ps_h h' ∧ (∀ a, rg_lo a → h'[a]? = h[a]?) ∧ aw_h (mwm m) h' ∧ ∃ x : Int32, o = some (.int x)
def rg_r (v : Option aw_V) : Bool := match v with
  | some (.inr (false, _)) => true
  | _ => false
theorem rg_rs {v : Option aw_V} {o : Option Value} (h : rg_r v = true) (hr : ak_res v o) : ∃ x : Int32, o = some (.int x) := by
  match v, h with
  | some (.inr (false, r)), _ =>
    cases o with
    | none => exact hr.elim
    | some w =>
      obtain ⟨x, rfl, -⟩ := hr
      exact ⟨x, rfl⟩
theorem rg_s {c : ak_C} {wd hd : List Nat} {m fuel : Nat} {ns : List (Nat × aw_S)} {u : Nat × aw_S} (hw : (wd.all fun a => decide (a ∈ c.2.2.2.1) && !decide (a ∈ ai_pc)) = true) (hn : ai_nds [] c rg_B wd 0 hd [] fuel ns = true) (hu : u ∈ ns) (u1 : u.1 = 37) (b : ((c.2.2.2.1.all rg_n) && c.2.2.2.2.all fun q => q.1.isEmpty && (rg_r q.2.1 && ah_sub (ak_hp c.2.2.2.1 q.2.2 mwG) (mwm m))) = true) : rg_S m u.2 := by
  intro lv st h hok hG hp
  obtain ⟨b1, b2⟩ := sm_an b
  have hr : (c.2.2.2.2.all fun q => q.1.isEmpty) = true := List.all_eq_true.mpr (fun q hq => (sm_an (List.all_eq_true.mp b2 q hq)).1)
  obtain ⟨f, o, h', g1, g2, g3, q, hq, q1, q2, q3⟩ := ai_sfx (X := sm_Ex 200 sm_ML sm_B 11) (vs := []) (h0 := h) ps_P hw hr ns hn u hu lv st h hok ⟨fun _ _ => rfl, hp, fun j _ hj => absurd hj (Nat.not_lt_zero _)⟩
  rw [u1] at g1
  obtain ⟨-, b3⟩ := sm_an (List.all_eq_true.mp b2 q hq)
  obtain ⟨b3, b4⟩ := sm_an b3
  refine ⟨f, o, h', g1, g2, fun a ha => g3 a (fun z => ?_), ah_sub_s b4 (ak_hp_s hG q3 g3), rg_rs b3 q2⟩
  exact rg_ns (List.all_eq_true.mp b1 a z) ha
def rg_u (m : Nat) : aw_S := match m with
  | 1 => (mgs1n0.headD (0, [], [], [])).2
  | 2 => (mgs2n0.headD (0, [], [], [])).2
  | 3 => (mgs3n0.headD (0, [], [], [])).2
  | _ => (mgs4n0.headD (0, [], [], [])).2
theorem rg_1 : rg_S 1 (rg_u 1) := rg_s (u := mgs1n0.headD (0, [], [], [])) mgs1w mgs1k (List.mem_append_left _ (hd_mem (by decide +kernel))) (by decide +kernel) (by decide +kernel)
theorem rg_2 : rg_S 2 (rg_u 2) := rg_s (u := mgs2n0.headD (0, [], [], [])) mgs2w mgs2k (List.mem_append_left _ (hd_mem (by decide +kernel))) (by decide +kernel) (by decide +kernel)
theorem rg_3 : rg_S 3 (rg_u 3) := rg_s (u := mgs3n0.headD (0, [], [], [])) mgs3w mgs3k (List.mem_append_left _ (hd_mem (by decide +kernel))) (by decide +kernel) (by decide +kernel)
theorem rg_4 : rg_S 4 (rg_u 4) := rg_s (u := mgs4n0.headD (0, [], [], [])) mgs4w mgs4k (List.mem_append_left _ (hd_mem (by decide +kernel))) (by decide +kernel) (by decide +kernel)
/-- faultOf's ends: another answer than -9, or the start of one of these -/
def rg_e (c : ak_C) (q : List ar_R × Option aw_V × aw_H) : Bool := match q.2.1 with
  | some (.inr (false, r)) => ah_sub (ak_hp c.2.2.2.1 q.2.2 mwG) mwG && (decide (-9 < (ar_h r).1) || [1, 2, 3, 4].any fun m => as_sub ([(0, .inl 81), (1, .inr (false, [(0, 3)]))], [], ak_hp c.2.2.2.1 q.2.2 mwG) (rg_u m))
  | _ => false
theorem rg_es {c : ak_C} {q : List ar_R × Option aw_V × aw_H} (b : rg_e c q = true) {o : Option Value} (hr : ak_res q.2.1 o) {h h' : List va_E} (hG : aw_h mwG h) (q3 : aw_h q.2.2 h') (x3 : ∀ a, a ∉ c.2.2.2.1 → h'[a]? = h[a]?) (hp : ps_h h') {t : Int32} (ht : ar_in t.toInt [(0, 3)]) : ∃ x : Int32, o = some (.int x) ∧ aw_h mwG h' ∧ (x.toInt = -9 → ∃ m, m < 5 ∧ ∃ f o2 h2, sm_rn rg_B (sm_Ex 200 sm_ML sm_B 11) f 37 [(0, .ref 81), (1, .int t)] [] h' o2 h2 ∧ ps_h h2 ∧ (∀ a, rg_lo a → h2[a]? = h'[a]?) ∧ aw_h (mwm m) h2 ∧ ∃ x : Int32, o2 = some (.int x)) := by
  unfold rg_e at b
  split at b
  · rename_i r hv
    rw [hv] at hr
    obtain ⟨b1, b2⟩ := sm_an b
    have hH := ak_hp_s hG q3 x3
    have hG' := ah_sub_s b1 hH
    cases o with
    | none => exact hr.elim
    | some w =>
      obtain ⟨x, rfl, hx⟩ := hr
      refine ⟨x, rfl, hG', fun e => ?_⟩
      rcases (Bool.or_eq_true _ _).mp b2 with b2 | b2
      · have b2 := of_decide_eq_true b2
        have := ar_h_s hx
        omega
      · obtain ⟨m, hm, b2⟩ := List.any_eq_true.mp b2
        have hok : aw_ok ([(0, .inl 81), (1, .inr (false, [(0, 3)]))], [], ak_hp c.2.2.2.1 q.2.2 mwG) [(0, .ref 81), (1, .int t)] [] h' := by
          refine ⟨?_, trivial, hH⟩
          exact List.forall_mem_cons.mpr ⟨⟨_, rfl, rfl⟩, List.forall_mem_cons.mpr ⟨⟨_, rfl, t, rfl, ht⟩, fun _ z => absurd z List.not_mem_nil⟩⟩
        have hok := as_sub_s b2 hok
        simp only [List.mem_cons, List.not_mem_nil, or_false] at hm
        rcases hm with rfl | rfl | rfl | rfl
        · exact ⟨1, by decide, rg_1 _ _ _ hok hG' hp⟩
        · exact ⟨2, by decide, rg_2 _ _ _ hok hG' hp⟩
        · exact ⟨3, by decide, rg_3 _ _ _ hok hG' hp⟩
        · exact ⟨4, by decide, rg_4 _ _ _ hok hG' hp⟩
  · cases b
theorem rg_fo : (mgc6327.2.2.2.2.all fun q => rg_e mgc6327 q) = true := by decide +kernel
theorem rg_fw : (ah_sub mwG mgc6327.2.2.1 && mgc6327.2.2.2.1.all fun a => rg_n a && !(Nat.beq a 86)) = true := by decide +kernel
theorem rg_f4 : (mgc4.2.2.2.1.all rg_n) = true := by decide +kernel
theorem rg_fi : mg_b mwG mgc4 = true := by decide +kernel
theorem h_ext {h h' : List va_E} (e : ∀ a, a ∉ ([] : List Nat) → h'[a]? = h[a]?) : h' = h := List.ext_getElem? (fun a => e a List.not_mem_nil)
set_option maxHeartbeats 2000000 in
theorem rg_ok {li mi : ar_R} {te : List (Nat × Nat × ar_R)} {h : List va_E} (hI : aw_h (mw li mi te) h) (hG : aw_h mwG h) (hp : ps_h h) (t : Int32) : ∃ o h', sm_Ex 200 sm_ML sm_B 12 129 [.ref 81, .int t] h o h' ∧ ps_h h' ∧ (∀ a, rg_lo a → h'[a]? = h[a]?) ∧ (aw_h (mw li mi te) h' ∨ ∃ m, m < 5 ∧ aw_h (mwm m) h') ∧ ∃ x : Int32, o = some (.int x) := by
  have key : sm_Go rg_B (sm_Ex 200 sm_ML sm_B 11) (fun o h' => ps_h h' ∧ (∀ a, rg_lo a → h'[a]? = h[a]?) ∧ (aw_h (mw li mi te) h' ∨ ∃ m, m < 5 ∧ aw_h (mwm m) h') ∧ ∃ x : Int32, o = some (.int x)) 0 [(0, .ref 81), (1, .int t)] [] h := by
    obtain ⟨e81, g81, F, rfl, hFl, hF⟩ := hG (81, ms_o [(0, 8)] [(0, 4)] ar_t32 ar_t32 [(0, 180)] [(0, 60)] [(-1, 60)] [(0, 8)] [(0, 4)]) (by unfold mwG mw; exact List.mem_cons_self)
    obtain ⟨e89, g89, f, rfl, hsg, -⟩ := hG (89, .inr (.inl (0, 4, [(0, 3, [(-1, 60)])], []))) (List.mem_of_getElem? (i := 8) rfl)
    obtain ⟨w9, F9, m9⟩ := mo_get (k := 9) (v := .inl 89) hFl hF rfl
    have m9 : w9 = .ref 89 := m9
    subst m9
    have hob : ∃ fs, sm_obj h 81 3 = some fs := ⟨F, by unfold sm_obj; rw [g81]; exact if_pos rfl⟩
    refine sm_go_st (t := (1, _, [.int t], h)) (i := .iload_n 1) (n := 1) rfl rfl ?_
    obtain ⟨o, h1, x1, x2, x3, q, hq, q1, q2, q3⟩ := ak_ok_le 11 (by decide) (mgo15 ps_P) [.int t] h ⟨⟨t, rfl, ar_in32 t⟩, trivial⟩ (fun _ z => absurd z List.not_mem_nil) hp
    have eh : h1 = h := h_ext x3
    subst eh
    have bad : ∀ x : Int32, sm_Go rg_B (sm_Ex 200 sm_ML sm_B 11) (fun o h' => ps_h h' ∧ (∀ a, rg_lo a → h'[a]? = h1[a]?) ∧ (aw_h (mw li mi te) h' ∨ ∃ m, m < 5 ∧ aw_h (mwm m) h') ∧ ∃ x : Int32, o = some (.int x)) 8 [(0, .ref 81), (1, .int t)] [.int x] h1 := fun x =>
      sm_go_rt (o := some (.int x)) (i := .ireturn) (n := 1) rfl ⟨rfl, Or.inl ⟨rfl, x, rfl, rfl, Or.inl rfl⟩⟩ ⟨hp, fun _ _ => rfl, Or.inl hI, x, rfl⟩
    have hq : q = ([[(-2147483648, -1), (4, 2147483647)]], some (.inr (false, [(0, 0)])), []) ∨ q = ([[(0, 3)]], some (.inr (false, [(1, 1)])), []) := by
      have hq : q ∈ [([[(-2147483648, -1), (4, 2147483647)]], some (.inr (false, [(0, 0)])), []), ([[(0, 3)]], some (.inr (false, [(1, 1)])), [])] := hq
      simpa only [List.mem_cons, List.not_mem_nil, or_false] using hq
    rcases hq with rfl | rfl
    · cases o with
      | none => exact q2.elim
      | some w =>
        obtain ⟨y, rfl, hy⟩ := q2
        have hy := ar_1 hy
        refine sm_go_cl (i := .invokestatic 100) (n := 3) (k := 117) (vs := [.int t]) (r := []) rfl ⟨rfl, by decide, Or.inr (Or.inl ⟨100, 3, rfl, rfl, rfl⟩)⟩ x1 ?_
        refine sm_go_if (r := []) (t := 9) (q := .ne) (off := 5) rfl rfl (fun c => absurd (show y.toInt = 0 by omega) c) (fun _ => ?_)
        refine sm_go_st (t := (8, _, [.int (-1)], h1)) (i := .iconst (-1)) (n := 1) rfl rfl ?_
        exact bad (-1)
    · cases o with
      | none => exact q2.elim
      | some w =>
        obtain ⟨y, rfl, hy⟩ := q2
        have hy := ar_1 hy
        have ht : ar_in t.toInt [(0, 3)] := q1.1 rfl _ rfl
        have ht1 := ar_1 ht
        refine sm_go_cl (i := .invokestatic 100) (n := 3) (k := 117) (vs := [.int t]) (r := []) rfl ⟨rfl, by decide, Or.inr (Or.inl ⟨100, 3, rfl, rfl, rfl⟩)⟩ x1 ?_
        refine sm_go_if (r := []) (t := 9) (q := .ne) (off := 5) rfl rfl (fun _ => ?_) (fun c => absurd (show ¬ y.toInt = 0 by omega) c)
        refine sm_go_st (t := (10, _, [.ref 81], h1)) (i := .aload_n 0) (n := 1) rfl rfl ?_
        refine sm_go_gf (r := []) (v := .ref 89) rfl rfl g81 F9 ?_
        refine sm_go_st (t := (14, _, [.int t, .ref 89], h1)) (i := .iload_n 1) (n := 1) rfl rfl ?_
        refine sm_go_ia (r := []) rfl g89 (by decide) (aw_in6 (q := (0, 3)) ht1 (by decide) (by decide)) ?_
        refine sm_go_if (r := []) (t := 24) (q := .ge) (off := 9) rfl rfl (fun _ => ?_) (fun _ => ?_)
        · refine sm_go_st (t := (25, _, [.ref 81], h1)) (i := .aload_n 0) (n := 1) rfl rfl ?_
          refine sm_go_st (t := (26, _, [.int t, .ref 81], h1)) (i := .iload_n 1) (n := 1) rfl rfl ?_
          obtain ⟨w1, w2⟩ := sm_an rg_fw
          obtain ⟨o, h2, y1, y2, y3, q, hq, q1, q2, q3⟩ := ak_ok_le 11 (by decide) (mgo6327 ps_P) [.ref 81, .int t] h1 ⟨rfl, ⟨t, rfl, ht⟩, trivial⟩ (ah_sub_s w1 hG) hp
          obtain ⟨x, rfl, z1, z2⟩ := rg_es (List.all_eq_true.mp rg_fo q hq) q2 hG q3 y3 y2 ht
          have wr : ∀ a, a ∈ mgc6327.2.2.2.1 → rg_n a = true ∧ a ≠ 86 := by
            intro a ha
            obtain ⟨v1, v2⟩ := sm_an (List.all_eq_true.mp w2 a ha)
            refine ⟨v1, fun z => ?_⟩
            subst z
            cases v2
          have lo : ∀ a, rg_lo a → h2[a]? = h1[a]? := fun a ha => y3 a (fun z => rg_ns (wr a z).1 ha)
          refine sm_go_cl (i := .invokevirtual 144) (n := 3) (k := 120) (vs := [.ref 81, .int t]) (r := []) rfl ⟨rfl, by decide, Or.inl ⟨144, 3, 81, [.int t], rfl, rfl, rfl, rfl, hob⟩⟩ y1 ?_
          refine sm_go_st (t := (31, _, [.int (-9), .int x], h2)) (i := .bipush (-9)) (n := 2) rfl rfl ?_
          refine sm_go_ic (r := []) (t := 37) (q := .eq) (off := 6) rfl rfl (fun c => ?_) (fun _ => ?_)
          · have c : x.toInt = -9 := c
            obtain ⟨m, hm, f, o2, h3, r1, r2, r3, r4, r5⟩ := z2 c
            exact ⟨f, o2, h3, r1, r2, fun a ha => (r3 a ha).trans (lo a ha), Or.inr ⟨m, hm, r4⟩, r5⟩
          · refine sm_go_st (t := (36, _, [.int (-4)], h2)) (i := .bipush (-4)) (n := 2) rfl rfl ?_
            exact sm_go_rt (o := some (.int (-4))) (i := .ireturn) (n := 1) rfl ⟨rfl, Or.inl ⟨rfl, -4, rfl, rfl, Or.inl rfl⟩⟩ ⟨y2, lo, Or.inl (mw_keep hI z1 (y3 86 (fun z => (wr 86 z).2 rfl)) (fz_run _ _ _ _ _ _ rfl y1)), -4, rfl⟩
        · refine sm_go_st (t := (19, _, [.ref 81], h1)) (i := .aload_n 0) (n := 1) rfl rfl ?_
          refine sm_go_st (t := (20, _, [.int 1, .ref 81], h1)) (i := .iconst 1) (n := 1) rfl rfl ?_
          obtain ⟨o, h2, y1, y2, y0, -, y4, q, hq, q1, q2, q3⟩ := mg_go2 (vs := [.ref 81, .int 1]) (ak_ok_le 11 (by decide) (mgo4 ps_P)) rfl rg_fi hI hG hp ⟨rfl, ⟨1, rfl, ar_o (by decide) (by decide)⟩, trivial⟩
          have hr : ∃ x : Int32, o = some (.int x) := by
            have hq : q ∈ mgc4.2.2.2.2 := hq
            have e : (mgc4.2.2.2.2.all fun q => rg_r q.2.1) = true := by decide +kernel
            exact rg_rs (List.all_eq_true.mp e q hq) q2
          obtain ⟨x, rfl⟩ := hr
          have y3 : ∀ a, rg_lo a → h2[a]? = h1[a]? := fun a ha => y0 a (fun z => rg_ns (List.all_eq_true.mp rg_f4 a z) ha)
          refine sm_go_cl (i := .invokevirtual 81) (n := 3) (k := 106) (vs := [.ref 81, .int 1]) (r := []) rfl ⟨rfl, by decide, Or.inl ⟨81, 3, 81, [.int 1], rfl, rfl, rfl, rfl, hob⟩⟩ y1 ?_
          exact sm_go_rt (o := some (.int x)) (i := .ireturn) (n := 1) rfl ⟨rfl, Or.inl ⟨rfl, x, rfl, rfl, Or.inl rfl⟩⟩ ⟨y2, y3, Or.inl y4, x, rfl⟩
  obtain ⟨f, o, h', hr, r1, r2, r3, r4⟩ := key
  exact ⟨o, h', ⟨by decide, show (2 : Nat) ≤ sm_ML 129 by decide +kernel, f, hr⟩, r1, r2, r3, r4⟩
