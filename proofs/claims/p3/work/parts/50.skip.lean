/-! The reference's here and skip by hand. -/
def he_B : sm_P := (fun pc => sm_ch sm_t123 pc, sm_Kn 3 1 none, fun x => sm_lk sm_ca3 x, some .int)
theorem he_run {d : Nat} {h : List va_E} {F : List Value} {g : Nat → Int32} {fr pl : Int32} (g1 : h[81]? = some (.inr (3, F))) (g2 : h[90]? = some (.inl (0, 240, .inl g))) (f10 : F[10]? = some (.ref 90)) (f16 : F[16]? = some (.int fr)) (f17 : F[17]? = some (.int pl)) (h1 : 0 ≤ fr.toInt ∧ fr.toInt ≤ 180) (h2 : 0 ≤ pl.toInt ∧ pl.toInt < 60) : sm_Ex 200 sm_ML sm_B (d + 1) 123 [.ref 81] h (some (.int (g (fr + pl).toNatClampNeg))) h := by
  have e : (fr + pl).toInt = fr.toInt + pl.toInt := mr_add (by omega) (by omega)
  have hin : ¬ (fr + pl < 0 ∨ 240 ≤ (fr + pl).toNatClampNeg) := aw_in6 (q := ((fr + pl).toInt, (fr + pl).toInt)) ⟨Int.le_refl _, Int.le_refl _⟩ (by show 0 ≤ (fr + pl).toInt; omega) (by show (fr + pl).toInt < ((240 : Nat) : Int); omega)
  have run : sm_Go he_B (sm_Ex 200 sm_ML sm_B d) (fun o h' => h' = h ∧ o = some (.int (g (fr + pl).toNatClampNeg))) 0 [(0, .ref 81)] [] h := by
    refine sm_go_st (i := .aload_n 0) (n := 1) (t := (1, [(0, .ref 81)], [.ref 81], h)) rfl rfl ?_
    refine sm_go_gf (r := []) (v := .ref 90) rfl rfl g1 f10 ?_
    refine sm_go_st (i := .aload_n 0) (n := 1) (t := (5, [(0, .ref 81)], [.ref 81, .ref 90], h)) rfl rfl ?_
    refine sm_go_gf (r := [.ref 90]) (v := .int fr) rfl rfl g1 f16 ?_
    refine sm_go_st (i := .aload_n 0) (n := 1) (t := (9, [(0, .ref 81)], [.ref 81, .int fr, .ref 90], h)) rfl rfl ?_
    refine sm_go_gf (r := [.int fr, .ref 90]) (v := .int pl) rfl rfl g1 f17 ?_
    refine sm_go_st (i := .iadd) (n := 1) (t := (13, [(0, .ref 81)], [.int (fr + pl), .ref 90], h)) rfl rfl ?_
    refine sm_go_ia (r := []) rfl g2 (by decide) hin ?_
    exact sm_go_rt (o := some (.int (g (fr + pl).toNatClampNeg))) (i := .ireturn) (n := 1) rfl ⟨rfl, Or.inl ⟨rfl, _, rfl, rfl, Or.inl rfl⟩⟩ ⟨rfl, rfl⟩
  obtain ⟨f, o, h', hr, rfl, rfl⟩ := run
  exact ⟨by decide, show (1 : Nat) ≤ sm_ML 123 by decide +kernel, f, hr⟩
def sk_B : sm_P := (fun pc => sm_ch sm_t122 pc, sm_Kn 3 1 none, fun x => sm_lk sm_ca3 x, none)
set_option maxHeartbeats 2000000 in
theorem sk_loop {Psi : List va_E → Prop} (hP : ∀ (h : List va_E) (a : Nat) (e : va_E), a ∉ ai_pc → Psi h → Psi (h.set a e)) {d : Nat} {Q : Option Value → List va_E → Prop} {fs : List Value} {h0 : List va_E} {g : Nat → Int32} {fr en : Int32} {p hi : Int} (hl : 19 ≤ fs.length) (f10 : fs[10]? = some (.ref 90)) (f16 : fs[16]? = some (.int fr)) (f18 : fs[18]? = some (.int en)) (hfr : 0 ≤ fr.toInt ∧ fr.toInt ≤ 180) (hen : en.toInt ≤ hi) (hhi : hi ≤ 60) (hp0 : 0 ≤ p) (g2 : h0[90]? = some (.inl (0, 240, .inl g))) (hQ : ∀ (h : List va_E) (pl : Int32), p ≤ pl.toInt → (pl.toInt = p ∨ pl.toInt ≤ hi) → h[81]? = some (.inr (3, fs.set 17 (.int pl))) → Psi h → (∀ b : Nat, b ∉ [81] → h[b]? = h0[b]?) → Q none h) : ∀ (n : Nat) (pl : Int32) (h : List va_E), p ≤ pl.toInt → (pl.toInt = p ∨ pl.toInt ≤ hi) → (60 - pl.toInt).toNat < n → h[81]? = some (.inr (3, fs.set 17 (.int pl))) → Psi h → (∀ b : Nat, b ∉ [81] → h[b]? = h0[b]?) → sm_Go sk_B (sm_Ex 200 sm_ML sm_B (d + 1)) Q 0 [(0, .ref 81)] [] h := by
  intro n
  induction n with
  | zero => intro pl h _ _ h3; exact absurd h3 (Nat.not_lt_zero _)
  | succ n ih =>
    intro pl h p1 p2 p3 g1 hp fr'
    have e10 : (fs.set 17 (.int pl))[10]? = some (.ref 90) := by rw [List.getElem?_set_ne (by decide)]; exact f10
    have e16 : (fs.set 17 (.int pl))[16]? = some (.int fr) := by rw [List.getElem?_set_ne (by decide)]; exact f16
    have e18 : (fs.set 17 (.int pl))[18]? = some (.int en) := by rw [List.getElem?_set_ne (by decide)]; exact f18
    have e17 : (fs.set 17 (.int pl))[17]? = some (.int pl) := List.getElem?_set_self (by omega)
    have end_ : sm_Go sk_B (sm_Ex 200 sm_ML sm_B (d + 1)) Q 33 [(0, .ref 81)] [] h := sm_go_rt (o := none) (i := .return_) (n := 1) rfl ⟨rfl, Or.inr (Or.inr ⟨rfl, rfl, rfl, rfl⟩)⟩ (hQ h pl p1 p2 g1 hp fr')
    refine sm_go_st (i := .aload_n 0) (n := 1) (t := (1, [(0, .ref 81)], [.ref 81], h)) rfl rfl ?_
    refine sm_go_gf (r := []) (v := .int pl) rfl rfl g1 e17 ?_
    refine sm_go_st (i := .aload_n 0) (n := 1) (t := (5, [(0, .ref 81)], [.ref 81, .int pl], h)) rfl rfl ?_
    refine sm_go_gf (r := [.int pl]) (v := .int en) rfl rfl g1 e18 ?_
    refine sm_go_ic (t := 33) (q := .ge) (off := 25) rfl rfl (fun _ => end_) (fun c1 => ?_)
    have c1 : ¬ en.toInt ≤ pl.toInt := c1
    refine sm_go_st (i := .aload_n 0) (n := 1) (t := (12, [(0, .ref 81)], [.ref 81], h)) rfl rfl ?_
    have g90 : h[90]? = some (.inl (0, 240, .inl g)) := by rw [fr' 90 (by decide)]; exact g2
    refine sm_go_cl (i := .invokevirtual 112) (n := 3) (k := 123) (r := []) rfl ⟨rfl, by decide, Or.inl ⟨112, 3, 81, [], rfl, rfl, rfl, rfl, _, by unfold sm_obj; rw [g1]; exact if_pos rfl⟩⟩ (he_run g1 g90 e10 e16 e17 hfr ⟨by omega, by omega⟩) ?_
    refine sm_go_st (i := .bipush 32) (n := 2) (t := (17, [(0, .ref 81)], [.int 32, .int (g (fr + pl).toNatClampNeg)], h)) rfl rfl ?_
    refine sm_go_ic (t := 33) (q := .ne) (off := 16) rfl rfl (fun _ => end_) (fun _ => ?_)
    refine sm_go_st (i := .aload_n 0) (n := 1) (t := (21, [(0, .ref 81)], [.ref 81], h)) rfl rfl ?_
    refine sm_go_st (i := .dup) (n := 1) (t := (22, [(0, .ref 81)], [.ref 81, .ref 81], h)) rfl rfl ?_
    refine sm_go_gf (r := [.ref 81]) (v := .int pl) rfl rfl g1 e17 ?_
    refine sm_go_st (i := .iconst 1) (n := 1) (t := (26, [(0, .ref 81)], [.int 1, .int pl, .ref 81], h)) rfl rfl ?_
    refine sm_go_st (i := .iadd) (n := 1) (t := (27, [(0, .ref 81)], [.int (pl + 1), .ref 81], h)) rfl rfl ?_
    refine sm_go_pf (r := []) rfl rfl g1 (by rw [List.length_set]; omega) ?_
    rw [List.set_set]
    refine sm_go_st (i := .goto (-30)) (n := 3) (t := (0, [(0, .ref 81)], [], (h.set 81 (.inr (3, fs.set 17 (.int (pl + 1))))))) rfl rfl ?_
    have h1 := mr_1 (i := pl) (by omega)
    refine ih (pl + 1) _ (by omega) (Or.inr (by omega)) (by omega) (sm_set_s g1) (hP _ _ _ (by decide) hp) ?_
    intro b hb
    rw [List.getElem?_set_ne (fun z => hb (by rw [← z]; exact List.mem_cons_self))]
    exact fr' b hb
def sk_c (vs : List aw_V) (js : List Nat) : ak_C := (122, [.inl 81], [(81, .inl (3, vs)), (90, .inr (.inl (0, 240, [], [])))], [81], js.map fun j : Nat => ([], none, [(81, .inl (3, vs.set 17 (.inr (false, [((j : Int), (j : Int))]))))]))
theorem mo_set {ci k : Nat} {vs : List aw_V} {fs : List Value} {v : aw_V} {w : Value} (hl : fs.length = vs.length) (hf : ∀ (k : Nat) (v : aw_V) (w : Value), vs[k]? = some v → fs[k]? = some w → aw_m v w) (hm : aw_m v w) : aw_c (.inl (ci, vs.set k v)) (.inr (ci, fs.set k w)) := by
  refine ⟨_, rfl, by rw [List.length_set, List.length_set]; exact hl, fun j v' w' hv hw => ?_⟩
  by_cases hj : k = j
  · subst hj
    have h1 : k < fs.length := by
      have := (List.getElem?_eq_some_iff.mp hw).1
      rw [List.length_set] at this
      exact this
    rw [List.getElem?_set_self (by omega)] at hv
    rw [List.getElem?_set_self h1] at hw
    cases hv
    cases hw
    exact hm
  · rw [List.getElem?_set_ne hj] at hv hw
    exact hf j v' w' hv hw
theorem mo_same {fs : List Value} {k : Nat} {w : Value} (h : fs[k]? = some w) : fs.set k w = fs := by
  refine List.ext_getElem? (fun j => ?_)
  by_cases hj : k = j
  · subst hj
    rw [List.getElem?_set_self (List.getElem?_eq_some_iff.mp h).1, h]
  · rw [List.getElem?_set_ne hj]
theorem mo_get {vs : List aw_V} {fs : List Value} {k : Nat} {v : aw_V} (hl : fs.length = vs.length) (hf : ∀ (k : Nat) (v : aw_V) (w : Value), vs[k]? = some v → fs[k]? = some w → aw_m v w) (hv : vs[k]? = some v) : ∃ w, fs[k]? = some w ∧ aw_m v w := by
  have h1 : k < fs.length := by rw [hl]; exact (List.getElem?_eq_some_iff.mp hv).1
  exact ⟨_, List.getElem?_eq_getElem h1, hf k v _ hv (List.getElem?_eq_getElem h1)⟩
set_option maxHeartbeats 1000000 in
theorem sk_ok {Psi : List va_E → Prop} (hP : ∀ (h : List va_E) (a : Nat) (e : va_E), a ∉ ai_pc → Psi h → Psi (h.set a e)) {d : Nat} {vs : List aw_V} {p : Nat} {hi : Int} {re : ar_R} {js : List Nat} (v10 : vs[10]? = some (.inl 90)) (v16 : vs[16]? = some (.inr (false, [(0, 180)]))) (v17 : vs[17]? = some (.inr (false, [((p : Int), (p : Int))]))) (v18 : vs[18]? = some (.inr (false, re))) (hre : ∀ x, ar_in x re → x ≤ hi) (hhi : hi ≤ 60) (hjs : ∀ j : Nat, p ≤ j → (j = p ∨ (j : Int) ≤ hi) → j ∈ js) : ak_ok Psi (sm_Ex 200 sm_ML sm_B (d + 2)) (sk_c vs js) := by
  refine sm_hand (B := sk_B) (show (122 : Nat) < 200 by decide) rfl (show (1 : Nat) ≤ sm_ML 122 by decide +kernel) ?_
  intro ws h hv hh hPs
  match ws, hv with
  | [v0], hv =>
    have e0 : v0 = .ref 81 := hv.1
    subst e0
    obtain ⟨e, g1, fs, rfl, hl, hfs⟩ := hh (81, .inl (3, vs)) List.mem_cons_self
    obtain ⟨e, g2, g, rfl, -, -⟩ := hh (90, .inr (.inl (0, 240, [], []))) (List.mem_cons_of_mem _ List.mem_cons_self)
    obtain ⟨w10, f10, m10⟩ := mo_get hl hfs v10
    have m10 : w10 = .ref 90 := m10
    subst m10
    obtain ⟨w16, f16, m16⟩ := mo_get hl hfs v16
    obtain ⟨fr, rfl, hfr⟩ := sm_vi m16
    obtain ⟨w17, f17, m17⟩ := mo_get hl hfs v17
    obtain ⟨pl, rfl, hpl⟩ := sm_vi m17
    obtain ⟨w18, f18, m18⟩ := mo_get hl hfs v18
    obtain ⟨en, rfl, hen⟩ := sm_vi m18
    have hpl := ar_1 hpl
    have hlen : 19 ≤ fs.length := by
      have := (List.getElem?_eq_some_iff.mp f18).1
      omega
    refine sk_loop hP (p := p) (hi := hi) (fs := fs) (h0 := h) hlen f10 f16 f18 (ar_1 hfr) (hre _ hen) hhi (by omega) g2 ?_ 61 pl h (by omega) (Or.inl (by omega)) (by omega) (by rw [mo_same f17]; exact g1) hPs (fun _ _ => rfl)
    intro h' q q1 q2 g1' hp' fr'
    refine ⟨hp', fr', _, List.mem_map.mpr ⟨q.toInt.toNat, hjs _ (by omega) (by omega), rfl⟩, trivial, trivial, fun x hx => ?_⟩
    rw [List.mem_singleton] at hx
    subst hx
    exact ⟨_, g1', mo_set hl hfs ⟨q, rfl, ar_o (by omega) (by omega)⟩⟩
  | [], hv => exact hv.elim
  | _ :: _ :: _, hv => exact hv.2.elim
