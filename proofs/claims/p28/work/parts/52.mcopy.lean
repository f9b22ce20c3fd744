/-! The reference's copy by hand. -/
theorem mo_samv {fs : List aw_V} {k : Nat} {w : aw_V} (h : fs[k]? = some w) : fs.set k w = fs := by
  refine List.ext_getElem? (fun j => ?_)
  by_cases hj : k = j
  · subst hj
    rw [List.getElem?_set_self (List.getElem?_eq_some_iff.mp h).1, h]
  · rw [List.getElem?_set_ne hj]
def ir_B : sm_P := (fun pc => sm_ch sm_t104 pc, sm_Kn 3 1 none, fun x => sm_lk sm_ca3 x, some .boolean)
theorem in_01 {d : Nat} (a b c : Int64) (h : List va_E) : ∃ r : Int32, sm_Ex 200 sm_ML sm_B (d + 1) 105 [.long a, .long b, .long c] h (some (.int r)) h ∧ (¬ r.toInt = 0 → b.toInt ≤ a.toInt ∧ a.toInt ≤ c.toInt) ∧ (r = 0 ∨ r = 1) := by
  have run : sm_Go in_B (sm_Ex 200 sm_ML sm_B d) (fun o h' => h' = h ∧ ∃ r : Int32, o = some (.int r) ∧ (¬ r.toInt = 0 → b.toInt ≤ a.toInt ∧ a.toInt ≤ c.toInt) ∧ (r = 0 ∨ r = 1)) 0 [(0, .long a), (2, .long b), (4, .long c)] [] h := by
    have no : sm_Go in_B (sm_Ex 200 sm_ML sm_B d) (fun o h' => h' = h ∧ ∃ r : Int32, o = some (.int r) ∧ (¬ r.toInt = 0 → b.toInt ≤ a.toInt ∧ a.toInt ≤ c.toInt) ∧ (r = 0 ∨ r = 1)) 17 [(0, .long a), (2, .long b), (4, .long c)] [] h := by
      refine sm_go_st (i := .iconst 0) (n := 1) (t := (18, [(0, .long a), (2, .long b), (4, .long c)], [.int 0], h)) rfl rfl ?_
      exact sm_go_rt (o := some (.int 0)) (i := .ireturn) (n := 1) rfl ⟨rfl, Or.inl ⟨rfl, 0, rfl, rfl, Or.inr ⟨rfl, Or.inl rfl⟩⟩⟩ ⟨rfl, 0, rfl, fun z => absurd (show (0 : Int32).toInt = 0 from rfl) z, Or.inl rfl⟩
    refine sm_go_st (i := .lload_n 0) (n := 1) (t := (1, [(0, .long a), (2, .long b), (4, .long c)], [.long a], h)) rfl rfl ?_
    refine sm_go_st (i := .lload_n 2) (n := 1) (t := (2, [(0, .long a), (2, .long b), (4, .long c)], [.long b, .long a], h)) rfl rfl ?_
    refine sm_go_st (i := .lcmp) (n := 1) (t := (3, [(0, .long a), (2, .long b), (4, .long c)], [.int (lg_cmp a b)], h)) rfl rfl ?_
    refine sm_go_if (t := 17) (q := .lt) (off := 14) rfl rfl (fun _ => no) (fun c1 => ?_)
    have c1 : ¬ a.toInt < b.toInt := fun z => c1 ((ar_smcmp .lt (lg_cmp a b) 0).mp ((aw_lcmp .lt a b).mpr z))
    refine sm_go_st (i := .lload_n 0) (n := 1) (t := (7, [(0, .long a), (2, .long b), (4, .long c)], [.long a], h)) rfl rfl ?_
    refine sm_go_st (i := .lload 4) (n := 2) (t := (9, [(0, .long a), (2, .long b), (4, .long c)], [.long c, .long a], h)) rfl rfl ?_
    refine sm_go_st (i := .lcmp) (n := 1) (t := (10, [(0, .long a), (2, .long b), (4, .long c)], [.int (lg_cmp a c)], h)) rfl rfl ?_
    refine sm_go_if (t := 17) (q := .gt) (off := 7) rfl rfl (fun _ => no) (fun c2 => ?_)
    have c2 : ¬ c.toInt < a.toInt := fun z => c2 ((ar_smcmp .gt (lg_cmp a c) 0).mp ((aw_lcmp .gt a c).mpr z))
    refine sm_go_st (i := .iconst 1) (n := 1) (t := (14, [(0, .long a), (2, .long b), (4, .long c)], [.int 1], h)) rfl rfl ?_
    refine sm_go_st (i := .goto 4) (n := 3) (t := (18, [(0, .long a), (2, .long b), (4, .long c)], [.int 1], h)) rfl rfl ?_
    exact sm_go_rt (o := some (.int 1)) (i := .ireturn) (n := 1) rfl ⟨rfl, Or.inl ⟨rfl, 1, rfl, rfl, Or.inr ⟨rfl, Or.inr rfl⟩⟩⟩ ⟨rfl, 1, rfl, fun _ => ⟨by omega, by omega⟩, Or.inr rfl⟩
  obtain ⟨f, o, h', hr, rfl, r, rfl, hrr, h01⟩ := run
  exact ⟨r, ⟨by decide, show (6 : Nat) ≤ sm_ML 105 by decide +kernel, f, hr⟩, hrr, h01⟩
theorem ir_run {d : Nat} (x : Int32) (h : List va_E) : ∃ r : Int32, sm_Ex 200 sm_ML sm_B (d + 2) 104 [.int x] h (some (.int r)) h ∧ (¬ r.toInt = 0 → 0 ≤ x.toInt ∧ x.toInt ≤ 5) := by
  obtain ⟨r, hrun, hr, h01⟩ := in_01 (d := d) x.toInt64 0 5 h
  have run : sm_Go ir_B (sm_Ex 200 sm_ML sm_B (d + 1)) (fun o h' => h' = h ∧ o = some (.int r)) 0 [(0, .int x)] [] h := by
    refine sm_go_st (i := .iload_n 0) (n := 1) (t := (1, [(0, .int x)], [.int x], h)) rfl rfl ?_
    refine sm_go_st (i := .i2l) (n := 1) (t := (2, [(0, .int x)], [.long x.toInt64], h)) rfl rfl ?_
    refine sm_go_st (i := .lconst 0) (n := 1) (t := (3, [(0, .int x)], [.long 0, .long x.toInt64], h)) rfl rfl ?_
    refine sm_go_st (i := .ldc2_w 69) (n := 3) (t := (6, [(0, .int x)], [.long 5, .long 0, .long x.toInt64], h)) rfl rfl ?_
    refine sm_go_cl (i := .invokestatic 71) (n := 3) (k := 105) (vs := [.long x.toInt64, .long 0, .long 5]) (r := []) rfl ⟨rfl, by decide, Or.inr (Or.inl ⟨71, 3, rfl, rfl, rfl⟩)⟩ hrun ?_
    exact sm_go_rt (o := some (.int r)) (i := .ireturn) (n := 1) rfl ⟨rfl, Or.inl ⟨rfl, r, rfl, rfl, Or.inr ⟨rfl, h01⟩⟩⟩ ⟨rfl, rfl⟩
  obtain ⟨f, o, h', hr', rfl, rfl⟩ := run
  refine ⟨r, ⟨by decide, show (1 : Nat) ≤ sm_ML 104 by decide +kernel, f, hr'⟩, fun z => ?_⟩
  have k := hr z
  rw [Int32.toInt_toInt64] at k
  exact k
def fi_B : sm_P := (fun pc => sm_ch sm_t106 pc, sm_Kn 3 2 none, fun x => sm_lk sm_ca3 x, some .int)
theorem fi_run {d : Nat} {h : List va_E} {F : List Value} {g : Nat → Int32} (c : Int32) (hc : 0 ≤ c.toInt ∧ c.toInt ≤ 5) (g1 : h[81]? = some (.inr (3, F))) (g2 : h[91]? = some (.inl (0, 6, .inl g))) (hl : 16 ≤ F.length) (f15 : F[15]? = some (.ref 91)) : ∃ g' : Nat → Int32, sm_Ex 200 sm_ML sm_B (d + 1) 106 [.ref 81, .int c] h (some (.int (-3))) ((h.set 81 (.inr (3, F.set 14 (.int c)))).set 91 (.inl (0, 6, .inl g'))) := by
  have run : sm_Go fi_B (sm_Ex 200 sm_ML sm_B d) (fun o h' => o = some (.int (-3)) ∧ ∃ g' : Nat → Int32, h' = (h.set 81 (.inr (3, F.set 14 (.int c)))).set 91 (.inl (0, 6, .inl g'))) 0 [(0, .ref 81), (1, .int c)] [] h := by
    refine sm_go_st (i := .aload_n 0) (n := 1) (t := (1, [(0, .ref 81), (1, .int c)], [.ref 81], h)) rfl rfl ?_
    refine sm_go_st (i := .iload_n 1) (n := 1) (t := (2, [(0, .ref 81), (1, .int c)], [.int c, .ref 81], h)) rfl rfl ?_
    refine sm_go_pf (r := []) rfl rfl g1 (by omega) ?_
    have g1' : (h.set 81 (.inr (3, F.set 14 (.int c))))[81]? = some (.inr (3, F.set 14 (.int c))) := sm_set_s g1
    have g2' : (h.set 81 (.inr (3, F.set 14 (.int c))))[91]? = some (.inl (0, 6, .inl g)) := by rw [List.getElem?_set_ne (by decide)]; exact g2
    have e15 : (F.set 14 (.int c))[15]? = some (.ref 91) := by rw [List.getElem?_set_ne (by decide)]; exact f15
    have hin : ¬ (c < 0 ∨ 6 ≤ c.toNatClampNeg) := aw_in6 (q := (c.toInt, c.toInt)) (n := 6) ⟨Int.le_refl _, Int.le_refl _⟩ hc.1 (by show c.toInt < ((6 : Nat) : Int); omega)
    generalize (h.set 81 (.inr (3, F.set 14 (.int c)))) = h1 at g1' g2' ⊢
    refine sm_go_st (i := .aload_n 0) (n := 1) (t := (6, [(0, .ref 81), (1, .int c)], [.ref 81], h1)) rfl rfl ?_
    refine sm_go_gf (r := []) (v := .ref 91) rfl rfl g1' e15 ?_
    refine sm_go_st (i := .iload_n 1) (n := 1) (t := (10, [(0, .ref 81), (1, .int c)], [.int c, .ref 91], h1)) rfl rfl ?_
    refine sm_go_st (i := .dup2) (n := 1) (t := (11, [(0, .ref 81), (1, .int c)], [.int c, .ref 91, .int c, .ref 91], h1)) rfl rfl ?_
    refine sm_go_ia (r := [.int c, .ref 91]) rfl g2' (by decide) hin ?_
    refine sm_go_st (i := .iconst 1) (n := 1) (t := (13, [(0, .ref 81), (1, .int c)], [.int 1, .int (g c.toNatClampNeg), .int c, .ref 91], h1)) rfl rfl ?_
    refine sm_go_st (i := .iadd) (n := 1) (t := (14, [(0, .ref 81), (1, .int c)], [.int (g c.toNatClampNeg + 1), .int c, .ref 91], h1)) rfl rfl ?_
    refine sm_go_is (r := []) rfl g2' hin ?_
    refine sm_go_st (i := .bipush (-3)) (n := 2) (t := (17, [(0, .ref 81), (1, .int c)], [.int (-3)], (h1.set 91 (.inl (0, 6, .inl (upd g c.toNatClampNeg (g c.toNatClampNeg + 1))))))) rfl rfl ?_
    exact sm_go_rt (o := some (.int (-3))) (i := .ireturn) (n := 1) rfl ⟨rfl, Or.inl ⟨rfl, -3, rfl, rfl, Or.inl rfl⟩⟩ ⟨rfl, _, rfl⟩
  obtain ⟨f, o, h', hr, rfl, g', rfl⟩ := run
  exact ⟨g', ⟨by decide, show (2 : Nat) ≤ sm_ML 106 by decide +kernel, f, hr⟩⟩
def sp_B : sm_P := (fun pc => sm_ch sm_t114 pc, sm_Kn 3 4 none, fun x => sm_lk sm_ca3 x, some .boolean)
theorem sp_run {d : Nat} {h : List va_E} {F : List Value} {fz : Nat → Int32} (x i n : Int32) (hx : 0 ≤ x.toInt ∧ x.toInt ≤ 5) (g1 : h[81]? = some (.inr (3, F))) (g2 : h[87]? = some (.inl (0, 6, .inl fz))) (f7 : F[7]? = some (.ref 87)) : ∃ r : Int32, sm_Ex 200 sm_ML sm_B (d + 1) 114 [.ref 81, .int x, .int i, .int n] h (some (.int r)) h ∧ (¬ r.toInt = 0 → 0 ≤ i.toInt ∧ i.toInt + n.toInt ≤ (fz x.toNatClampNeg).toInt) := by
  have hin : ¬ (x < 0 ∨ 6 ≤ x.toNatClampNeg) := aw_in6 (q := (x.toInt, x.toInt)) (n := 6) ⟨Int.le_refl _, Int.le_refl _⟩ hx.1 (by show x.toInt < ((6 : Nat) : Int); omega)
  have run : sm_Go sp_B (sm_Ex 200 sm_ML sm_B d) (fun o h' => h' = h ∧ ∃ r : Int32, o = some (.int r) ∧ (¬ r.toInt = 0 → 0 ≤ i.toInt ∧ i.toInt + n.toInt ≤ (fz x.toNatClampNeg).toInt)) 0 [(0, .ref 81), (1, .int x), (2, .int i), (3, .int n)] [] h := by
    have no : sm_Go sp_B (sm_Ex 200 sm_ML sm_B d) (fun o h' => h' = h ∧ ∃ r : Int32, o = some (.int r) ∧ (¬ r.toInt = 0 → 0 ≤ i.toInt ∧ i.toInt + n.toInt ≤ (fz x.toNatClampNeg).toInt)) 24 [(0, .ref 81), (1, .int x), (2, .int i), (3, .int n)] [] h := by
      refine sm_go_st (i := .iconst 0) (n := 1) (t := (25, [(0, .ref 81), (1, .int x), (2, .int i), (3, .int n)], [.int 0], h)) rfl rfl ?_
      exact sm_go_rt (o := some (.int 0)) (i := .ireturn) (n := 1) rfl ⟨rfl, Or.inl ⟨rfl, 0, rfl, rfl, Or.inr ⟨rfl, Or.inl rfl⟩⟩⟩ ⟨rfl, 0, rfl, fun z => absurd (show (0 : Int32).toInt = 0 from rfl) z⟩
    refine sm_go_st (i := .iload_n 2) (n := 1) (t := (1, [(0, .ref 81), (1, .int x), (2, .int i), (3, .int n)], [.int i], h)) rfl rfl ?_
    refine sm_go_if (t := 24) (q := .lt) (off := 23) rfl rfl (fun _ => no) (fun c1 => ?_)
    have c1 : ¬ i.toInt < 0 := c1
    refine sm_go_st (i := .iload_n 2) (n := 1) (t := (5, [(0, .ref 81), (1, .int x), (2, .int i), (3, .int n)], [.int i], h)) rfl rfl ?_
    refine sm_go_st (i := .i2l) (n := 1) (t := (6, [(0, .ref 81), (1, .int x), (2, .int i), (3, .int n)], [.long i.toInt64], h)) rfl rfl ?_
    refine sm_go_st (i := .iload_n 3) (n := 1) (t := (7, [(0, .ref 81), (1, .int x), (2, .int i), (3, .int n)], [.int n, .long i.toInt64], h)) rfl rfl ?_
    refine sm_go_st (i := .i2l) (n := 1) (t := (8, [(0, .ref 81), (1, .int x), (2, .int i), (3, .int n)], [.long n.toInt64, .long i.toInt64], h)) rfl rfl ?_
    refine sm_go_st (i := .ladd) (n := 1) (t := (9, [(0, .ref 81), (1, .int x), (2, .int i), (3, .int n)], [.long (i.toInt64 + n.toInt64)], h)) rfl rfl ?_
    refine sm_go_st (i := .aload_n 0) (n := 1) (t := (10, [(0, .ref 81), (1, .int x), (2, .int i), (3, .int n)], [.ref 81, .long (i.toInt64 + n.toInt64)], h)) rfl rfl ?_
    refine sm_go_gf (r := [.long (i.toInt64 + n.toInt64)]) (v := .ref 87) rfl rfl g1 f7 ?_
    refine sm_go_st (i := .iload_n 1) (n := 1) (t := (14, [(0, .ref 81), (1, .int x), (2, .int i), (3, .int n)], [.int x, .ref 87, .long (i.toInt64 + n.toInt64)], h)) rfl rfl ?_
    refine sm_go_ia (r := [.long (i.toInt64 + n.toInt64)]) rfl g2 (by decide) hin ?_
    refine sm_go_st (i := .i2l) (n := 1) (t := (16, [(0, .ref 81), (1, .int x), (2, .int i), (3, .int n)], [.long (fz x.toNatClampNeg).toInt64, .long (i.toInt64 + n.toInt64)], h)) rfl rfl ?_
    refine sm_go_st (i := .lcmp) (n := 1) (t := (17, [(0, .ref 81), (1, .int x), (2, .int i), (3, .int n)], [.int (lg_cmp (i.toInt64 + n.toInt64) (fz x.toNatClampNeg).toInt64)], h)) rfl rfl ?_
    refine sm_go_if (t := 24) (q := .gt) (off := 7) rfl rfl (fun _ => no) (fun c2 => ?_)
    have c2 : ¬ (fz x.toNatClampNeg).toInt64.toInt < (i.toInt64 + n.toInt64).toInt := fun z => c2 ((ar_smcmp .gt (lg_cmp (i.toInt64 + n.toInt64) (fz x.toNatClampNeg).toInt64) 0).mp ((aw_lcmp .gt (i.toInt64 + n.toInt64) (fz x.toNatClampNeg).toInt64).mpr z))
    have b1 := i.le_toInt
    have b2 := i.toInt_lt
    have b3 := n.le_toInt
    have b4 := n.toInt_lt
    have es : (i.toInt64 + n.toInt64).toInt = i.toInt + n.toInt := by
      rw [Int64.toInt_add, Int32.toInt_toInt64, Int32.toInt_toInt64]
      exact Int.bmod_eq_of_le (by omega) (by omega)
    rw [es, Int32.toInt_toInt64] at c2
    refine sm_go_st (i := .iconst 1) (n := 1) (t := (21, [(0, .ref 81), (1, .int x), (2, .int i), (3, .int n)], [.int 1], h)) rfl rfl ?_
    refine sm_go_st (i := .goto 4) (n := 3) (t := (25, [(0, .ref 81), (1, .int x), (2, .int i), (3, .int n)], [.int 1], h)) rfl rfl ?_
    exact sm_go_rt (o := some (.int 1)) (i := .ireturn) (n := 1) rfl ⟨rfl, Or.inl ⟨rfl, 1, rfl, rfl, Or.inr ⟨rfl, Or.inr rfl⟩⟩⟩ ⟨rfl, 1, rfl, fun _ => ⟨by omega, by omega⟩⟩
  obtain ⟨f, o, h', hr, rfl, r, rfl, hrr⟩ := run
  exact ⟨r, ⟨by decide, show (4 : Nat) ≤ sm_ML 114 by decide +kernel, f, hr⟩, hrr⟩
def mc_B : sm_P := (fun pc => sm_ch sm_t113 pc, sm_Kn 3 9 none, fun x => sm_lk sm_ca3 x, some .int)
def mc_h (vs : List aw_V) : aw_H := [(81, .inl (3, vs)), (88, .inr (.inl (0, 240, [], []))), (91, .inr (.inl (0, 6, [], [])))]
def mc_c (vs : List aw_V) : ak_C := (113, [.inl 81, .inr (false, ar_t32), .inr (false, ar_t32), .inr (false, ar_t32), .inr (false, ar_t32), .inr (false, ar_t32)], [(81, .inl (3, vs)), (87, .inr (.inl (0, 6, [(0, 5, [(-1, 40)])], []))), (88, .inr (.inl (0, 240, [], []))), (91, .inr (.inl (0, 6, [], [])))], [81, 88, 91], [([], some (.inr (false, [(-1, -1)])), mc_h vs), ([], some (.inr (false, [(-3, -3)])), mc_h vs), ([], some (.inr (false, [(1, 1)])), mc_h vs)])
abbrev mc_Q (Psi : List va_E → Prop) (vs : List aw_V) (ws : List Value) (h0 : List va_E) : Option Value → List va_E → Prop := fun o h' => Psi h' ∧ (∀ b, b ∉ (mc_c vs).2.2.2.1 → h'[b]? = h0[b]?) ∧ ak_end (mc_c vs) ws o h'
theorem mc_end {vs : List aw_V} {ws : List Value} {h : List va_E} (hh : aw_h (mc_h vs) h) (r : Int32) (hr : r.toInt = -1 ∨ r.toInt = -3 ∨ r.toInt = 1) : ak_end (mc_c vs) ws (some (.int r)) h := by
  rcases hr with hr | hr | hr
  · exact ⟨_, List.mem_cons_self, trivial, ⟨r, rfl, ar_o (by omega) (by omega)⟩, hh⟩
  · exact ⟨_, List.mem_cons_of_mem _ List.mem_cons_self, trivial, ⟨r, rfl, ar_o (by omega) (by omega)⟩, hh⟩
  · exact ⟨_, List.mem_cons_of_mem _ (List.mem_cons_of_mem _ List.mem_cons_self), trivial, ⟨r, rfl, ar_o (by omega) (by omega)⟩, hh⟩
theorem mc_hh {vs : List aw_V} {fs : List Value} {h : List va_E} {f g : Nat → Int32} (g1 : h[81]? = some (.inr (3, fs))) (g2 : h[88]? = some (.inl (0, 240, .inl f))) (g3 : h[91]? = some (.inl (0, 6, .inl g))) (hf : aw_c (.inl (3, vs)) (.inr (3, fs))) : aw_h (mc_h vs) h := by
  intro q hq
  simp only [mc_h, List.mem_cons, List.not_mem_nil, or_false] at hq
  rcases hq with rfl | rfl | rfl
  · exact ⟨_, g1, hf⟩
  · exact ⟨_, g2, f, rfl, fun q hq => absurd hq List.not_mem_nil, fun q hq => absurd hq List.not_mem_nil⟩
  · exact ⟨_, g3, g, rfl, fun q hq => absurd hq List.not_mem_nil, fun q hq => absurd hq List.not_mem_nil⟩
set_option maxHeartbeats 1000000 in
theorem mc_no {Psi : List va_E → Prop} (hP : ∀ (h : List va_E) (a : Nat) (e : va_E), a ∉ ai_pc → Psi h → Psi (h.set a e)) {d pc : Nat} {vs : List aw_V} {fs ws : List Value} {h : List va_E} {f g : Nat → Int32} {lv : sm_L} (g1 : h[81]? = some (.inr (3, fs))) (g2 : h[88]? = some (.inl (0, 240, .inl f))) (g3 : h[91]? = some (.inl (0, 6, .inl g))) (hl : fs.length = vs.length) (hfs : ∀ (k : Nat) (v : aw_V) (w : Value), vs[k]? = some v → fs[k]? = some w → aw_m v w) (v14 : vs[14]? = some (.inr (false, ar_t32))) (f15 : fs[15]? = some (.ref 91)) (hp : Psi h) (x : Int32) (hx : 0 ≤ x.toInt ∧ x.toInt ≤ 5) (hi : mc_B.1 pc = some (.invokevirtual 81, 3)) (hi2 : mc_B.1 (pc + 3) = some (.ireturn, 1)) : sm_Go mc_B (sm_Ex 200 sm_ML sm_B (d + 1)) (mc_Q Psi vs ws h) pc lv [.int x, .ref 81] h := by
  have hlen : 16 ≤ fs.length := by
    have := (List.getElem?_eq_some_iff.mp f15).1
    omega
  obtain ⟨g', hrun⟩ := fi_run (d := d) x hx g1 g3 hlen f15
  refine sm_go_cl (k := 106) (r := []) hi ⟨rfl, by decide, Or.inl ⟨81, 3, 81, [.int x], rfl, rfl, rfl, rfl, _, by unfold sm_obj; rw [g1]; exact if_pos rfl⟩⟩ hrun ?_
  refine sm_go_rt (o := some (.int (-3))) hi2 ⟨rfl, Or.inl ⟨rfl, -3, rfl, rfl, Or.inl rfl⟩⟩ ⟨hP _ _ _ (by decide) (hP _ _ _ (by decide) hp), fun b hb => ?_, ?_⟩
  · have h1 : (91 : Nat) ≠ b := fun z => hb (by rw [← z]; exact List.mem_cons_of_mem _ (List.mem_cons_of_mem _ List.mem_cons_self))
    have h2 : (81 : Nat) ≠ b := fun z => hb (by rw [← z]; exact List.mem_cons_self)
    rw [List.getElem?_set_ne h1, List.getElem?_set_ne h2]
  · have k := mo_set (ci := 3) (k := 14) (v := .inr (false, ar_t32)) (w := .int x) hl hfs ⟨x, rfl, ar_in32 x⟩
    rw [show vs.set 14 (.inr (false, ar_t32)) = vs from mo_samv v14] at k
    refine mc_end (mc_hh (fs := fs.set 14 (.int x)) (f := f) (g := g') ?_ ?_ ?_ k) (-3) (Or.inr (Or.inl rfl))
    · rw [List.getElem?_set_ne (by decide)]; exact sm_set_s g1
    · rw [List.getElem?_set_ne (by decide), List.getElem?_set_ne (by decide)]; exact g2
    · exact sm_set_s (e := .inl (0, 6, .inl g)) (by rw [List.getElem?_set_ne (by decide)]; exact g3)
section MCL
variable {Psi : List va_E → Prop} {X : sm_X} {Q : Option Value → List va_E → Prop} {fs : List Value} {h0 : List va_E} {a b c e n r : Int32}
theorem mc_one {h : List va_E} {g : Nat → Int32} {lv : sm_L} (hQ : ∀ (h : List va_E) (g : Nat → Int32), h[81]? = some (.inr (3, fs)) → h[88]? = some (.inl (0, 240, .inl g)) → h[91]? = h0[91]? → Psi h → (∀ b : Nat, b ∉ [81, 88, 91] → h[b]? = h0[b]?) → Q (some (.int 1)) h) (g1 : h[81]? = some (.inr (3, fs))) (g2 : h[88]? = some (.inl (0, 240, .inl g))) (fr91 : h[91]? = h0[91]?) (hp : Psi h) (fr : ∀ b : Nat, b ∉ [81, 88, 91] → h[b]? = h0[b]?) : sm_Go mc_B X Q 157 lv [] h := by
  refine sm_go_st (i := .iconst 1) (n := 1) (t := (158, lv, [.int 1], h)) rfl rfl ?_
  exact sm_go_rt (o := some (.int 1)) (i := .ireturn) (n := 1) rfl ⟨rfl, Or.inl ⟨rfl, 1, rfl, rfl, Or.inl rfl⟩⟩ (hQ h g g1 g2 fr91 hp fr)
set_option maxHeartbeats 4000000 in
theorem mc_loop (hP : ∀ (h : List va_E) (a : Nat) (e : va_E), a ∉ ai_pc → Psi h → Psi (h.set a e)) (ha : 0 ≤ a.toInt ∧ a.toInt ≤ 5) (hc : 0 ≤ c.toInt ∧ c.toInt ≤ 5) (hn : 0 ≤ n.toInt) (hb : 0 ≤ b.toInt ∧ b.toInt + n.toInt ≤ 40) (he : 0 ≤ e.toInt ∧ e.toInt + n.toInt ≤ 40) (f8 : fs[8]? = some (.ref 88)) (hQ : ∀ (h : List va_E) (g : Nat → Int32), h[81]? = some (.inr (3, fs)) → h[88]? = some (.inl (0, 240, .inl g)) → h[91]? = h0[91]? → Psi h → (∀ b : Nat, b ∉ [81, 88, 91] → h[b]? = h0[b]?) → Q (some (.int 1)) h) : ∀ (m : Nat) (j k0 : Int32) (h : List va_E) (g : Nat → Int32), 0 ≤ j.toInt → j.toInt ≤ n.toInt → (n.toInt - j.toInt).toNat < m → h[81]? = some (.inr (3, fs)) → h[88]? = some (.inl (0, 240, .inl g)) → h[91]? = h0[91]? → Psi h → (∀ b : Nat, b ∉ [81, 88, 91] → h[b]? = h0[b]?) → sm_Go mc_B X Q 96 [(7, .int j), (8, .int k0), (6, .int r), (0, .ref 81), (1, .int a), (2, .int b), (3, .int c), (4, .int e), (5, .int n)] [] h := by
  intro m
  induction m with
  | zero => intro j k0 h g _ _ h3; exact absurd h3 (Nat.not_lt_zero _)
  | succ m ih =>
    intro j k0 h g j1 j2 j3 g1 g2 fr91 hp fr
    refine sm_go_st (i := .iload 7) (n := 2) (t := (98, [(7, .int j), (8, .int k0), (6, .int r), (0, .ref 81), (1, .int a), (2, .int b), (3, .int c), (4, .int e), (5, .int n)], [.int j], h)) rfl rfl ?_
    refine sm_go_st (i := .iload 5) (n := 2) (t := (100, [(7, .int j), (8, .int k0), (6, .int r), (0, .ref 81), (1, .int a), (2, .int b), (3, .int c), (4, .int e), (5, .int n)], [.int n, .int j], h)) rfl rfl ?_
    refine sm_go_ic (t := 157) (q := .ge) (off := 57) rfl rfl (fun _ => ?_) (fun c1 => ?_)
    · exact mc_one hQ g1 g2 fr91 hp fr
    have c1 : ¬ n.toInt ≤ j.toInt := c1
    have rest : ∀ k : Int32, 0 ≤ k.toInt → k.toInt < n.toInt → sm_Go mc_B X Q 120 [(7, .int j), (8, .int k0), (6, .int r), (0, .ref 81), (1, .int a), (2, .int b), (3, .int c), (4, .int e), (5, .int n)] [.int k] h := by
      intro k k1 k2
      refine sm_go_st (i := .istore 8) (n := 2) (t := (122, [(8, .int k), (7, .int j), (6, .int r), (0, .ref 81), (1, .int a), (2, .int b), (3, .int c), (4, .int e), (5, .int n)], [], h)) rfl rfl ?_
      have m1 : (40 * c : Int32).toInt = 40 * c.toInt := mr_mul (x := 40) (y := c) (by show -2147483648 ≤ 40 * c.toInt; omega) (by show 40 * c.toInt < 2147483648; omega)
      have q1 : (40 * c + e : Int32).toInt = 40 * c.toInt + e.toInt := by rw [mr_add (by omega) (by omega), m1]
      have s1 : (40 * c + e + k : Int32).toInt = 40 * c.toInt + e.toInt + k.toInt := by rw [mr_add (by omega) (by omega), q1]
      have i1 : ¬ (40 * c + e + k < 0 ∨ 240 ≤ (40 * c + e + k).toNatClampNeg) := aw_in6 (q := ((40 * c + e + k).toInt, (40 * c + e + k).toInt)) ⟨Int.le_refl _, Int.le_refl _⟩ (by show 0 ≤ (40 * c + e + k).toInt; omega) (by show (40 * c + e + k).toInt < ((240 : Nat) : Int); omega)
      have m2 : (40 * a : Int32).toInt = 40 * a.toInt := mr_mul (x := 40) (y := a) (by show -2147483648 ≤ 40 * a.toInt; omega) (by show 40 * a.toInt < 2147483648; omega)
      have q2 : (40 * a + b : Int32).toInt = 40 * a.toInt + b.toInt := by rw [mr_add (by omega) (by omega), m2]
      have s2 : (40 * a + b + k : Int32).toInt = 40 * a.toInt + b.toInt + k.toInt := by rw [mr_add (by omega) (by omega), q2]
      have i2 : ¬ (40 * a + b + k < 0 ∨ 240 ≤ (40 * a + b + k).toNatClampNeg) := aw_in6 (q := ((40 * a + b + k).toInt, (40 * a + b + k).toInt)) ⟨Int.le_refl _, Int.le_refl _⟩ (by show 0 ≤ (40 * a + b + k).toInt; omega) (by show (40 * a + b + k).toInt < ((240 : Nat) : Int); omega)
      refine sm_go_st (i := .aload_n 0) (n := 1) (t := (123, [(8, .int k), (7, .int j), (6, .int r), (0, .ref 81), (1, .int a), (2, .int b), (3, .int c), (4, .int e), (5, .int n)], [.ref 81], h)) rfl rfl ?_
      refine sm_go_gf (r := []) (v := .ref 88) rfl rfl g1 f8 ?_
      refine sm_go_st (i := .bipush 40) (n := 2) (t := (128, [(8, .int k), (7, .int j), (6, .int r), (0, .ref 81), (1, .int a), (2, .int b), (3, .int c), (4, .int e), (5, .int n)], [.int 40, .ref 88], h)) rfl rfl ?_
      refine sm_go_st (i := .iload_n 3) (n := 1) (t := (129, [(8, .int k), (7, .int j), (6, .int r), (0, .ref 81), (1, .int a), (2, .int b), (3, .int c), (4, .int e), (5, .int n)], [.int c, .int 40, .ref 88], h)) rfl rfl ?_
      refine sm_go_st (i := .imul) (n := 1) (t := (130, [(8, .int k), (7, .int j), (6, .int r), (0, .ref 81), (1, .int a), (2, .int b), (3, .int c), (4, .int e), (5, .int n)], [.int (40 * c), .ref 88], h)) rfl rfl ?_
      refine sm_go_st (i := .iload 4) (n := 2) (t := (132, [(8, .int k), (7, .int j), (6, .int r), (0, .ref 81), (1, .int a), (2, .int b), (3, .int c), (4, .int e), (5, .int n)], [.int e, .int (40 * c), .ref 88], h)) rfl rfl ?_
      refine sm_go_st (i := .iadd) (n := 1) (t := (133, [(8, .int k), (7, .int j), (6, .int r), (0, .ref 81), (1, .int a), (2, .int b), (3, .int c), (4, .int e), (5, .int n)], [.int ((40 * c) + e), .ref 88], h)) rfl rfl ?_
      refine sm_go_st (i := .iload 8) (n := 2) (t := (135, [(8, .int k), (7, .int j), (6, .int r), (0, .ref 81), (1, .int a), (2, .int b), (3, .int c), (4, .int e), (5, .int n)], [.int k, .int ((40 * c) + e), .ref 88], h)) rfl rfl ?_
      refine sm_go_st (i := .iadd) (n := 1) (t := (136, [(8, .int k), (7, .int j), (6, .int r), (0, .ref 81), (1, .int a), (2, .int b), (3, .int c), (4, .int e), (5, .int n)], [.int (((40 * c) + e) + k), .ref 88], h)) rfl rfl ?_
      refine sm_go_st (i := .aload_n 0) (n := 1) (t := (137, [(8, .int k), (7, .int j), (6, .int r), (0, .ref 81), (1, .int a), (2, .int b), (3, .int c), (4, .int e), (5, .int n)], [.ref 81, .int (((40 * c) + e) + k), .ref 88], h)) rfl rfl ?_
      refine sm_go_gf (r := [.int (((40 * c) + e) + k), .ref 88]) (v := .ref 88) rfl rfl g1 f8 ?_
      refine sm_go_st (i := .bipush 40) (n := 2) (t := (142, [(8, .int k), (7, .int j), (6, .int r), (0, .ref 81), (1, .int a), (2, .int b), (3, .int c), (4, .int e), (5, .int n)], [.int 40, .ref 88, .int (((40 * c) + e) + k), .ref 88], h)) rfl rfl ?_
      refine sm_go_st (i := .iload_n 1) (n := 1) (t := (143, [(8, .int k), (7, .int j), (6, .int r), (0, .ref 81), (1, .int a), (2, .int b), (3, .int c), (4, .int e), (5, .int n)], [.int a, .int 40, .ref 88, .int (((40 * c) + e) + k), .ref 88], h)) rfl rfl ?_
      refine sm_go_st (i := .imul) (n := 1) (t := (144, [(8, .int k), (7, .int j), (6, .int r), (0, .ref 81), (1, .int a), (2, .int b), (3, .int c), (4, .int e), (5, .int n)], [.int (40 * a), .ref 88, .int (((40 * c) + e) + k), .ref 88], h)) rfl rfl ?_
      refine sm_go_st (i := .iload_n 2) (n := 1) (t := (145, [(8, .int k), (7, .int j), (6, .int r), (0, .ref 81), (1, .int a), (2, .int b), (3, .int c), (4, .int e), (5, .int n)], [.int b, .int (40 * a), .ref 88, .int (((40 * c) + e) + k), .ref 88], h)) rfl rfl ?_
      refine sm_go_st (i := .iadd) (n := 1) (t := (146, [(8, .int k), (7, .int j), (6, .int r), (0, .ref 81), (1, .int a), (2, .int b), (3, .int c), (4, .int e), (5, .int n)], [.int ((40 * a) + b), .ref 88, .int (((40 * c) + e) + k), .ref 88], h)) rfl rfl ?_
      refine sm_go_st (i := .iload 8) (n := 2) (t := (148, [(8, .int k), (7, .int j), (6, .int r), (0, .ref 81), (1, .int a), (2, .int b), (3, .int c), (4, .int e), (5, .int n)], [.int k, .int ((40 * a) + b), .ref 88, .int (((40 * c) + e) + k), .ref 88], h)) rfl rfl ?_
      refine sm_go_st (i := .iadd) (n := 1) (t := (149, [(8, .int k), (7, .int j), (6, .int r), (0, .ref 81), (1, .int a), (2, .int b), (3, .int c), (4, .int e), (5, .int n)], [.int (((40 * a) + b) + k), .ref 88, .int (((40 * c) + e) + k), .ref 88], h)) rfl rfl ?_
      refine sm_go_ia (r := [.int (((40 * c) + e) + k), .ref 88]) rfl g2 (by decide) i2 ?_
      refine sm_go_is (r := []) rfl g2 i1 ?_
      generalize hg : upd g (40 * c + e + k).toNatClampNeg (g (40 * a + b + k).toNatClampNeg) = g'
      refine sm_go_st (i := .iinc 7 1) (n := 3) (t := (154, [(7, .int (j + 1)), (8, .int k), (6, .int r), (0, .ref 81), (1, .int a), (2, .int b), (3, .int c), (4, .int e), (5, .int n)], [], (h.set 88 (.inl (0, 240, .inl g'))))) rfl rfl ?_
      refine sm_go_st (i := .goto (-58)) (n := 3) (t := (96, [(7, .int (j + 1)), (8, .int k), (6, .int r), (0, .ref 81), (1, .int a), (2, .int b), (3, .int c), (4, .int e), (5, .int n)], [], (h.set 88 (.inl (0, 240, .inl g'))))) rfl rfl ?_
      have hj := mr_1 (i := j) (by have := n.toInt_lt; omega)
      have g1' : (h.set 88 (.inl (0, 240, .inl g')))[81]? = some (.inr (3, fs)) := by rw [List.getElem?_set_ne (by decide)]; exact g1
      have g2' : (h.set 88 (.inl (0, 240, .inl g')))[88]? = some (.inl (0, 240, .inl g')) := sm_set_s g2
      have fr' : ∀ b : Nat, b ∉ [81, 88, 91] → (h.set 88 (.inl (0, 240, .inl g')))[b]? = h0[b]? := fun b hb => by rw [List.getElem?_set_ne (fun z => hb (by rw [← z]; exact List.mem_cons_of_mem _ List.mem_cons_self))]; exact fr b hb
      have fr91' : (h.set 88 (.inl (0, 240, .inl g')))[91]? = h0[91]? := by rw [List.getElem?_set_ne (by decide)]; exact fr91
      exact ih (j + 1) k _ g' (by omega) (by omega) (by omega) g1' g2' fr91' (hP _ _ _ (by decide) hp) fr'
    refine sm_go_st (i := .iload 6) (n := 2) (t := (105, [(7, .int j), (8, .int k0), (6, .int r), (0, .ref 81), (1, .int a), (2, .int b), (3, .int c), (4, .int e), (5, .int n)], [.int r], h)) rfl rfl ?_
    refine sm_go_if (t := 118) (q := .eq) (off := 13) rfl rfl (fun _ => ?_) (fun _ => ?_)
    · show sm_Go mc_B X Q 118 [(7, .int j), (8, .int k0), (6, .int r), (0, .ref 81), (1, .int a), (2, .int b), (3, .int c), (4, .int e), (5, .int n)] [] h
      refine sm_go_st (i := .iload 7) (n := 2) (t := (120, [(7, .int j), (8, .int k0), (6, .int r), (0, .ref 81), (1, .int a), (2, .int b), (3, .int c), (4, .int e), (5, .int n)], [.int j], h)) rfl rfl ?_
      exact rest j (by omega) (by omega)
    refine sm_go_st (i := .iload 5) (n := 2) (t := (110, [(7, .int j), (8, .int k0), (6, .int r), (0, .ref 81), (1, .int a), (2, .int b), (3, .int c), (4, .int e), (5, .int n)], [.int n], h)) rfl rfl ?_
    refine sm_go_st (i := .iconst 1) (n := 1) (t := (111, [(7, .int j), (8, .int k0), (6, .int r), (0, .ref 81), (1, .int a), (2, .int b), (3, .int c), (4, .int e), (5, .int n)], [.int 1, .int n], h)) rfl rfl ?_
    refine sm_go_st (i := .isub) (n := 1) (t := (112, [(7, .int j), (8, .int k0), (6, .int r), (0, .ref 81), (1, .int a), (2, .int b), (3, .int c), (4, .int e), (5, .int n)], [.int (n - 1)], h)) rfl rfl ?_
    refine sm_go_st (i := .iload 7) (n := 2) (t := (114, [(7, .int j), (8, .int k0), (6, .int r), (0, .ref 81), (1, .int a), (2, .int b), (3, .int c), (4, .int e), (5, .int n)], [.int j, .int (n - 1)], h)) rfl rfl ?_
    refine sm_go_st (i := .isub) (n := 1) (t := (115, [(7, .int j), (8, .int k0), (6, .int r), (0, .ref 81), (1, .int a), (2, .int b), (3, .int c), (4, .int e), (5, .int n)], [.int ((n - 1) - j)], h)) rfl rfl ?_
    refine sm_go_st (i := .goto 5) (n := 3) (t := (120, [(7, .int j), (8, .int k0), (6, .int r), (0, .ref 81), (1, .int a), (2, .int b), (3, .int c), (4, .int e), (5, .int n)], [.int ((n - 1) - j)], h)) rfl rfl ?_
    have k1 : (n - 1).toInt = n.toInt - 1 := fg_sub (by omega)
    have k2 : (n - 1 - j).toInt = n.toInt - 1 - j.toInt := by rw [Int32.toInt_sub, k1]; exact Int.bmod_eq_of_le (by have := n.toInt_lt; omega) (by have := n.toInt_lt; omega)
    exact rest (n - 1 - j) (by omega) (by omega)
set_option maxHeartbeats 4000000 in
theorem mc_first (hP : ∀ (h : List va_E) (a : Nat) (e : va_E), a ∉ ai_pc → Psi h → Psi (h.set a e)) (ha : 0 ≤ a.toInt ∧ a.toInt ≤ 5) (hc : 0 ≤ c.toInt ∧ c.toInt ≤ 5) (hn : 0 ≤ n.toInt) (hb : 0 ≤ b.toInt ∧ b.toInt + n.toInt ≤ 40) (he : 0 ≤ e.toInt ∧ e.toInt + n.toInt ≤ 40) (f8 : fs[8]? = some (.ref 88)) (hQ : ∀ (h : List va_E) (g : Nat → Int32), h[81]? = some (.inr (3, fs)) → h[88]? = some (.inl (0, 240, .inl g)) → h[91]? = h0[91]? → Psi h → (∀ b : Nat, b ∉ [81, 88, 91] → h[b]? = h0[b]?) → Q (some (.int 1)) h) (j : Int32) (j0 : j.toInt = 0) (h : List va_E) (g : Nat → Int32) (g1 : h[81]? = some (.inr (3, fs))) (g2 : h[88]? = some (.inl (0, 240, .inl g))) (fr91 : h[91]? = h0[91]?) (hp : Psi h) (fr : ∀ b : Nat, b ∉ [81, 88, 91] → h[b]? = h0[b]?) : sm_Go mc_B X Q 96 [(7, .int j), (6, .int r), (0, .ref 81), (1, .int a), (2, .int b), (3, .int c), (4, .int e), (5, .int n)] [] h := by
  refine sm_go_st (i := .iload 7) (n := 2) (t := (98, [(7, .int j), (6, .int r), (0, .ref 81), (1, .int a), (2, .int b), (3, .int c), (4, .int e), (5, .int n)], [.int j], h)) rfl rfl ?_
  refine sm_go_st (i := .iload 5) (n := 2) (t := (100, [(7, .int j), (6, .int r), (0, .ref 81), (1, .int a), (2, .int b), (3, .int c), (4, .int e), (5, .int n)], [.int n, .int j], h)) rfl rfl ?_
  refine sm_go_ic (t := 157) (q := .ge) (off := 57) rfl rfl (fun _ => ?_) (fun c1 => ?_)
  · exact mc_one hQ g1 g2 fr91 hp fr
  have c1 : ¬ n.toInt ≤ j.toInt := c1
  have rest : ∀ k : Int32, 0 ≤ k.toInt → k.toInt < n.toInt → sm_Go mc_B X Q 120 [(7, .int j), (6, .int r), (0, .ref 81), (1, .int a), (2, .int b), (3, .int c), (4, .int e), (5, .int n)] [.int k] h := by
    intro k k1 k2
    refine sm_go_st (i := .istore 8) (n := 2) (t := (122, [(8, .int k), (7, .int j), (6, .int r), (0, .ref 81), (1, .int a), (2, .int b), (3, .int c), (4, .int e), (5, .int n)], [], h)) rfl rfl ?_
    have m1 : (40 * c : Int32).toInt = 40 * c.toInt := mr_mul (x := 40) (y := c) (by show -2147483648 ≤ 40 * c.toInt; omega) (by show 40 * c.toInt < 2147483648; omega)
    have q1 : (40 * c + e : Int32).toInt = 40 * c.toInt + e.toInt := by rw [mr_add (by omega) (by omega), m1]
    have s1 : (40 * c + e + k : Int32).toInt = 40 * c.toInt + e.toInt + k.toInt := by rw [mr_add (by omega) (by omega), q1]
    have i1 : ¬ (40 * c + e + k < 0 ∨ 240 ≤ (40 * c + e + k).toNatClampNeg) := aw_in6 (q := ((40 * c + e + k).toInt, (40 * c + e + k).toInt)) ⟨Int.le_refl _, Int.le_refl _⟩ (by show 0 ≤ (40 * c + e + k).toInt; omega) (by show (40 * c + e + k).toInt < ((240 : Nat) : Int); omega)
    have m2 : (40 * a : Int32).toInt = 40 * a.toInt := mr_mul (x := 40) (y := a) (by show -2147483648 ≤ 40 * a.toInt; omega) (by show 40 * a.toInt < 2147483648; omega)
    have q2 : (40 * a + b : Int32).toInt = 40 * a.toInt + b.toInt := by rw [mr_add (by omega) (by omega), m2]
    have s2 : (40 * a + b + k : Int32).toInt = 40 * a.toInt + b.toInt + k.toInt := by rw [mr_add (by omega) (by omega), q2]
    have i2 : ¬ (40 * a + b + k < 0 ∨ 240 ≤ (40 * a + b + k).toNatClampNeg) := aw_in6 (q := ((40 * a + b + k).toInt, (40 * a + b + k).toInt)) ⟨Int.le_refl _, Int.le_refl _⟩ (by show 0 ≤ (40 * a + b + k).toInt; omega) (by show (40 * a + b + k).toInt < ((240 : Nat) : Int); omega)
    refine sm_go_st (i := .aload_n 0) (n := 1) (t := (123, [(8, .int k), (7, .int j), (6, .int r), (0, .ref 81), (1, .int a), (2, .int b), (3, .int c), (4, .int e), (5, .int n)], [.ref 81], h)) rfl rfl ?_
    refine sm_go_gf (r := []) (v := .ref 88) rfl rfl g1 f8 ?_
    refine sm_go_st (i := .bipush 40) (n := 2) (t := (128, [(8, .int k), (7, .int j), (6, .int r), (0, .ref 81), (1, .int a), (2, .int b), (3, .int c), (4, .int e), (5, .int n)], [.int 40, .ref 88], h)) rfl rfl ?_
    refine sm_go_st (i := .iload_n 3) (n := 1) (t := (129, [(8, .int k), (7, .int j), (6, .int r), (0, .ref 81), (1, .int a), (2, .int b), (3, .int c), (4, .int e), (5, .int n)], [.int c, .int 40, .ref 88], h)) rfl rfl ?_
    refine sm_go_st (i := .imul) (n := 1) (t := (130, [(8, .int k), (7, .int j), (6, .int r), (0, .ref 81), (1, .int a), (2, .int b), (3, .int c), (4, .int e), (5, .int n)], [.int (40 * c), .ref 88], h)) rfl rfl ?_
    refine sm_go_st (i := .iload 4) (n := 2) (t := (132, [(8, .int k), (7, .int j), (6, .int r), (0, .ref 81), (1, .int a), (2, .int b), (3, .int c), (4, .int e), (5, .int n)], [.int e, .int (40 * c), .ref 88], h)) rfl rfl ?_
    refine sm_go_st (i := .iadd) (n := 1) (t := (133, [(8, .int k), (7, .int j), (6, .int r), (0, .ref 81), (1, .int a), (2, .int b), (3, .int c), (4, .int e), (5, .int n)], [.int ((40 * c) + e), .ref 88], h)) rfl rfl ?_
    refine sm_go_st (i := .iload 8) (n := 2) (t := (135, [(8, .int k), (7, .int j), (6, .int r), (0, .ref 81), (1, .int a), (2, .int b), (3, .int c), (4, .int e), (5, .int n)], [.int k, .int ((40 * c) + e), .ref 88], h)) rfl rfl ?_
    refine sm_go_st (i := .iadd) (n := 1) (t := (136, [(8, .int k), (7, .int j), (6, .int r), (0, .ref 81), (1, .int a), (2, .int b), (3, .int c), (4, .int e), (5, .int n)], [.int (((40 * c) + e) + k), .ref 88], h)) rfl rfl ?_
    refine sm_go_st (i := .aload_n 0) (n := 1) (t := (137, [(8, .int k), (7, .int j), (6, .int r), (0, .ref 81), (1, .int a), (2, .int b), (3, .int c), (4, .int e), (5, .int n)], [.ref 81, .int (((40 * c) + e) + k), .ref 88], h)) rfl rfl ?_
    refine sm_go_gf (r := [.int (((40 * c) + e) + k), .ref 88]) (v := .ref 88) rfl rfl g1 f8 ?_
    refine sm_go_st (i := .bipush 40) (n := 2) (t := (142, [(8, .int k), (7, .int j), (6, .int r), (0, .ref 81), (1, .int a), (2, .int b), (3, .int c), (4, .int e), (5, .int n)], [.int 40, .ref 88, .int (((40 * c) + e) + k), .ref 88], h)) rfl rfl ?_
    refine sm_go_st (i := .iload_n 1) (n := 1) (t := (143, [(8, .int k), (7, .int j), (6, .int r), (0, .ref 81), (1, .int a), (2, .int b), (3, .int c), (4, .int e), (5, .int n)], [.int a, .int 40, .ref 88, .int (((40 * c) + e) + k), .ref 88], h)) rfl rfl ?_
    refine sm_go_st (i := .imul) (n := 1) (t := (144, [(8, .int k), (7, .int j), (6, .int r), (0, .ref 81), (1, .int a), (2, .int b), (3, .int c), (4, .int e), (5, .int n)], [.int (40 * a), .ref 88, .int (((40 * c) + e) + k), .ref 88], h)) rfl rfl ?_
    refine sm_go_st (i := .iload_n 2) (n := 1) (t := (145, [(8, .int k), (7, .int j), (6, .int r), (0, .ref 81), (1, .int a), (2, .int b), (3, .int c), (4, .int e), (5, .int n)], [.int b, .int (40 * a), .ref 88, .int (((40 * c) + e) + k), .ref 88], h)) rfl rfl ?_
    refine sm_go_st (i := .iadd) (n := 1) (t := (146, [(8, .int k), (7, .int j), (6, .int r), (0, .ref 81), (1, .int a), (2, .int b), (3, .int c), (4, .int e), (5, .int n)], [.int ((40 * a) + b), .ref 88, .int (((40 * c) + e) + k), .ref 88], h)) rfl rfl ?_
    refine sm_go_st (i := .iload 8) (n := 2) (t := (148, [(8, .int k), (7, .int j), (6, .int r), (0, .ref 81), (1, .int a), (2, .int b), (3, .int c), (4, .int e), (5, .int n)], [.int k, .int ((40 * a) + b), .ref 88, .int (((40 * c) + e) + k), .ref 88], h)) rfl rfl ?_
    refine sm_go_st (i := .iadd) (n := 1) (t := (149, [(8, .int k), (7, .int j), (6, .int r), (0, .ref 81), (1, .int a), (2, .int b), (3, .int c), (4, .int e), (5, .int n)], [.int (((40 * a) + b) + k), .ref 88, .int (((40 * c) + e) + k), .ref 88], h)) rfl rfl ?_
    refine sm_go_ia (r := [.int (((40 * c) + e) + k), .ref 88]) rfl g2 (by decide) i2 ?_
    refine sm_go_is (r := []) rfl g2 i1 ?_
    generalize hg : upd g (40 * c + e + k).toNatClampNeg (g (40 * a + b + k).toNatClampNeg) = g'
    refine sm_go_st (i := .iinc 7 1) (n := 3) (t := (154, [(7, .int (j + 1)), (8, .int k), (6, .int r), (0, .ref 81), (1, .int a), (2, .int b), (3, .int c), (4, .int e), (5, .int n)], [], (h.set 88 (.inl (0, 240, .inl g'))))) rfl rfl ?_
    refine sm_go_st (i := .goto (-58)) (n := 3) (t := (96, [(7, .int (j + 1)), (8, .int k), (6, .int r), (0, .ref 81), (1, .int a), (2, .int b), (3, .int c), (4, .int e), (5, .int n)], [], (h.set 88 (.inl (0, 240, .inl g'))))) rfl rfl ?_
    have hj := mr_1 (i := j) (by have := n.toInt_lt; omega)
    have g1' : (h.set 88 (.inl (0, 240, .inl g')))[81]? = some (.inr (3, fs)) := by rw [List.getElem?_set_ne (by decide)]; exact g1
    have g2' : (h.set 88 (.inl (0, 240, .inl g')))[88]? = some (.inl (0, 240, .inl g')) := sm_set_s g2
    have fr' : ∀ b : Nat, b ∉ [81, 88, 91] → (h.set 88 (.inl (0, 240, .inl g')))[b]? = h0[b]? := fun b hb => by rw [List.getElem?_set_ne (fun z => hb (by rw [← z]; exact List.mem_cons_of_mem _ List.mem_cons_self))]; exact fr b hb
    have fr91' : (h.set 88 (.inl (0, 240, .inl g')))[91]? = h0[91]? := by rw [List.getElem?_set_ne (by decide)]; exact fr91
    exact mc_loop hP ha hc hn hb he f8 hQ _ (j + 1) k _ g' (by omega) (by omega) (Nat.lt_succ_self _) g1' g2' fr91' (hP _ _ _ (by decide) hp) fr'
  refine sm_go_st (i := .iload 6) (n := 2) (t := (105, [(7, .int j), (6, .int r), (0, .ref 81), (1, .int a), (2, .int b), (3, .int c), (4, .int e), (5, .int n)], [.int r], h)) rfl rfl ?_
  refine sm_go_if (t := 118) (q := .eq) (off := 13) rfl rfl (fun _ => ?_) (fun _ => ?_)
  · show sm_Go mc_B X Q 118 [(7, .int j), (6, .int r), (0, .ref 81), (1, .int a), (2, .int b), (3, .int c), (4, .int e), (5, .int n)] [] h
    refine sm_go_st (i := .iload 7) (n := 2) (t := (120, [(7, .int j), (6, .int r), (0, .ref 81), (1, .int a), (2, .int b), (3, .int c), (4, .int e), (5, .int n)], [.int j], h)) rfl rfl ?_
    exact rest j (by omega) (by omega)
  refine sm_go_st (i := .iload 5) (n := 2) (t := (110, [(7, .int j), (6, .int r), (0, .ref 81), (1, .int a), (2, .int b), (3, .int c), (4, .int e), (5, .int n)], [.int n], h)) rfl rfl ?_
  refine sm_go_st (i := .iconst 1) (n := 1) (t := (111, [(7, .int j), (6, .int r), (0, .ref 81), (1, .int a), (2, .int b), (3, .int c), (4, .int e), (5, .int n)], [.int 1, .int n], h)) rfl rfl ?_
  refine sm_go_st (i := .isub) (n := 1) (t := (112, [(7, .int j), (6, .int r), (0, .ref 81), (1, .int a), (2, .int b), (3, .int c), (4, .int e), (5, .int n)], [.int (n - 1)], h)) rfl rfl ?_
  refine sm_go_st (i := .iload 7) (n := 2) (t := (114, [(7, .int j), (6, .int r), (0, .ref 81), (1, .int a), (2, .int b), (3, .int c), (4, .int e), (5, .int n)], [.int j, .int (n - 1)], h)) rfl rfl ?_
  refine sm_go_st (i := .isub) (n := 1) (t := (115, [(7, .int j), (6, .int r), (0, .ref 81), (1, .int a), (2, .int b), (3, .int c), (4, .int e), (5, .int n)], [.int ((n - 1) - j)], h)) rfl rfl ?_
  refine sm_go_st (i := .goto 5) (n := 3) (t := (120, [(7, .int j), (6, .int r), (0, .ref 81), (1, .int a), (2, .int b), (3, .int c), (4, .int e), (5, .int n)], [.int ((n - 1) - j)], h)) rfl rfl ?_
  have k1 : (n - 1).toInt = n.toInt - 1 := fg_sub (by omega)
  have k2 : (n - 1 - j).toInt = n.toInt - 1 - j.toInt := by rw [Int32.toInt_sub, k1]; exact Int.bmod_eq_of_le (by have := n.toInt_lt; omega) (by have := n.toInt_lt; omega)
  exact rest (n - 1 - j) (by omega) (by omega)
end MCL
set_option maxHeartbeats 4000000 in
theorem mc_ok {Psi : List va_E → Prop} (hP : ∀ (h : List va_E) (a : Nat) (e : va_E), a ∉ ai_pc → Psi h → Psi (h.set a e)) {d : Nat} {vs : List aw_V} (v7 : vs[7]? = some (.inl 87)) (v8 : vs[8]? = some (.inl 88)) (v14 : vs[14]? = some (.inr (false, ar_t32))) (v15 : vs[15]? = some (.inl 91)) : ak_ok Psi (sm_Ex 200 sm_ML sm_B (d + 3)) (mc_c vs) := by
  refine sm_hand (B := mc_B) (show (113 : Nat) < 200 by decide) rfl (show (6 : Nat) ≤ sm_ML 113 by decide +kernel) ?_
  intro ws h hv hh hPs
  match ws, hv with
  | [v0, v1, v2, v3, v4, v5], hv =>
    obtain ⟨e0, e1, e2, e3, e4, e5, -⟩ := hv
    have e0 : v0 = .ref 81 := e0
    obtain ⟨a, rfl, -⟩ := sm_vi e1
    obtain ⟨b, rfl, -⟩ := sm_vi e2
    obtain ⟨c, rfl, -⟩ := sm_vi e3
    obtain ⟨e, rfl, -⟩ := sm_vi e4
    obtain ⟨n, rfl, -⟩ := sm_vi e5
    subst e0
    obtain ⟨e, g1, fs, rfl, hl, hfs⟩ := hh (81, .inl (3, vs)) List.mem_cons_self
    obtain ⟨e, g87, fz, rfl, hz, -⟩ := hh (87, .inr (.inl (0, 6, [(0, 5, [(-1, 40)])], []))) (List.mem_cons_of_mem _ List.mem_cons_self)
    obtain ⟨e, g88, g, rfl, -, -⟩ := hh (88, .inr (.inl (0, 240, [], []))) (List.mem_cons_of_mem _ (List.mem_cons_of_mem _ List.mem_cons_self))
    obtain ⟨e, g91, gf, rfl, -, -⟩ := hh (91, .inr (.inl (0, 6, [], []))) (List.mem_cons_of_mem _ (List.mem_cons_of_mem _ (List.mem_cons_of_mem _ List.mem_cons_self)))
    have hz : ∀ j : Nat, j < 6 → -1 ≤ (fz j).toInt ∧ (fz j).toInt ≤ 40 := fun j hj => ar_1 (hz _ List.mem_cons_self j (Nat.zero_le _) (by show j ≤ 5; omega))
    obtain ⟨w7, f7, m7⟩ := mo_get hl hfs v7
    have m7 : w7 = .ref 87 := m7
    subst m7
    obtain ⟨w8, f8, m8⟩ := mo_get hl hfs v8
    have m8 : w8 = .ref 88 := m8
    subst m8
    obtain ⟨w15, f15, m15⟩ := mo_get hl hfs v15
    have m15 : w15 = .ref 91 := m15
    subst m15
    have hfit : aw_c (.inl (3, vs)) (.inr (3, fs)) := ⟨fs, rfl, hl, hfs⟩
    have bad : sm_Go mc_B (sm_Ex 200 sm_ML sm_B (d + 2)) (mc_Q Psi vs [.ref 81, .int a, .int b, .int c, .int e, .int n] h) 14 [(0, .ref 81), (1, .int a), (2, .int b), (3, .int c), (4, .int e), (5, .int n)] [] h := by
      refine sm_go_st (i := .iconst (-1)) (n := 1) (t := (15, [(0, .ref 81), (1, .int a), (2, .int b), (3, .int c), (4, .int e), (5, .int n)], [.int (-1)], h)) rfl rfl ?_
      exact sm_go_rt (o := some (.int (-1))) (i := .ireturn) (n := 1) rfl ⟨rfl, Or.inl ⟨rfl, -1, rfl, rfl, Or.inl rfl⟩⟩ ⟨hPs, fun _ _ => rfl, mc_end (mc_hh g1 g88 g91 hfit) (-1) (Or.inl rfl)⟩
    show sm_Go mc_B (sm_Ex 200 sm_ML sm_B (d + 2)) (mc_Q Psi vs [.ref 81, .int a, .int b, .int c, .int e, .int n] h) 0 [(0, .ref 81), (1, .int a), (2, .int b), (3, .int c), (4, .int e), (5, .int n)] [] h
    refine sm_go_st (i := .iload_n 1) (n := 1) (t := (1, [(0, .ref 81), (1, .int a), (2, .int b), (3, .int c), (4, .int e), (5, .int n)], [.int a], h)) rfl rfl ?_
    obtain ⟨q1, x1, k1⟩ := ir_run (d := d) a h
    refine sm_go_cl (i := .invokestatic 77) (n := 3) (k := 104) (vs := [.int a]) (r := []) rfl ⟨rfl, by decide, Or.inr (Or.inl ⟨77, 3, rfl, rfl, rfl⟩)⟩ x1 ?_
    refine sm_go_if (t := 14) (q := .eq) (off := 10) rfl rfl (fun _ => bad) (fun c1 => ?_)
    have ha := k1 c1
    refine sm_go_st (i := .iload_n 3) (n := 1) (t := (8, [(0, .ref 81), (1, .int a), (2, .int b), (3, .int c), (4, .int e), (5, .int n)], [.int c], h)) rfl rfl ?_
    obtain ⟨q2, x2, k2⟩ := ir_run (d := d) c h
    refine sm_go_cl (i := .invokestatic 77) (n := 3) (k := 104) (vs := [.int c]) (r := []) rfl ⟨rfl, by decide, Or.inr (Or.inl ⟨77, 3, rfl, rfl, rfl⟩)⟩ x2 ?_
    refine sm_go_if (t := 16) (q := .ne) (off := 5) rfl rfl (fun c2 => ?_) (fun _ => bad)
    have hc := k2 c2
    have ia : ¬ (a < 0 ∨ 6 ≤ a.toNatClampNeg) := aw_in6 (q := (a.toInt, a.toInt)) (n := 6) ⟨Int.le_refl _, Int.le_refl _⟩ ha.1 (by show a.toInt < ((6 : Nat) : Int); omega)
    have ic : ¬ (c < 0 ∨ 6 ≤ c.toNatClampNeg) := aw_in6 (q := (c.toInt, c.toInt)) (n := 6) ⟨Int.le_refl _, Int.le_refl _⟩ hc.1 (by show c.toInt < ((6 : Nat) : Int); omega)
    have na := aw_ix (i := a) ha.1
    have nc := aw_ix (i := c) hc.1
    have za := hz a.toNatClampNeg (by omega)
    have zc := hz c.toNatClampNeg (by omega)
    refine sm_go_st (i := .iload 5) (n := 2) (t := (18, [(0, .ref 81), (1, .int a), (2, .int b), (3, .int c), (4, .int e), (5, .int n)], [.int n], h)) rfl rfl ?_
    refine sm_go_if (t := 27) (q := .ge) (off := 9) rfl rfl (fun c3 => ?_) (fun c3 => ?_)
    rotate_left
    · show sm_Go mc_B (sm_Ex 200 sm_ML sm_B (d + 2)) (mc_Q Psi vs [.ref 81, .int a, .int b, .int c, .int e, .int n] h) 21 [(0, .ref 81), (1, .int a), (2, .int b), (3, .int c), (4, .int e), (5, .int n)] [] h
      refine sm_go_st (i := .aload_n 0) (n := 1) (t := (22, [(0, .ref 81), (1, .int a), (2, .int b), (3, .int c), (4, .int e), (5, .int n)], [.ref 81], h)) rfl rfl ?_
      refine sm_go_st (i := .iconst 5) (n := 1) (t := (23, [(0, .ref 81), (1, .int a), (2, .int b), (3, .int c), (4, .int e), (5, .int n)], [.int 5, .ref 81], h)) rfl rfl ?_
      exact mc_no (d := d + 1) hP g1 g88 g91 hl hfs v14 f15 hPs 5 (by decide) rfl rfl
    have c3 : 0 ≤ n.toInt := c3
    have no1 : sm_Go mc_B (sm_Ex 200 sm_ML sm_B (d + 2)) (mc_Q Psi vs [.ref 81, .int a, .int b, .int c, .int e, .int n] h) 45 [(0, .ref 81), (1, .int a), (2, .int b), (3, .int c), (4, .int e), (5, .int n)] [] h := by
      refine sm_go_st (i := .aload_n 0) (n := 1) (t := (46, [(0, .ref 81), (1, .int a), (2, .int b), (3, .int c), (4, .int e), (5, .int n)], [.ref 81], h)) rfl rfl ?_
      refine sm_go_st (i := .iconst 1) (n := 1) (t := (47, [(0, .ref 81), (1, .int a), (2, .int b), (3, .int c), (4, .int e), (5, .int n)], [.int 1, .ref 81], h)) rfl rfl ?_
      exact mc_no (d := d + 1) hP g1 g88 g91 hl hfs v14 f15 hPs 1 (by decide) rfl rfl
    have no2 : sm_Go mc_B (sm_Ex 200 sm_ML sm_B (d + 2)) (mc_Q Psi vs [.ref 81, .int a, .int b, .int c, .int e, .int n] h) 74 [(0, .ref 81), (1, .int a), (2, .int b), (3, .int c), (4, .int e), (5, .int n)] [] h := by
      refine sm_go_st (i := .aload_n 0) (n := 1) (t := (75, [(0, .ref 81), (1, .int a), (2, .int b), (3, .int c), (4, .int e), (5, .int n)], [.ref 81], h)) rfl rfl ?_
      refine sm_go_st (i := .iconst 2) (n := 1) (t := (76, [(0, .ref 81), (1, .int a), (2, .int b), (3, .int c), (4, .int e), (5, .int n)], [.int 2, .ref 81], h)) rfl rfl ?_
      exact mc_no (d := d + 1) hP g1 g88 g91 hl hfs v14 f15 hPs 2 (by decide) rfl rfl
    refine sm_go_st (i := .aload_n 0) (n := 1) (t := (28, [(0, .ref 81), (1, .int a), (2, .int b), (3, .int c), (4, .int e), (5, .int n)], [.ref 81], h)) rfl rfl ?_
    refine sm_go_gf (r := []) (v := .ref 87) rfl rfl g1 f7 ?_
    refine sm_go_st (i := .iload_n 1) (n := 1) (t := (32, [(0, .ref 81), (1, .int a), (2, .int b), (3, .int c), (4, .int e), (5, .int n)], [.int a, .ref 87], h)) rfl rfl ?_
    refine sm_go_ia (r := []) rfl g87 (by decide) ia ?_
    refine sm_go_if (t := 45) (q := .lt) (off := 12) rfl rfl (fun _ => no1) (fun c4 => ?_)
    refine sm_go_st (i := .aload_n 0) (n := 1) (t := (37, [(0, .ref 81), (1, .int a), (2, .int b), (3, .int c), (4, .int e), (5, .int n)], [.ref 81], h)) rfl rfl ?_
    refine sm_go_gf (r := []) (v := .ref 87) rfl rfl g1 f7 ?_
    refine sm_go_st (i := .iload_n 3) (n := 1) (t := (41, [(0, .ref 81), (1, .int a), (2, .int b), (3, .int c), (4, .int e), (5, .int n)], [.int c, .ref 87], h)) rfl rfl ?_
    refine sm_go_ia (r := []) rfl g87 (by decide) ic ?_
    refine sm_go_if (t := 51) (q := .ge) (off := 9) rfl rfl (fun c5 => ?_) (fun _ => no1)
    refine sm_go_st (i := .aload_n 0) (n := 1) (t := (52, [(0, .ref 81), (1, .int a), (2, .int b), (3, .int c), (4, .int e), (5, .int n)], [.ref 81], h)) rfl rfl ?_
    refine sm_go_st (i := .iload_n 1) (n := 1) (t := (53, [(0, .ref 81), (1, .int a), (2, .int b), (3, .int c), (4, .int e), (5, .int n)], [.int a, .ref 81], h)) rfl rfl ?_
    refine sm_go_st (i := .iload_n 2) (n := 1) (t := (54, [(0, .ref 81), (1, .int a), (2, .int b), (3, .int c), (4, .int e), (5, .int n)], [.int b, .int a, .ref 81], h)) rfl rfl ?_
    refine sm_go_st (i := .iload 5) (n := 2) (t := (56, [(0, .ref 81), (1, .int a), (2, .int b), (3, .int c), (4, .int e), (5, .int n)], [.int n, .int b, .int a, .ref 81], h)) rfl rfl ?_
    obtain ⟨q3, x3, k3⟩ := sp_run (d := d + 1) a b n ha g1 g87 f7
    refine sm_go_cl (i := .invokevirtual 96) (n := 3) (k := 114) (r := []) rfl ⟨rfl, by decide, Or.inl ⟨96, 3, 81, [.int a, .int b, .int n], rfl, rfl, rfl, rfl, _, by unfold sm_obj; rw [g1]; exact if_pos rfl⟩⟩ x3 ?_
    refine sm_go_if (t := 74) (q := .eq) (off := 15) rfl rfl (fun _ => no2) (fun c6 => ?_)
    have hb := k3 c6
    refine sm_go_st (i := .aload_n 0) (n := 1) (t := (63, [(0, .ref 81), (1, .int a), (2, .int b), (3, .int c), (4, .int e), (5, .int n)], [.ref 81], h)) rfl rfl ?_
    refine sm_go_st (i := .iload_n 3) (n := 1) (t := (64, [(0, .ref 81), (1, .int a), (2, .int b), (3, .int c), (4, .int e), (5, .int n)], [.int c, .ref 81], h)) rfl rfl ?_
    refine sm_go_st (i := .iload 4) (n := 2) (t := (66, [(0, .ref 81), (1, .int a), (2, .int b), (3, .int c), (4, .int e), (5, .int n)], [.int e, .int c, .ref 81], h)) rfl rfl ?_
    refine sm_go_st (i := .iload 5) (n := 2) (t := (68, [(0, .ref 81), (1, .int a), (2, .int b), (3, .int c), (4, .int e), (5, .int n)], [.int n, .int e, .int c, .ref 81], h)) rfl rfl ?_
    obtain ⟨q4, x4, k4⟩ := sp_run (d := d + 1) c e n hc g1 g87 f7
    refine sm_go_cl (i := .invokevirtual 96) (n := 3) (k := 114) (r := []) rfl ⟨rfl, by decide, Or.inl ⟨96, 3, 81, [.int c, .int e, .int n], rfl, rfl, rfl, rfl, _, by unfold sm_obj; rw [g1]; exact if_pos rfl⟩⟩ x4 ?_
    refine sm_go_if (t := 80) (q := .ne) (off := 9) rfl rfl (fun c7 => ?_) (fun _ => no2)
    have he := k4 c7
    have fin : ∀ r : Int32, sm_Go mc_B (sm_Ex 200 sm_ML sm_B (d + 2)) (mc_Q Psi vs [.ref 81, .int a, .int b, .int c, .int e, .int n] h) 91 [(0, .ref 81), (1, .int a), (2, .int b), (3, .int c), (4, .int e), (5, .int n)] [.int r] h := by
      intro r
      refine sm_go_st (i := .istore 6) (n := 2) (t := (93, [(6, .int r), (0, .ref 81), (1, .int a), (2, .int b), (3, .int c), (4, .int e), (5, .int n)], [], h)) rfl rfl ?_
      refine sm_go_st (i := .iconst 0) (n := 1) (t := (94, [(6, .int r), (0, .ref 81), (1, .int a), (2, .int b), (3, .int c), (4, .int e), (5, .int n)], [.int 0], h)) rfl rfl ?_
      refine sm_go_st (i := .istore 7) (n := 2) (t := (96, [(7, .int 0), (6, .int r), (0, .ref 81), (1, .int a), (2, .int b), (3, .int c), (4, .int e), (5, .int n)], [], h)) rfl rfl ?_
      exact mc_first hP ha hc c3 ⟨hb.1, by omega⟩ ⟨he.1, by omega⟩ f8 (fun h' g' a1 a2 a3 a4 a5 => ⟨a4, a5, mc_end (mc_hh a1 a2 (by rw [a3]; exact g91) hfit) 1 (Or.inr (Or.inr rfl))⟩) 0 rfl h g g1 g88 rfl hPs (fun _ _ => rfl)
    refine sm_go_st (i := .iload_n 2) (n := 1) (t := (81, [(0, .ref 81), (1, .int a), (2, .int b), (3, .int c), (4, .int e), (5, .int n)], [.int b], h)) rfl rfl ?_
    refine sm_go_st (i := .iload 4) (n := 2) (t := (83, [(0, .ref 81), (1, .int a), (2, .int b), (3, .int c), (4, .int e), (5, .int n)], [.int e, .int b], h)) rfl rfl ?_
    refine sm_go_ic (t := 90) (q := .ge) (off := 7) rfl rfl (fun _ => ?_) (fun _ => ?_)
    · show sm_Go mc_B (sm_Ex 200 sm_ML sm_B (d + 2)) (mc_Q Psi vs [.ref 81, .int a, .int b, .int c, .int e, .int n] h) 90 [(0, .ref 81), (1, .int a), (2, .int b), (3, .int c), (4, .int e), (5, .int n)] [] h
      refine sm_go_st (i := .iconst 0) (n := 1) (t := (91, [(0, .ref 81), (1, .int a), (2, .int b), (3, .int c), (4, .int e), (5, .int n)], [.int 0], h)) rfl rfl ?_
      exact fin 0
    refine sm_go_st (i := .iconst 1) (n := 1) (t := (87, [(0, .ref 81), (1, .int a), (2, .int b), (3, .int c), (4, .int e), (5, .int n)], [.int 1], h)) rfl rfl ?_
    refine sm_go_st (i := .goto 4) (n := 3) (t := (91, [(0, .ref 81), (1, .int a), (2, .int b), (3, .int c), (4, .int e), (5, .int n)], [.int 1], h)) rfl rfl ?_
    exact fin 1
  | [], hv => exact hv.elim
  | [_], hv => exact hv.2.elim
  | [_, _], hv => exact hv.2.2.elim
  | [_, _, _], hv => exact hv.2.2.2.elim
  | [_, _, _, _], hv => exact hv.2.2.2.2.elim
  | [_, _, _, _, _], hv => exact hv.2.2.2.2.2.elim
  | _ :: _ :: _ :: _ :: _ :: _ :: _ :: _, hv => exact hv.2.2.2.2.2.2.elim

