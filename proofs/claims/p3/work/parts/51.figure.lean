/-! The reference's in and figure by hand. -/
def in_B : sm_P := (fun pc => sm_ch sm_t105 pc, sm_Kn 3 6 none, fun x => sm_lk sm_ca3 x, some .boolean)
theorem in_run {d : Nat} (a b c : Int64) (h : List va_E) : ∃ r : Int32, sm_Ex 200 sm_ML sm_B (d + 1) 105 [.long a, .long b, .long c] h (some (.int r)) h ∧ (¬ r.toInt = 0 → b.toInt ≤ a.toInt ∧ a.toInt ≤ c.toInt) := by
  have run : sm_Go in_B (sm_Ex 200 sm_ML sm_B d) (fun o h' => h' = h ∧ ∃ r : Int32, o = some (.int r) ∧ (¬ r.toInt = 0 → b.toInt ≤ a.toInt ∧ a.toInt ≤ c.toInt)) 0 [(0, .long a), (2, .long b), (4, .long c)] [] h := by
    have no : sm_Go in_B (sm_Ex 200 sm_ML sm_B d) (fun o h' => h' = h ∧ ∃ r : Int32, o = some (.int r) ∧ (¬ r.toInt = 0 → b.toInt ≤ a.toInt ∧ a.toInt ≤ c.toInt)) 17 [(0, .long a), (2, .long b), (4, .long c)] [] h := by
      refine sm_go_st (i := .iconst 0) (n := 1) (t := (18, [(0, .long a), (2, .long b), (4, .long c)], [.int 0], h)) rfl rfl ?_
      exact sm_go_rt (o := some (.int 0)) (i := .ireturn) (n := 1) rfl ⟨rfl, Or.inl ⟨rfl, 0, rfl, rfl, Or.inr ⟨rfl, Or.inl rfl⟩⟩⟩ ⟨rfl, 0, rfl, fun z => absurd (show (0 : Int32).toInt = 0 from rfl) z⟩
    refine sm_go_st (i := .lload_n 0) (n := 1) (t := (1, [(0, .long a), (2, .long b), (4, .long c)], [.long a], h)) rfl rfl ?_
    refine sm_go_st (i := .lload_n 2) (n := 1) (t := (2, [(0, .long a), (2, .long b), (4, .long c)], [.long b, .long a], h)) rfl rfl ?_
    refine sm_go_st (i := .lcmp) (n := 1) (t := (3, [(0, .long a), (2, .long b), (4, .long c)], [.int (lg_cmp a b)], h)) rfl rfl ?_
    refine sm_go_if (t := 17) (q := .lt) (off := 14) rfl rfl (fun _ => no) (fun c1 => ?_)
    have c1 : ¬ a.toInt < b.toInt := fun z => c1 ((ar_smcmp .lt (lg_cmp a b) 0).mp ((aw_lcmp .lt a b).mpr z))
    refine sm_go_st (i := .lload_n 0) (n := 1) (t := (7, [(0, .long a), (2, .long b), (4, .long c)], [.long a], h)) rfl rfl ?_
    refine sm_go_st (i := .lload 4) (n := 2) (t := (9, [(0, .long a), (2, .long b), (4, .long c)], [.long c, .long a], h)) rfl rfl ?_
    refine sm_go_st (i := .lcmp) (n := 1) (t := (10, [(0, .long a), (2, .long b), (4, .long c)], [.int (lg_cmp a c)], h)) rfl rfl ?_
    refine sm_go_if (t := 17) (q := .gt) (off := 7) rfl rfl (fun _ => no) (fun c2 => ?_)
    have c2 : ¬ c.toInt < a.toInt := fun z => c2 ((ar_smcmp .gt (lg_cmp a c) 0).mp ((aw_lcmp .gt a c).mpr z))
    refine sm_go_st (i := .iconst 1) (n := 1) (t := (14, [(0, .long a), (2, .long b), (4, .long c)], [.int 1], h)) rfl rfl ?_
    refine sm_go_st (i := .goto 4) (n := 3) (t := (18, [(0, .long a), (2, .long b), (4, .long c)], [.int 1], h)) rfl rfl ?_
    exact sm_go_rt (o := some (.int 1)) (i := .ireturn) (n := 1) rfl ⟨rfl, Or.inl ⟨rfl, 1, rfl, rfl, Or.inr ⟨rfl, Or.inr rfl⟩⟩⟩ ⟨rfl, 1, rfl, fun _ => ⟨by omega, by omega⟩⟩
  obtain ⟨f, o, h', hr, rfl, r, rfl, hrr⟩ := run
  exact ⟨r, ⟨by decide, show (6 : Nat) ≤ sm_ML 105 by decide +kernel, f, hr⟩, hrr⟩
theorem fg_sub {x : Int32} (h : -2147483647 ≤ x.toInt) : (x - 1).toInt = x.toInt - 1 := by
  rw [Int32.toInt_sub]
  have := x.toInt_lt
  show (x.toInt - 1).bmod (2 ^ 32) = _
  exact Int.bmod_eq_of_le (by omega) (by omega)
def fg_B : sm_P := (fun pc => sm_ch sm_t125 pc, sm_Kn 3 3 none, fun x => sm_lk sm_ca3 x, some .int)
def fg_c (vs : List aw_V) (rl rm : ar_R) (E2 : List (List ar_R × Option aw_V × aw_H)) : ak_C := (125, [.inl 81, .inr (false, rl), .inr (false, rm)], [(81, .inl (3, vs)), (90, .inr (.inl (0, 240, [], [])))], [81], ([], some (.inr (false, [(-9, -9)])), [(81, .inl (3, vs))]) :: E2)
def fg_e (vs : List aw_V) (p : Nat) (lo hi : Int) (re : ar_R) : List ar_R × Option aw_V × aw_H := ([], some (.inr (false, [(lo, hi)])), [(81, .inl (3, (vs.set 17 (.inr (false, [((p : Int) + 1, (p : Int) + 1)]))).set 18 (.inr (false, re))))])
set_option maxHeartbeats 2000000 in
theorem fg_ok {Psi : List va_E → Prop} (hP : ∀ (h : List va_E) (a : Nat) (e : va_E), a ∉ ai_pc → Psi h → Psi (h.set a e)) {d : Nat} {vs : List aw_V} {p : Nat} {re re' rl rm : ar_R} {lo hi : Int} {E2 : List (List ar_R × Option aw_V × aw_H)} (v10 : vs[10]? = some (.inl 90)) (v16 : vs[16]? = some (.inr (false, [(0, 180)]))) (v17 : vs[17]? = some (.inr (false, [((p : Int), (p : Int))]))) (v18 : vs[18]? = some (.inr (false, re))) (hre : ∀ x, ar_in x re → (p : Int) ≤ x ∧ x ≤ 60) (hre' : ∀ x, ar_in x re → (p : Int) + 1 ≤ x → ar_in x re') (hrl : ∀ x, ar_in x rl → lo ≤ x ∧ -1000 ≤ x ∧ x ≤ 1000) (hrm : ∀ x, ar_in x rm → x ≤ hi ∧ -1000 ≤ x ∧ x ≤ 1000) (hE : (∃ x, ar_in x re ∧ (p : Int) + 1 ≤ x) → lo ≤ hi → fg_e vs p lo hi re' ∈ E2) : ak_ok Psi (sm_Ex 200 sm_ML sm_B (d + 2)) (fg_c vs rl rm E2) := by
  refine sm_hand (B := fg_B) (show (125 : Nat) < 200 by decide) rfl (show (3 : Nat) ≤ sm_ML 125 by decide +kernel) ?_
  intro ws h hv hh hPs
  match ws, hv with
  | [v0, v1, v2], hv =>
    obtain ⟨e0, e1, e2, -⟩ := hv
    have e0 : v0 = .ref 81 := e0
    obtain ⟨l, rfl, hl0⟩ := sm_vi e1
    obtain ⟨m, rfl, hm0⟩ := sm_vi e2
    subst e0
    have hl1 := hrl _ hl0
    have hm1 := hrm _ hm0
    obtain ⟨e, g1, fs, rfl, hl, hfs⟩ := hh (81, .inl (3, vs)) List.mem_cons_self
    obtain ⟨e, g2, g, rfl, -, -⟩ := hh (90, .inr (.inl (0, 240, [], []))) (List.mem_cons_of_mem _ List.mem_cons_self)
    obtain ⟨w10, f10, m10⟩ := mo_get hl hfs v10
    have m10 : w10 = .ref 90 := m10
    subst m10
    obtain ⟨w16, f16, m16⟩ := mo_get hl hfs v16
    obtain ⟨fr, rfl, hfr⟩ := sm_vi m16
    obtain ⟨w17, f17, m17⟩ := mo_get hl hfs v17
    obtain ⟨pl, rfl, hpl⟩ := sm_vi m17
    obtain ⟨w18, f18, m18⟩ := mo_get hl hfs v18
    obtain ⟨en, rfl, hen⟩ := sm_vi m18
    have hpl := ar_1 hpl
    have hfr := ar_1 hfr
    have hen1 := hre _ hen
    have hlen : 19 ≤ fs.length := by
      have := (List.getElem?_eq_some_iff.mp f18).1
      omega
    have no : sm_Go fg_B (sm_Ex 200 sm_ML sm_B (d + 1)) (fun o h' => Psi h' ∧ (∀ b, b ∉ (fg_c vs rl rm E2).2.2.2.1 → h'[b]? = h[b]?) ∧ ak_end (fg_c vs rl rm E2) [.ref 81, .int l, .int m] o h') 32 [(0, .ref 81), (1, .int l), (2, .int m)] [] h := by
      refine sm_go_st (i := .bipush (-9)) (n := 2) (t := (34, [(0, .ref 81), (1, .int l), (2, .int m)], [.int (-9)], h)) rfl rfl ?_
      refine sm_go_rt (o := some (.int (-9))) (i := .ireturn) (n := 1) rfl ⟨rfl, Or.inl ⟨rfl, -9, rfl, rfl, Or.inl rfl⟩⟩ ⟨hPs, fun _ _ => rfl, _, List.mem_cons_self, trivial, ⟨-9, rfl, ar_o (by decide) (by decide)⟩, fun x hx => ?_⟩
      rw [List.mem_singleton] at hx
      subst hx
      exact ⟨_, g1, fs, rfl, hl, hfs⟩
    refine sm_go_st (i := .aload_n 0) (n := 1) (t := (1, [(0, .ref 81), (1, .int l), (2, .int m)], [.ref 81], h)) rfl rfl ?_
    refine sm_go_gf (r := []) (v := .int pl) rfl rfl g1 f17 ?_
    refine sm_go_st (i := .aload_n 0) (n := 1) (t := (5, [(0, .ref 81), (1, .int l), (2, .int m)], [.ref 81, .int pl], h)) rfl rfl ?_
    refine sm_go_gf (r := [.int pl]) (v := .int en) rfl rfl g1 f18 ?_
    refine sm_go_ic (t := 32) (q := .eq) (off := 24) rfl rfl (fun _ => no) (fun c1 => ?_)
    have c1 : ¬ pl.toInt = en.toInt := c1
    refine sm_go_st (i := .aload_n 0) (n := 1) (t := (12, [(0, .ref 81), (1, .int l), (2, .int m)], [.ref 81], h)) rfl rfl ?_
    refine sm_go_cl (i := .invokevirtual 112) (n := 3) (k := 123) (r := []) rfl ⟨rfl, by decide, Or.inl ⟨112, 3, 81, [], rfl, rfl, rfl, rfl, _, by unfold sm_obj; rw [g1]; exact if_pos rfl⟩⟩ (he_run g1 g2 f10 f16 f17 hfr ⟨by omega, by omega⟩) ?_
    generalize hb : g (fr + pl).toNatClampNeg = b
    refine sm_go_st (i := .i2l) (n := 1) (t := (16, [(0, .ref 81), (1, .int l), (2, .int m)], [.long b.toInt64], h)) rfl rfl ?_
    refine sm_go_st (i := .bipush 48) (n := 2) (t := (18, [(0, .ref 81), (1, .int l), (2, .int m)], [.int 48, .long b.toInt64], h)) rfl rfl ?_
    refine sm_go_st (i := .iload_n 1) (n := 1) (t := (19, [(0, .ref 81), (1, .int l), (2, .int m)], [.int l, .int 48, .long b.toInt64], h)) rfl rfl ?_
    refine sm_go_st (i := .iadd) (n := 1) (t := (20, [(0, .ref 81), (1, .int l), (2, .int m)], [.int (48 + l), .long b.toInt64], h)) rfl rfl ?_
    refine sm_go_st (i := .i2l) (n := 1) (t := (21, [(0, .ref 81), (1, .int l), (2, .int m)], [.long (48 + l).toInt64, .long b.toInt64], h)) rfl rfl ?_
    refine sm_go_st (i := .bipush 48) (n := 2) (t := (23, [(0, .ref 81), (1, .int l), (2, .int m)], [.int 48, .long (48 + l).toInt64, .long b.toInt64], h)) rfl rfl ?_
    refine sm_go_st (i := .iload_n 2) (n := 1) (t := (24, [(0, .ref 81), (1, .int l), (2, .int m)], [.int m, .int 48, .long (48 + l).toInt64, .long b.toInt64], h)) rfl rfl ?_
    refine sm_go_st (i := .iadd) (n := 1) (t := (25, [(0, .ref 81), (1, .int l), (2, .int m)], [.int (48 + m), .long (48 + l).toInt64, .long b.toInt64], h)) rfl rfl ?_
    refine sm_go_st (i := .i2l) (n := 1) (t := (26, [(0, .ref 81), (1, .int l), (2, .int m)], [.long (48 + m).toInt64, .long (48 + l).toInt64, .long b.toInt64], h)) rfl rfl ?_
    obtain ⟨r, hrun, hr⟩ := in_run (d := d) b.toInt64 (48 + l).toInt64 (48 + m).toInt64 h
    refine sm_go_cl (i := .invokestatic 71) (n := 3) (k := 105) (vs := [.long b.toInt64, .long (48 + l).toInt64, .long (48 + m).toInt64]) (r := []) rfl ⟨rfl, by decide, Or.inr (Or.inl ⟨71, 3, rfl, rfl, rfl⟩)⟩ hrun ?_
    refine sm_go_if (t := 35) (q := .ne) (off := 6) rfl rfl (fun c2 => ?_) (fun _ => no)
    have hr := hr c2
    rw [Int32.toInt_toInt64, Int32.toInt_toInt64, Int32.toInt_toInt64] at hr
    have a1 : (48 + l : Int32).toInt = 48 + l.toInt := mr_add (x := 48) (y := l) (by show -2147483648 ≤ 48 + l.toInt; omega) (by show 48 + l.toInt < 2147483648; omega)
    have a2 : (48 + m : Int32).toInt = 48 + m.toInt := mr_add (x := 48) (y := m) (by show -2147483648 ≤ 48 + m.toInt; omega) (by show 48 + m.toInt < 2147483648; omega)
    have hp1 := mr_1 (i := pl) (by omega)
    refine sm_go_st (i := .aload_n 0) (n := 1) (t := (36, [(0, .ref 81), (1, .int l), (2, .int m)], [.ref 81], h)) rfl rfl ?_
    refine sm_go_st (i := .dup) (n := 1) (t := (37, [(0, .ref 81), (1, .int l), (2, .int m)], [.ref 81, .ref 81], h)) rfl rfl ?_
    refine sm_go_gf (r := [.ref 81]) (v := .int pl) rfl rfl g1 f17 ?_
    refine sm_go_st (i := .iconst 1) (n := 1) (t := (41, [(0, .ref 81), (1, .int l), (2, .int m)], [.int 1, .int pl, .ref 81], h)) rfl rfl ?_
    refine sm_go_st (i := .iadd) (n := 1) (t := (42, [(0, .ref 81), (1, .int l), (2, .int m)], [.int (pl + 1), .ref 81], h)) rfl rfl ?_
    refine sm_go_pf (r := []) rfl rfl g1 (by omega) ?_
    have g1' : (h.set 81 (.inr (3, fs.set 17 (.int (pl + 1)))))[81]? = some (.inr (3, fs.set 17 (.int (pl + 1)))) := sm_set_s g1
    have g2' : (h.set 81 (.inr (3, fs.set 17 (.int (pl + 1)))))[90]? = some (.inl (0, 240, .inl g)) := by rw [List.getElem?_set_ne (by decide)]; exact g2
    have e10 : (fs.set 17 (.int (pl + 1)))[10]? = some (.ref 90) := by rw [List.getElem?_set_ne (by decide)]; exact f10
    have e16 : (fs.set 17 (.int (pl + 1)))[16]? = some (.int fr) := by rw [List.getElem?_set_ne (by decide)]; exact f16
    have e17 : (fs.set 17 (.int (pl + 1)))[17]? = some (.int (pl + 1)) := List.getElem?_set_self (by omega)
    have hH : Psi (h.set 81 (.inr (3, fs.set 17 (.int (pl + 1))))) := hP _ _ _ (by decide) hPs
    have frm : ∀ q : Nat, q ∉ [81] → (h.set 81 (.inr (3, fs.set 17 (.int (pl + 1)))))[q]? = h[q]? := fun q hq => List.getElem?_set_ne (fun z => hq (by rw [← z]; exact List.mem_cons_self))
    generalize h.set 81 (.inr (3, fs.set 17 (.int (pl + 1)))) = h1 at g1' g2' hH frm ⊢
    refine sm_go_st (i := .aload_n 0) (n := 1) (t := (46, [(0, .ref 81), (1, .int l), (2, .int m)], [.ref 81], h1)) rfl rfl ?_
    refine sm_go_gf (r := []) (v := .ref 90) rfl rfl g1' e10 ?_
    refine sm_go_st (i := .aload_n 0) (n := 1) (t := (50, [(0, .ref 81), (1, .int l), (2, .int m)], [.ref 81, .ref 90], h1)) rfl rfl ?_
    refine sm_go_gf (r := [.ref 90]) (v := .int fr) rfl rfl g1' e16 ?_
    refine sm_go_st (i := .aload_n 0) (n := 1) (t := (54, [(0, .ref 81), (1, .int l), (2, .int m)], [.ref 81, .int fr, .ref 90], h1)) rfl rfl ?_
    refine sm_go_gf (r := [.int fr, .ref 90]) (v := .int (pl + 1)) rfl rfl g1' e17 ?_
    have a3 : (fr + (pl + 1) : Int32).toInt = fr.toInt + (pl.toInt + 1) := by rw [mr_add (x := fr) (y := pl + 1) (by omega) (by omega), hp1]
    have a4 : (fr + (pl + 1) - 1 : Int32).toInt = fr.toInt + pl.toInt := by rw [fg_sub (by omega), a3]; omega
    have a5 : (fr + pl : Int32).toInt = fr.toInt + pl.toInt := mr_add (x := fr) (y := pl) (by omega) (by omega)
    have a6 : (fr + (pl + 1) - 1 : Int32) = fr + pl := Int32.toInt_inj.mp (by omega)
    refine sm_go_st (i := .iadd) (n := 1) (t := (58, [(0, .ref 81), (1, .int l), (2, .int m)], [.int (fr + (pl + 1)), .ref 90], h1)) rfl rfl ?_
    refine sm_go_st (i := .iconst 1) (n := 1) (t := (59, [(0, .ref 81), (1, .int l), (2, .int m)], [.int 1, .int (fr + (pl + 1)), .ref 90], h1)) rfl rfl ?_
    refine sm_go_st (i := .isub) (n := 1) (t := (60, [(0, .ref 81), (1, .int l), (2, .int m)], [.int (fr + (pl + 1) - 1), .ref 90], h1)) rfl rfl ?_
    rw [a6]
    refine sm_go_ia (r := []) rfl g2' (by decide) (aw_in6 (q := ((fr + pl).toInt, (fr + pl).toInt)) ⟨Int.le_refl _, Int.le_refl _⟩ (by show 0 ≤ (fr + pl).toInt; omega) (by show (fr + pl).toInt < ((240 : Nat) : Int); omega)) ?_
    rw [hb]
    refine sm_go_st (i := .bipush 48) (n := 2) (t := (63, [(0, .ref 81), (1, .int l), (2, .int m)], [.int 48, .int b], h1)) rfl rfl ?_
    refine sm_go_st (i := .isub) (n := 1) (t := (64, [(0, .ref 81), (1, .int l), (2, .int m)], [.int (b - 48)], h1)) rfl rfl ?_
    have a7 : (b - 48 : Int32).toInt = b.toInt - 48 := by
      rw [Int32.toInt_sub]
      show (b.toInt - 48).bmod (2 ^ 32) = _
      exact Int.bmod_eq_of_le (by omega) (by omega)
    refine sm_go_rt (o := some (.int (b - 48))) (i := .ireturn) (n := 1) rfl ⟨rfl, Or.inl ⟨rfl, _, rfl, rfl, Or.inl rfl⟩⟩ ⟨hH, frm, fg_e vs p lo hi re', List.mem_cons_of_mem _ (hE ⟨_, hen, by omega⟩ (by omega)), trivial, ⟨_, rfl, ar_o (by omega) (by omega)⟩, fun x hx => ?_⟩
    rw [show x = _ from List.mem_singleton.mp hx]
    refine ⟨_, g1', ?_⟩
    obtain ⟨fs1, hfs1, hl1', hf1⟩ := mo_set (ci := 3) (k := 17) (v := .inr (false, [((p : Int) + 1, (p : Int) + 1)])) (w := .int (pl + 1)) hl hfs ⟨pl + 1, rfl, ar_o (by omega) (by omega)⟩
    cases hfs1
    have e18 : (fs.set 17 (.int (pl + 1)))[18]? = some (.int en) := by rw [List.getElem?_set_ne (by decide)]; exact f18
    have k := mo_set (ci := 3) (k := 18) (v := .inr (false, re')) (w := .int en) hl1' hf1 ⟨en, rfl, hre' _ hen (by omega)⟩
    rw [mo_same e18] at k
    exact k
  | [], hv => exact hv.elim
  | [_], hv => exact hv.2.elim
  | [_, _], hv => exact hv.2.2.elim
  | _ :: _ :: _ :: _ :: _, hv => exact hv.2.2.2.elim
