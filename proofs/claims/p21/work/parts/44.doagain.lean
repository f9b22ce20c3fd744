/-! doAgain by hand: the deeds done again from the start. -/
def dg_B : sm_P := (fun pc => sm_ch sm_t51 pc, sm_Kn 2 2 none, fun x => sm_lk sm_ca2 x, none)
def dg_H : aw_H := kcc8.2.2.1
theorem dg_call {X : sm_X} {c : ak_C} (hc : ak_ok ps_h X c) (h1 : ah_sub dg_H c.2.2.1 = true) (h2 : (c.2.2.2.2.all fun q => ah_sub (ak_hp c.2.2.2.1 q.2.2 dg_H) dg_H) = true) (h3 : (c.2.2.2.1.all fun a => decide (a ∈ [15, 18, 19, 23])) = true) {vs : List Value} {h : List va_E} (hv : ak_as c.2.1 vs) (hh : aw_h dg_H h) (hp : ps_h h) : ∃ o h', X c.1 vs h o h' ∧ ps_h h' ∧ aw_h dg_H h' ∧ (∀ a, a ∉ [15, 18, 19, 23] → h'[a]? = h[a]?) ∧ ∃ q ∈ c.2.2.2.2, ak_res q.2.1 o := by
  obtain ⟨o, h', x1, x2, x3, q, hq, q1, q2, q3⟩ := hc vs h hv (ah_sub_s h1 hh) hp
  have h3 : ∀ a ∈ c.2.2.2.1, a ∈ [15, 18, 19, 23] := fun a ha => of_decide_eq_true (List.all_eq_true.mp h3 a ha)
  exact ⟨o, h', x1, x2, ah_sub_s (List.all_eq_true.mp h2 q hq) (ak_hp_s hh q3 x3), fun a ha => x3 a (fun z => ha (h3 a z)), q, hq, q2⟩
theorem dg_main {h : List va_E} (hh : aw_h dg_H h) : ∃ fs, h[0]? = some (.inr (2, fs)) ∧ fs[4]? = some (.ref 15) ∧ fs[7]? = some (.ref 42) := by
  obtain ⟨e, he, fs, rfl, hl, hf⟩ := hh _ (aw_lk (show sm_lk dg_H 0 = some (.inl (2, [.inl 1, .inl 2, .inl 9, .inl 10, .inl 15, .inl 24, .inl 33, .inl 42, .inl 46, .inl 59, .inl 80, .inr (false, ar_t32), .inr (false, ar_t32), .inr (true, ar_t64), .inr (true, ar_t64)])) from rfl))
  have hl : fs.length = 15 := hl
  have h4 : 4 < fs.length := by omega
  have h7 : 7 < fs.length := by omega
  have a4 : fs[4] = .ref 15 := hf 4 (.inl 15) _ rfl (List.getElem?_eq_getElem h4)
  have a7 : fs[7] = .ref 42 := hf 7 (.inl 42) _ rfl (List.getElem?_eq_getElem h7)
  exact ⟨fs, he, by rw [List.getElem?_eq_getElem h4, a4], by rw [List.getElem?_eq_getElem h7, a7]⟩
theorem dg_reg {h : List va_E} (hh : aw_h dg_H h) : ∃ fs, sm_obj h 15 1 = some fs := by
  have k := (by decide +kernel : (match sm_lk dg_H 15 with
    | some (.inl (1, _)) => true
    | _ => false) = true)
  split at k
  · rename_i vs hl
    obtain ⟨e, he, fs, rfl, -, -⟩ := hh _ (aw_lk hl)
    exact ⟨fs, by unfold sm_obj; rw [he]; exact if_pos rfl⟩
  · cases k
theorem dg_deeds {h : List va_E} (hh : aw_h dg_H h) : ∃ s : Int32, h[42]? = some (.inr (0, [.int s, .ref 43, .ref 44, .ref 45])) ∧ 0 ≤ s.toInt ∧ s.toInt ≤ 40 := da_get (ah_sub_s (by decide +kernel) hh)
set_option maxHeartbeats 4000000 in
theorem dg_loop {s : Int32} {h0 : List va_E} (hs : 0 ≤ s.toInt ∧ s.toInt ≤ 40) (hs0 : h0[42]? = some (.inr (0, [.int s, .ref 43, .ref 44, .ref 45]))) : ∀ (n : Nat) (i : Int32) (h : List va_E), 0 ≤ i.toInt → i.toInt ≤ 40 → (40 - i.toInt).toNat < n → aw_h dg_H h → ps_h h → (∀ a, a ∉ [15, 18, 19, 23] → h[a]? = h0[a]?) → sm_Go dg_B (sm_Ex 200 sm_ML sm_B 6) (fun o' h' => ps_h h' ∧ (∀ a, a ∉ kcc8.2.2.2.1 → h'[a]? = h0[a]?) ∧ ak_end kcc8 [.ref 0] o' h') 9 [(1, .int i), (0, .ref 0)] [] h := by
  intro n
  induction n with
  | zero => intro i h _ _ h3; exact absurd h3 (Nat.not_lt_zero _)
  | succ n ih =>
    intro i h i1 i2 i3 hh hp fr
    obtain ⟨fs, m0, m4, m7⟩ := dg_main hh
    have go : h[42]? = some (.inr (0, [.int s, .ref 43, .ref 44, .ref 45])) := by rw [fr 42 (by decide)]; exact hs0
    obtain ⟨fw, fl, fa, p1, p2, p3, p4⟩ := hp 42 (by decide)
    refine sm_go_st (i := .iload_n 1) (n := 1) (t := (10, [(1, .int i), (0, .ref 0)], [.int i], h)) rfl rfl ?_
    refine sm_go_st (i := .aload_n 0) (n := 1) (t := (11, [(1, .int i), (0, .ref 0)], [.ref 0, .int i], h)) rfl rfl ?_
    refine sm_go_gf (r := [.int i]) (v := .ref 42) rfl rfl m0 m7 ?_
    refine sm_go_gf (r := [.int i]) (v := .int s) rfl rfl go rfl ?_
    refine sm_go_ic (t := 61) (q := .ge) (off := 44) rfl rfl (fun c1 => ?_) (fun c1 => ?_)
    · refine sm_go_rt (o := none) (i := .return_) (n := 1) rfl ⟨rfl, Or.inr (Or.inr ⟨rfl, rfl, rfl, rfl⟩)⟩ ⟨hp, fr, ?_⟩
      exact ⟨_, List.mem_cons_self, trivial, trivial, ah_sub_s (by decide +kernel) hh⟩
    have c1 : ¬ s.toInt ≤ i.toInt := c1
    have hin : ¬ (i < 0 ∨ 40 ≤ i.toNatClampNeg) := aw_in6 (q := (i.toInt, i.toInt)) ⟨Int.le_refl _, Int.le_refl _⟩ i1 (by show i.toInt < ((40 : Nat) : Int); omega)
    have hix := aw_ix (i := i) i1
    refine sm_go_st (i := .aload_n 0) (n := 1) (t := (21, [(1, .int i), (0, .ref 0)], [.ref 0], h)) rfl rfl ?_
    refine sm_go_gf (r := []) (v := .ref 15) rfl rfl m0 m4 ?_
    refine sm_go_st (i := .aload_n 0) (n := 1) (t := (25, [(1, .int i), (0, .ref 0)], [.ref 0, .ref 15], h)) rfl rfl ?_
    refine sm_go_gf (r := [.ref 15]) (v := .ref 42) rfl rfl m0 m7 ?_
    refine sm_go_gf (r := [.ref 15]) (v := .ref 43) rfl rfl go rfl ?_
    refine sm_go_st (i := .iload_n 1) (n := 1) (t := (32, [(1, .int i), (0, .ref 0)], [.int i, .ref 43, .ref 15], h)) rfl rfl ?_
    refine sm_go_ia (r := [.ref 15]) rfl p1 (by decide) hin ?_
    refine sm_go_st (i := .aload_n 0) (n := 1) (t := (34, [(1, .int i), (0, .ref 0)], [.ref 0, .int (fw i.toNatClampNeg), .ref 15], h)) rfl rfl ?_
    refine sm_go_gf (r := [.int (fw i.toNatClampNeg), .ref 15]) (v := .ref 42) rfl rfl m0 m7 ?_
    refine sm_go_gf (r := [.int (fw i.toNatClampNeg), .ref 15]) (v := .ref 44) rfl rfl go rfl ?_
    refine sm_go_st (i := .iload_n 1) (n := 1) (t := (41, [(1, .int i), (0, .ref 0)], [.int i, .ref 44, .int (fw i.toNatClampNeg), .ref 15], h)) rfl rfl ?_
    refine sm_go_ia (r := [.int (fw i.toNatClampNeg), .ref 15]) rfl p2 (by decide) hin ?_
    refine sm_go_st (i := .aload_n 0) (n := 1) (t := (43, [(1, .int i), (0, .ref 0)], [.ref 0, .int (fl i.toNatClampNeg), .int (fw i.toNatClampNeg), .ref 15], h)) rfl rfl ?_
    refine sm_go_gf (r := [.int (fl i.toNatClampNeg), .int (fw i.toNatClampNeg), .ref 15]) (v := .ref 42) rfl rfl m0 m7 ?_
    refine sm_go_gf (r := [.int (fl i.toNatClampNeg), .int (fw i.toNatClampNeg), .ref 15]) (v := .ref 45) rfl rfl go rfl ?_
    refine sm_go_st (i := .iload_n 1) (n := 1) (t := (50, [(1, .int i), (0, .ref 0)], [.int i, .ref 45, .int (fl i.toNatClampNeg), .int (fw i.toNatClampNeg), .ref 15], h)) rfl rfl ?_
    refine sm_go_ia (r := [.int (fl i.toNatClampNeg), .int (fw i.toNatClampNeg), .ref 15]) rfl p3 (by decide) hin ?_
    have hcall : ∃ (r : Int32) (h1 : List va_E), sm_Ex 200 sm_ML sm_B 6 45 [.ref 15, .int (fw i.toNatClampNeg), .int (fl i.toNatClampNeg), .int (fa i.toNatClampNeg)] h (some (.int r)) h1 ∧ ps_h h1 ∧ aw_h dg_H h1 ∧ ∀ a, a ∉ [15, 18, 19, 23] → h1[a]? = h[a]? := by
      by_cases h1 : (fw i.toNatClampNeg).toInt = 1
      · have hl := p4 i.toNatClampNeg (by omega) h1
        obtain ⟨o1, h', x1, x2, x3, x4, q, hq, x5⟩ := dg_call (X := sm_Ex 200 sm_ML sm_B 6) (c := kec10) (ak_ok_le 6 (by decide) (keo10 ps_P)) (by decide +kernel) (by decide +kernel) (by decide +kernel) (vs := [.ref 15, .int (fw i.toNatClampNeg), .int (fl i.toNatClampNeg), .int (fa i.toNatClampNeg)]) ⟨rfl, ⟨_, rfl, ar_o (by omega) (by omega)⟩, ⟨_, rfl, ar_o hl.1 hl.2⟩, ⟨_, rfl, ar_in32 _⟩, trivial⟩ hh hp
        have hq : q ∈ kec10.2.2.2.2 := hq
        have e1 : ∀ q ∈ kec10.2.2.2.2, q.2.1 = some (.inr (false, ar_t32)) := by decide +kernel
        rw [e1 q hq] at x5
        cases o1 with
        | none => exact x5.elim
        | some v =>
          obtain ⟨r, rfl, -⟩ := x5
          exact ⟨r, h', x1, x2, x3, x4⟩
      · have hne : ar_in (fw i.toNatClampNeg).toInt [(-2147483648, 0), (2, 2147483647)] := by
          have b1 := (fw i.toNatClampNeg).le_toInt
          have b2 := (fw i.toNatClampNeg).toInt_lt
          by_cases hle : (fw i.toNatClampNeg).toInt ≤ 0
          · exact ⟨(-2147483648, 0), List.mem_cons_self, by show (-2147483648 : Int) ≤ _; omega, hle⟩
          · exact ⟨(2, 2147483647), List.mem_cons_of_mem _ List.mem_cons_self, by show (2 : Int) ≤ _; omega, by show _ ≤ (2147483647 : Int); omega⟩
        obtain ⟨o1, h', x1, x2, x3, x4, q, hq, x5⟩ := dg_call (X := sm_Ex 200 sm_ML sm_B 6) (c := kec17) (ak_ok_le 6 (by decide) (keo17 ps_P)) (by decide +kernel) (by decide +kernel) (by decide +kernel) (vs := [.ref 15, .int (fw i.toNatClampNeg), .int (fl i.toNatClampNeg), .int (fa i.toNatClampNeg)]) ⟨rfl, ⟨_, rfl, hne⟩, ⟨_, rfl, ar_in32 _⟩, ⟨_, rfl, ar_in32 _⟩, trivial⟩ hh hp
        · have hq : q ∈ kec17.2.2.2.2 := hq
          have e1 : ∀ q ∈ kec17.2.2.2.2, q.2.1 = some (.inr (false, ar_t32)) := by decide +kernel
          rw [e1 q hq] at x5
          cases o1 with
          | none => exact x5.elim
          | some v =>
            obtain ⟨r, rfl, -⟩ := x5
            exact ⟨r, h', x1, x2, x3, x4⟩
    obtain ⟨r, h1, x1, x2, x3, x4⟩ := hcall
    obtain ⟨fr15, hfr15⟩ := dg_reg hh
    refine sm_go_cl (i := .invokevirtual 324) (n := 3) (k := 45) (r := []) rfl ⟨rfl, by decide, Or.inl ⟨324, 1, 15, [.int (fw i.toNatClampNeg), .int (fl i.toNatClampNeg), .int (fa i.toNatClampNeg)], rfl, rfl, rfl, rfl, fr15, hfr15⟩⟩ x1 ?_
    refine sm_go_st (i := .pop) (n := 1) (t := (55, [(1, .int i), (0, .ref 0)], [], h1)) rfl rfl ?_
    refine sm_go_st (i := .iinc 1 1) (n := 3) (t := (58, [(1, .int (i + 1)), (0, .ref 0)], [], h1)) rfl rfl ?_
    refine sm_go_st (i := .goto (-49)) (n := 3) (t := (9, [(1, .int (i + 1)), (0, .ref 0)], [], h1)) rfl rfl ?_
    have hi1 : (i + 1).toInt = i.toInt + 1 := by
      rw [Int32.toInt_add, show (1 : Int32).toInt = 1 from rfl, Int.bmod_eq_of_le (by omega) (by omega)]
    exact ih (i + 1) h1 (by omega) (by omega) (by omega) x3 x2 (fun a ha => (x4 a ha).trans (fr a ha))
set_option maxHeartbeats 2000000 in
theorem dg_ok : ak_ok ps_h (sm_Ex 200 sm_ML sm_B 7) kcc8 := by
  refine sm_hand (B := dg_B) (show (51 : Nat) < 200 by decide) rfl (by decide +kernel) ?_
  intro vs h hv hh hPs
  match vs, hv with
  | [v0], hv =>
    have e0 : v0 = .ref 0 := hv.1
    subst e0
    have hh : aw_h dg_H h := hh
    obtain ⟨fs, m0, m4, m7⟩ := dg_main hh
    obtain ⟨s, go, hs⟩ := dg_deeds hh
    refine sm_go_st (i := .aload_n 0) (n := 1) (t := (1, [(0, .ref 0)], [.ref 0], h)) rfl rfl ?_
    refine sm_go_gf (r := []) (v := .ref 15) rfl rfl m0 m4 ?_
    obtain ⟨o1, h1, x1, x2, x3, x4, q, hq, x5⟩ := dg_call (X := sm_Ex 200 sm_ML sm_B 6) (c := kec18) (ak_ok_le 6 (by decide) (keo18 ps_P)) (by decide +kernel) (by decide +kernel) (by decide +kernel) (vs := [.ref 15]) ⟨rfl, trivial⟩ hh hPs
    have e1 : ∀ q ∈ kec18.2.2.2.2, q.2.1 = none := by decide +kernel
    rw [e1 q hq] at x5
    cases o1 with
    | some v => exact x5.elim
    | none =>
      obtain ⟨fr15, hfr15⟩ := dg_reg hh
      refine sm_go_cl (i := .invokevirtual 104) (n := 3) (k := 22) (r := []) rfl ⟨rfl, by decide, Or.inl ⟨104, 1, 15, [], rfl, rfl, rfl, rfl, fr15, hfr15⟩⟩ x1 ?_
      refine sm_go_st (i := .iconst 0) (n := 1) (t := (8, [(0, .ref 0)], [.int 0], h1)) rfl rfl ?_
      refine sm_go_st (i := .istore_n 1) (n := 1) (t := (9, [(1, .int 0), (0, .ref 0)], [], h1)) rfl rfl ?_
      exact dg_loop hs go 41 0 h1 (by decide) (by decide) (by decide) x3 x2 x4
  | [], hv => exact hv.elim
  | _ :: _ :: _, hv => exact hv.2.elim

