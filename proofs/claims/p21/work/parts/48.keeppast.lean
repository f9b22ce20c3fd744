/-! The reference's keepPast by hand: row[0] is one more. -/
def kp_B : sm_P := (fun pc => sm_ch sm_t149 pc, sm_Kn 3 2 none, fun x => sm_lk sm_ca3 x, none)
def kp_c (vs : List aw_V) (sg : List (Nat × Nat × ar_R)) (u : Int) : ak_C := (149, [.inl 81], [(81, .inl (3, vs)), (82, mr_a sg [(0, [(-1, u)])])], [82], [([], none, [(82, mr_a sg [(0, [(0, u + 1)])])])])
theorem mr_mul {x y : Int32} (h : -2147483648 ≤ x.toInt * y.toInt) (h2 : x.toInt * y.toInt < 2147483648) : (x * y).toInt = x.toInt * y.toInt := by
  rw [Int32.toInt_mul, Int.bmod_eq_of_le (by omega) (by omega)]
set_option maxHeartbeats 2000000 in
theorem kp_loop {Psi : List va_E → Prop} (hP : ∀ (h : List va_E) (a : Nat) (e : va_E), a ∉ ai_pc → Psi h → Psi (h.set a e)) {X : sm_X} {Q : Option Value → List va_E → Prop} {sg : List (Nat × Nat × ar_R)} {fs : List Value} {c : Int32} (hc : -1 ≤ c.toInt) (hc2 : c.toInt ≤ 39) (hg : ∀ a : Nat, a < 41 → ∀ i : Nat, i < 23 → mr_cp sg [] (1 + 23 * a + i) (1 + i) = true) (hz : (sg.all fun q => !(Nat.beq q.1 0) || decide (q.2.2 = [(-1, 40)])) = true) (hf : fs[0]? = some (.ref 82)) {h0 : List va_E} (hQ : ∀ (h : List va_E) (f : Nat → Int32), h[82]? = some (.inl (0, 3800, .inl f)) → mr_s sg [] f → (f 0).toInt = c.toInt + 1 → Psi h → (∀ b : Nat, b ∉ [82] → h[b]? = h0[b]?) → Q none h) : ∀ (n : Nat) (i : Int32) (h : List va_E) (f : Nat → Int32), 0 ≤ i.toInt → i.toInt ≤ 23 → (23 - i.toInt).toNat < n → h[81]? = some (.inr (3, fs)) → h[82]? = some (.inl (0, 3800, .inl f)) → mr_s sg [] f → f 0 = c → Psi h → (∀ b : Nat, b ∉ [82] → h[b]? = h0[b]?) → sm_Go kp_B X Q 2 [(1, .int i), (0, .ref 81)] [] h := by
  intro n
  induction n with
  | zero => intro i h f _ _ h3; exact absurd h3 (Nat.not_lt_zero _)
  | succ n ih =>
    intro i h f i1 i2 i3 g1 g2 hm hfc hp fr
    have in0 : ¬ ((0 : Int32) < 0 ∨ 3800 ≤ (0 : Int32).toNatClampNeg) := by decide
    refine sm_go_st (i := .iload_n 1) (n := 1) (t := (3, [(1, .int i), (0, .ref 81)], [.int i], h)) rfl rfl ?_
    refine sm_go_st (i := .bipush 23) (n := 2) (t := (5, [(1, .int i), (0, .ref 81)], [.int 23, .int i], h)) rfl rfl ?_
    refine sm_go_ic (t := 41) (q := .ge) (off := 36) rfl rfl (fun c1 => ?_) (fun c1 => ?_)
    · refine sm_go_st (i := .aload_n 0) (n := 1) (t := (42, [(1, .int i), (0, .ref 81)], [.ref 81], h)) rfl rfl ?_
      refine sm_go_gf (r := []) (v := .ref 82) rfl rfl g1 hf ?_
      refine sm_go_st (i := .iconst 0) (n := 1) (t := (46, [(1, .int i), (0, .ref 81)], [.int 0, .ref 82], h)) rfl rfl ?_
      refine sm_go_st (i := .dup2) (n := 1) (t := (47, [(1, .int i), (0, .ref 81)], [.int 0, .ref 82, .int 0, .ref 82], h)) rfl rfl ?_
      refine sm_go_ia (r := [.int 0, .ref 82]) rfl g2 (by decide) in0 ?_
      refine sm_go_st (i := .iconst 1) (n := 1) (t := (49, [(1, .int i), (0, .ref 81)], [.int 1, .int (f (0 : Int32).toNatClampNeg), .int 0, .ref 82], h)) rfl rfl ?_
      refine sm_go_st (i := .iadd) (n := 1) (t := (50, [(1, .int i), (0, .ref 81)], [.int (f (0 : Int32).toNatClampNeg + 1), .int 0, .ref 82], h)) rfl rfl ?_
      refine sm_go_is (r := []) rfl g2 in0 ?_
      have z0 : (0 : Int32).toNatClampNeg = 0 := by decide
      rw [z0, hfc]
      have hc1 := mr_1 (i := c) (by omega)
      refine sm_go_rt (o := none) (i := .return_) (n := 1) rfl ⟨rfl, Or.inr (Or.inr ⟨rfl, rfl, rfl, rfl⟩)⟩ (hQ _ (upd f 0 (c + 1)) (sm_set_s g2) ?_ ?_ (hP _ _ _ (by decide) hp) ?_)
      · refine ⟨fun q hq j h1 h2 => ?_, fun q hq => absurd hq List.not_mem_nil⟩
        rw [upd_at]
        by_cases hj : j = 0
        · rw [if_pos hj]
          have k := List.all_eq_true.mp hz q hq
          rw [show Nat.beq q.1 0 = true from Nat.beq_eq.mpr (by omega)] at k
          rw [show q.2.2 = [(-1, 40)] from of_decide_eq_true k]
          exact ar_o (by omega) (by omega)
        · rw [if_neg hj]
          exact hm.1 q hq j h1 h2
      · rw [upd_at, if_pos rfl]
        exact hc1
      · intro b hb
        rw [List.getElem?_set_ne (fun z => hb (by rw [← z]; exact List.mem_cons_self))]
        exact fr b hb
    have c1 : ¬ (23 : Int) ≤ i.toInt := c1
    have t23 : (23 : Int32).toInt = 23 := by decide
    have t24 : (24 : Int32).toInt = 24 := by decide
    have t1 : (1 : Int32).toInt = 1 := by decide
    have e1 : (23 * c).toInt = 23 * c.toInt := by rw [mr_mul (by rw [t23]; omega) (by rw [t23]; omega), t23]
    have e2 : (24 + 23 * c).toInt = 24 + 23 * c.toInt := by rw [mr_add (by omega) (by omega), e1, t24]
    have ey : (24 + 23 * c + i).toInt = 24 + 23 * c.toInt + i.toInt := by rw [mr_add (by omega) (by omega), e2]
    have ex : (1 + i).toInt = 1 + i.toInt := by rw [mr_add (by omega) (by omega), t1]
    have hix := aw_ix (i := i) i1
    have hiy := aw_ix (i := 24 + 23 * c + i) (by omega)
    have hixx := aw_ix (i := 1 + i) (by omega)
    have ny : (24 + 23 * c + i).toNatClampNeg = 1 + 23 * (c.toInt + 1).toNat + i.toNatClampNeg := by omega
    have nx : (1 + i).toNatClampNeg = 1 + i.toNatClampNeg := by omega
    have iny : ¬ (24 + 23 * c + i < 0 ∨ 3800 ≤ (24 + 23 * c + i).toNatClampNeg) := aw_in6 (q := ((24 + 23 * c + i).toInt, (24 + 23 * c + i).toInt)) ⟨Int.le_refl _, Int.le_refl _⟩ (by show 0 ≤ (24 + 23 * c + i).toInt; omega) (by show (24 + 23 * c + i).toInt < ((3800 : Nat) : Int); omega)
    have inx : ¬ (1 + i < 0 ∨ 3800 ≤ (1 + i).toNatClampNeg) := aw_in6 (q := ((1 + i).toInt, (1 + i).toInt)) ⟨Int.le_refl _, Int.le_refl _⟩ (by show 0 ≤ (1 + i).toInt; omega) (by show (1 + i).toInt < ((3800 : Nat) : Int); omega)
    refine sm_go_st (i := .aload_n 0) (n := 1) (t := (9, [(1, .int i), (0, .ref 81)], [.ref 81], h)) rfl rfl ?_
    refine sm_go_gf (r := []) (v := .ref 82) rfl rfl g1 hf ?_
    refine sm_go_st (i := .bipush 24) (n := 2) (t := (14, [(1, .int i), (0, .ref 81)], [.int 24, .ref 82], h)) rfl rfl ?_
    refine sm_go_st (i := .bipush 23) (n := 2) (t := (16, [(1, .int i), (0, .ref 81)], [.int 23, .int 24, .ref 82], h)) rfl rfl ?_
    refine sm_go_st (i := .aload_n 0) (n := 1) (t := (17, [(1, .int i), (0, .ref 81)], [.ref 81, .int 23, .int 24, .ref 82], h)) rfl rfl ?_
    refine sm_go_gf (r := [.int 23, .int 24, .ref 82]) (v := .ref 82) rfl rfl g1 hf ?_
    refine sm_go_st (i := .iconst 0) (n := 1) (t := (21, [(1, .int i), (0, .ref 81)], [.int 0, .ref 82, .int 23, .int 24, .ref 82], h)) rfl rfl ?_
    refine sm_go_ia (r := [.int 23, .int 24, .ref 82]) rfl g2 (by decide) in0 ?_
    rw [show f (0 : Int32).toNatClampNeg = c from hfc]
    refine sm_go_st (i := .imul) (n := 1) (t := (23, [(1, .int i), (0, .ref 81)], [.int (23 * c), .int 24, .ref 82], h)) rfl rfl ?_
    refine sm_go_st (i := .iadd) (n := 1) (t := (24, [(1, .int i), (0, .ref 81)], [.int (24 + 23 * c), .ref 82], h)) rfl rfl ?_
    refine sm_go_st (i := .iload_n 1) (n := 1) (t := (25, [(1, .int i), (0, .ref 81)], [.int i, .int (24 + 23 * c), .ref 82], h)) rfl rfl ?_
    refine sm_go_st (i := .iadd) (n := 1) (t := (26, [(1, .int i), (0, .ref 81)], [.int (24 + 23 * c + i), .ref 82], h)) rfl rfl ?_
    refine sm_go_st (i := .aload_n 0) (n := 1) (t := (27, [(1, .int i), (0, .ref 81)], [.ref 81, .int (24 + 23 * c + i), .ref 82], h)) rfl rfl ?_
    refine sm_go_gf (r := [.int (24 + 23 * c + i), .ref 82]) (v := .ref 82) rfl rfl g1 hf ?_
    refine sm_go_st (i := .iconst 1) (n := 1) (t := (31, [(1, .int i), (0, .ref 81)], [.int 1, .ref 82, .int (24 + 23 * c + i), .ref 82], h)) rfl rfl ?_
    refine sm_go_st (i := .iload_n 1) (n := 1) (t := (32, [(1, .int i), (0, .ref 81)], [.int i, .int 1, .ref 82, .int (24 + 23 * c + i), .ref 82], h)) rfl rfl ?_
    refine sm_go_st (i := .iadd) (n := 1) (t := (33, [(1, .int i), (0, .ref 81)], [.int (1 + i), .ref 82, .int (24 + 23 * c + i), .ref 82], h)) rfl rfl ?_
    refine sm_go_ia (r := [.int (24 + 23 * c + i), .ref 82]) rfl g2 (by decide) inx ?_
    refine sm_go_is (r := []) rfl g2 iny ?_
    refine sm_go_st (i := .iinc 1 1) (n := 3) (t := (38, [(1, .int (i + 1)), (0, .ref 81)], [], h.set 82 (.inl (0, 3800, .inl (upd f (24 + 23 * c + i).toNatClampNeg (f (1 + i).toNatClampNeg)))))) rfl rfl ?_
    refine sm_go_st (i := .goto (-36)) (n := 3) (t := (2, [(1, .int (i + 1)), (0, .ref 81)], [], h.set 82 (.inl (0, 3800, .inl (upd f (24 + 23 * c + i).toNatClampNeg (f (1 + i).toNatClampNeg)))))) rfl rfl ?_
    have hi1 := mr_1 (i := i) (by omega)
    refine ih (i + 1) _ _ (by omega) (by omega) (by omega) (sm_set_n (by decide) g1) (sm_set_s g2) ?_ ?_ (hP _ _ _ (by decide) hp) ?_
    · rw [ny, nx]
      exact mr_cp_s hm (hg _ (by omega) _ (by omega))
    · rw [upd_at, if_neg (by omega)]
      exact hfc
    · intro b hb
      rw [List.getElem?_set_ne (fun z => hb (by rw [← z]; exact List.mem_cons_self))]
      exact fr b hb
set_option maxHeartbeats 1000000 in
theorem kp_ok {Psi : List va_E → Prop} (hP : ∀ (h : List va_E) (a : Nat) (e : va_E), a ∉ ai_pc → Psi h → Psi (h.set a e)) {d : Nat} {sg : List (Nat × Nat × ar_R)} {vs : List aw_V} {u : Int} (hu : u ≤ 39) (hg : ∀ a : Nat, a < 41 → ∀ i : Nat, i < 23 → mr_cp sg [] (1 + 23 * a + i) (1 + i) = true) (hz : (sg.all fun q => !(Nat.beq q.1 0) || decide (q.2.2 = [(-1, 40)])) = true) (hf : vs[0]? = some (.inl 82)) : ak_ok Psi (sm_Ex 200 sm_ML sm_B (d + 1)) (kp_c vs sg u) := by
  refine sm_hand (B := kp_B) (show (149 : Nat) < 200 by decide) rfl (show (1 : Nat) ≤ sm_ML 149 by decide +kernel) ?_
  intro ws h hv hh hPs
  match ws, hv with
  | [v0], hv =>
    have e0 : v0 = .ref 81 := hv.1
    subst e0
    obtain ⟨e, he, fs, rfl, hl, hfs⟩ := hh (81, .inl (3, vs)) List.mem_cons_self
    obtain ⟨e, he2, f, rfl, hm, ht⟩ := hh (82, mr_a sg [(0, [(-1, u)])]) (List.mem_cons_of_mem _ List.mem_cons_self)
    have hr0 : -1 ≤ (f 0).toInt ∧ (f 0).toInt ≤ u := ar_1 (ht _ List.mem_cons_self).2
    have h0 : 0 < fs.length := by rw [hl]; exact (List.getElem?_eq_some_iff.mp hf).1
    have hr : fs[0]? = some (.ref 82) := by
      have a0 : fs[0] = .ref 82 := hfs 0 (.inl 82) _ hf (List.getElem?_eq_getElem h0)
      rw [List.getElem?_eq_getElem h0, a0]
    refine sm_go_st (i := .iconst 0) (n := 1) (t := (1, [(0, .ref 81)], [.int 0], h)) rfl rfl ?_
    refine sm_go_st (i := .istore_n 1) (n := 1) (t := (2, [(1, .int 0), (0, .ref 81)], [], h)) rfl rfl ?_
    refine kp_loop hP (c := f 0) hr0.1 (by omega) hg hz hr (h0 := h) ?_ 24 0 h f (by decide) (by decide) (by decide) he he2 ⟨hm, fun q hq => absurd hq List.not_mem_nil⟩ rfl hPs (fun _ _ => rfl)
    intro h' f' g2 hm' hz' hp' fr'
    exact ⟨hp', fr', _, List.mem_cons_self, trivial, trivial, fun q hq => by
      rw [List.mem_singleton] at hq
      subst hq
      refine ⟨_, g2, f', rfl, hm'.1, fun q hq => ?_⟩
      rw [List.mem_singleton] at hq
      subst hq
      exact ⟨(show (0 : Nat) < 3800 by decide), ar_o (by show 0 ≤ (f' 0).toInt; omega) (by show (f' 0).toInt ≤ u + 1; omega)⟩⟩
  | [], hv => exact hv.elim
  | _ :: _ :: _, hv => exact hv.2.elim

