/-! The reference's row of registers, copied place by place: what is known of its parts stays. -/
def mr_s (sg : List (Nat × Nat × ar_R)) (tr : List (Nat × ar_R)) (f : Nat → Int32) : Prop := (∀ q ∈ sg, ∀ j : Nat, q.1 ≤ j → j ≤ q.2.1 → ar_in (f j).toInt q.2.2) ∧ ∀ q ∈ tr, q.1 < 3800 ∧ ar_in (f q.1).toInt q.2
def mr_a (sg : List (Nat × Nat × ar_R)) (tr : List (Nat × ar_R)) : aw_A := .inr (.inl (0, 3800, sg, tr))
def mr_y (sg : List (Nat × Nat × ar_R)) (y : Nat) (r : ar_R) : Bool := sg.any fun p => Nat.ble p.1 y && Nat.ble y p.2.1 && decide (p.2.2 = r)
def mr_cp (sg : List (Nat × Nat × ar_R)) (tr : List (Nat × ar_R)) (x y : Nat) : Bool := (sg.all fun q => !(Nat.ble q.1 x && Nat.ble x q.2.1) || mr_y sg y q.2.2) && (tr.all fun q => !(Nat.beq q.1 x) || mr_y sg y q.2)
theorem mr_y_s {sg : List (Nat × Nat × ar_R)} {tr : List (Nat × ar_R)} {f : Nat → Int32} {y : Nat} {r : ar_R} (hs : mr_s sg tr f) (h : mr_y sg y r = true) : ar_in (f y).toInt r := by
  obtain ⟨p, hp, h1⟩ := List.any_eq_true.mp h
  rw [Bool.and_eq_true, Bool.and_eq_true] at h1
  have e := of_decide_eq_true h1.2
  rw [← e]
  exact hs.1 p hp y (Nat.le_of_ble_eq_true h1.1.1) (Nat.le_of_ble_eq_true h1.1.2)
theorem mr_cp_s {sg : List (Nat × Nat × ar_R)} {tr : List (Nat × ar_R)} {f : Nat → Int32} {x y : Nat} (hs : mr_s sg tr f) (h : mr_cp sg tr x y = true) : mr_s sg tr (upd f x (f y)) := by
  unfold mr_cp at h
  rw [Bool.and_eq_true] at h
  refine ⟨fun q hq j h1 h2 => ?_, fun q hq => ⟨(hs.2 q hq).1, ?_⟩⟩
  · rw [upd_at]
    by_cases hj : j = x
    · rw [if_pos hj]
      subst hj
      have k := List.all_eq_true.mp h.1 q hq
      rw [Nat.ble_eq_true_of_le h1, Nat.ble_eq_true_of_le h2] at k
      exact mr_y_s hs k
    · rw [if_neg hj]
      exact hs.1 q hq j h1 h2
  · rw [upd_at]
    by_cases hj : q.1 = x
    · rw [if_pos hj]
      have k := List.all_eq_true.mp h.2 q hq
      rw [show Nat.beq q.1 x = true from Nat.beq_eq.mpr hj] at k
      exact mr_y_s hs k
    · rw [if_neg hj]
      exact (hs.2 q hq).2
def cr_B : sm_P := (fun pc => sm_ch sm_t156 pc, sm_Kn 3 4 none, fun x => sm_lk sm_ca3 x, none)
def cr_c (vs : List aw_V) (sg : List (Nat × Nat × ar_R)) (tr : List (Nat × ar_R)) (src dst : Nat) : ak_C := (156, [.inl 81, .inr (false, [((src : Int), (src : Int))]), .inr (false, [((dst : Int), (dst : Int))])], [(81, .inl (3, vs)), (82, mr_a sg tr)], [82], [([], none, [(82, mr_a sg tr)])])
theorem mr_1 {i : Int32} (h : i.toInt < 2147483647) : (i + 1).toInt = i.toInt + 1 := by
  have := i.le_toInt
  rw [Int32.toInt_add, show (1 : Int32).toInt = 1 from rfl, Int.bmod_eq_of_le (by omega) (by omega)]
theorem mr_add {x y : Int32} (h : -2147483648 ≤ x.toInt + y.toInt) (h2 : x.toInt + y.toInt < 2147483648) : (x + y).toInt = x.toInt + y.toInt := by
  rw [Int32.toInt_add, Int.bmod_eq_of_le (by omega) (by omega)]
set_option maxHeartbeats 2000000 in
theorem cr_loop {Psi : List va_E → Prop} (hP : ∀ (h : List va_E) (a : Nat) (e : va_E), a ∉ ai_pc → Psi h → Psi (h.set a e)) {X : sm_X} {Q : Option Value → List va_E → Prop} {sg : List (Nat × Nat × ar_R)} {tr : List (Nat × ar_R)} {fs : List Value} {src dst : Nat} (hs : src ≤ 2832) (hd : dst ≤ 2832) (hg : ∀ i : Nat, i < 944 → mr_cp sg tr (dst + i) (src + i) = true) {x y : Int32} (hx : x.toInt = src) (hy : y.toInt = dst) (hf : fs[0]? = some (.ref 82)) {h0 : List va_E} (hQ : ∀ (h : List va_E) (f : Nat → Int32), h[82]? = some (.inl (0, 3800, .inl f)) → mr_s sg tr f → Psi h → (∀ b : Nat, b ∉ [82] → h[b]? = h0[b]?) → Q none h) : ∀ (n : Nat) (i : Int32) (h : List va_E) (f : Nat → Int32), 0 ≤ i.toInt → i.toInt ≤ 944 → (944 - i.toInt).toNat < n → h[81]? = some (.inr (3, fs)) → h[82]? = some (.inl (0, 3800, .inl f)) → mr_s sg tr f → Psi h → (∀ b : Nat, b ∉ [82] → h[b]? = h0[b]?) → sm_Go cr_B X Q 2 [(3, .int i), (0, .ref 81), (1, .int x), (2, .int y)] [] h := by
  intro n
  induction n with
  | zero => intro i h f _ _ h3; exact absurd h3 (Nat.not_lt_zero _)
  | succ n ih =>
    intro i h f i1 i2 i3 g1 g2 hm hp fr
    refine sm_go_st (i := .iload_n 3) (n := 1) (t := (3, [(3, .int i), (0, .ref 81), (1, .int x), (2, .int y)], [.int i], h)) rfl rfl ?_
    refine sm_go_st (i := .sipush 944) (n := 3) (t := (6, [(3, .int i), (0, .ref 81), (1, .int x), (2, .int y)], [.int 944, .int i], h)) rfl rfl ?_
    refine sm_go_ic (t := 31) (q := .ge) (off := 25) rfl rfl (fun c1 => ?_) (fun c1 => ?_)
    · exact sm_go_rt (o := none) (i := .return_) (n := 1) rfl ⟨rfl, Or.inr (Or.inr ⟨rfl, rfl, rfl, rfl⟩)⟩ (hQ h f g2 hm hp fr)
    have c1 : ¬ (944 : Int) ≤ i.toInt := c1
    have ey : (y + i).toInt = dst + i.toInt := by rw [mr_add (by omega) (by omega), hy]
    have ex : (x + i).toInt = src + i.toInt := by rw [mr_add (by omega) (by omega), hx]
    have hix := aw_ix (i := i) i1
    have hiy := aw_ix (i := y + i) (by omega)
    have hixx := aw_ix (i := x + i) (by omega)
    have ny : (y + i).toNatClampNeg = dst + i.toNatClampNeg := by omega
    have nx : (x + i).toNatClampNeg = src + i.toNatClampNeg := by omega
    have iny : ¬ (y + i < 0 ∨ 3800 ≤ (y + i).toNatClampNeg) := aw_in6 (q := ((y + i).toInt, (y + i).toInt)) ⟨Int.le_refl _, Int.le_refl _⟩ (by show 0 ≤ (y + i).toInt; omega) (by show (y + i).toInt < ((3800 : Nat) : Int); omega)
    have inx : ¬ (x + i < 0 ∨ 3800 ≤ (x + i).toNatClampNeg) := aw_in6 (q := ((x + i).toInt, (x + i).toInt)) ⟨Int.le_refl _, Int.le_refl _⟩ (by show 0 ≤ (x + i).toInt; omega) (by show (x + i).toInt < ((3800 : Nat) : Int); omega)
    refine sm_go_st (i := .aload_n 0) (n := 1) (t := (10, [(3, .int i), (0, .ref 81), (1, .int x), (2, .int y)], [.ref 81], h)) rfl rfl ?_
    refine sm_go_gf (r := []) (v := .ref 82) rfl rfl g1 hf ?_
    refine sm_go_st (i := .iload_n 2) (n := 1) (t := (14, [(3, .int i), (0, .ref 81), (1, .int x), (2, .int y)], [.int y, .ref 82], h)) rfl rfl ?_
    refine sm_go_st (i := .iload_n 3) (n := 1) (t := (15, [(3, .int i), (0, .ref 81), (1, .int x), (2, .int y)], [.int i, .int y, .ref 82], h)) rfl rfl ?_
    refine sm_go_st (i := .iadd) (n := 1) (t := (16, [(3, .int i), (0, .ref 81), (1, .int x), (2, .int y)], [.int (y + i), .ref 82], h)) rfl rfl ?_
    refine sm_go_st (i := .aload_n 0) (n := 1) (t := (17, [(3, .int i), (0, .ref 81), (1, .int x), (2, .int y)], [.ref 81, .int (y + i), .ref 82], h)) rfl rfl ?_
    refine sm_go_gf (r := [.int (y + i), .ref 82]) (v := .ref 82) rfl rfl g1 hf ?_
    refine sm_go_st (i := .iload_n 1) (n := 1) (t := (21, [(3, .int i), (0, .ref 81), (1, .int x), (2, .int y)], [.int x, .ref 82, .int (y + i), .ref 82], h)) rfl rfl ?_
    refine sm_go_st (i := .iload_n 3) (n := 1) (t := (22, [(3, .int i), (0, .ref 81), (1, .int x), (2, .int y)], [.int i, .int x, .ref 82, .int (y + i), .ref 82], h)) rfl rfl ?_
    refine sm_go_st (i := .iadd) (n := 1) (t := (23, [(3, .int i), (0, .ref 81), (1, .int x), (2, .int y)], [.int (x + i), .ref 82, .int (y + i), .ref 82], h)) rfl rfl ?_
    refine sm_go_ia (r := [.int (y + i), .ref 82]) rfl g2 (by decide) inx ?_
    refine sm_go_is (r := []) rfl g2 iny ?_
    refine sm_go_st (i := .iinc 3 1) (n := 3) (t := (28, [(3, .int (i + 1)), (0, .ref 81), (1, .int x), (2, .int y)], [], h.set 82 (.inl (0, 3800, .inl (upd f (y + i).toNatClampNeg (f (x + i).toNatClampNeg)))))) rfl rfl ?_
    refine sm_go_st (i := .goto (-26)) (n := 3) (t := (2, [(3, .int (i + 1)), (0, .ref 81), (1, .int x), (2, .int y)], [], h.set 82 (.inl (0, 3800, .inl (upd f (y + i).toNatClampNeg (f (x + i).toNatClampNeg)))))) rfl rfl ?_
    have hi1 := mr_1 (i := i) (by omega)
    refine ih (i + 1) _ _ (by omega) (by omega) (by omega) (sm_set_n (by decide) g1) (sm_set_s g2) ?_ (hP _ _ _ (by decide) hp) ?_
    · rw [ny, nx]
      exact mr_cp_s hm (hg _ (by omega))
    · intro b hb
      rw [List.getElem?_set_ne (fun z => hb (by rw [← z]; exact List.mem_cons_self))]
      exact fr b hb
set_option maxHeartbeats 1000000 in
theorem cr_ok {Psi : List va_E → Prop} (hP : ∀ (h : List va_E) (a : Nat) (e : va_E), a ∉ ai_pc → Psi h → Psi (h.set a e)) {d : Nat} {sg : List (Nat × Nat × ar_R)} {tr : List (Nat × ar_R)} {vs : List aw_V} {src dst : Nat} (hs : src ≤ 2832) (hd : dst ≤ 2832) (hg : ∀ i : Nat, i < 944 → mr_cp sg tr (dst + i) (src + i) = true) (hf : vs[0]? = some (.inl 82)) : ak_ok Psi (sm_Ex 200 sm_ML sm_B (d + 1)) (cr_c vs sg tr src dst) := by
  refine sm_hand (B := cr_B) (show (156 : Nat) < 200 by decide) rfl (show (3 : Nat) ≤ sm_ML 156 by decide +kernel) ?_
  intro ws h hv hh hPs
  match ws, hv with
  | [v0, v1, v2], hv =>
    obtain ⟨e0, e1, e2, -⟩ := hv
    have e0 : v0 = .ref 81 := e0
    obtain ⟨x, rfl, hx⟩ := sm_vi e1
    obtain ⟨y, rfl, hy⟩ := sm_vi e2
    subst e0
    have hx := ar_1 hx
    have hy := ar_1 hy
    obtain ⟨e, he, fs, rfl, hl, hfs⟩ := hh (81, .inl (3, vs)) List.mem_cons_self
    obtain ⟨e, he2, f, rfl, hm⟩ := hh (82, mr_a sg tr) (List.mem_cons_of_mem _ List.mem_cons_self)
    have hm : mr_s sg tr f := hm
    have h0 : 0 < fs.length := by rw [hl]; exact (List.getElem?_eq_some_iff.mp hf).1
    have hr : fs[0]? = some (.ref 82) := by
      have a0 : fs[0] = .ref 82 := hfs 0 (.inl 82) _ hf (List.getElem?_eq_getElem h0)
      rw [List.getElem?_eq_getElem h0, a0]
    refine sm_go_st (i := .iconst 0) (n := 1) (t := (1, [(0, .ref 81), (1, .int x), (2, .int y)], [.int 0], h)) rfl rfl ?_
    refine sm_go_st (i := .istore_n 3) (n := 1) (t := (2, [(3, .int 0), (0, .ref 81), (1, .int x), (2, .int y)], [], h)) rfl rfl ?_
    refine cr_loop hP hs hd hg (x := x) (y := y) (by omega) (by omega) hr (h0 := h) ?_ 945 0 h f (by decide) (by decide) (by decide) he he2 hm hPs (fun _ _ => rfl)
    intro h' f' g2 hm' hp' fr'
    exact ⟨hp', fr', _, List.mem_cons_self, trivial, trivial, fun q hq => by
      rw [List.mem_singleton] at hq
      subst hq
      exact ⟨_, g2, f', rfl, hm'⟩⟩
  | [], hv => exact hv.elim
  | [_], hv => exact hv.2.elim
  | [_, _], hv => exact hv.2.2.elim
  | _ :: _ :: _ :: _ :: _, hv => exact hv.2.2.2.elim
/-! The reference's keepPast by hand: row[0] is one more. -/
def kp_B : sm_P := (fun pc => sm_ch sm_t149 pc, sm_Kn 3 2 none, fun x => sm_lk sm_ca3 x, none)
def kp_c (vs : List aw_V) (sg : List (Nat × Nat × ar_R)) (u : Int) : ak_C := (149, [.inl 81], [(81, .inl (3, vs)), (82, mr_a sg [(0, [(-1, u)])])], [82], [([], none, [(82, mr_a sg [(0, [(0, u + 1)])])])])
theorem mr_mul {x y : Int32} (h : -2147483648 ≤ x.toInt * y.toInt) (h2 : x.toInt * y.toInt < 2147483648) : (x * y).toInt = x.toInt * y.toInt := by
  rw [Int32.toInt_mul, Int.bmod_eq_of_le (by omega) (by omega)]
set_option maxHeartbeats 2000000 in
theorem kp_loop {Psi : List va_E → Prop} (hP : ∀ (h : List va_E) (a : Nat) (e : va_E), a ∉ ai_pc → Psi h → Psi (h.set a e)) {X : sm_X} {Q : Option Value → List va_E → Prop} {sg : List (Nat × Nat × ar_R)} {fs : List Value} {c : Int32} (hc : -1 ≤ c.toInt) (hc2 : c.toInt ≤ 39) (hg : ∀ a : Nat, a < 41 → ∀ i : Nat, i < 23 → mr_cp sg [] (1 + 23 * a + i) (1 + i) = true) (hz : (sg.all fun q => !(Nat.beq q.1 0) || decide (q.2.2 = [(-1, 40)])) = true) (hf : fs[0]? = some (.ref 82)) {h0 : List va_E} (hQ : ∀ (h : List va_E) (f : Nat → Int32), h[82]? = some (.inl (0, 3800, .inl f)) → mr_s sg [] f → (f 0).toInt = c.toInt + 1 → Psi h → (∀ b : Nat, b ∉ [82] → h[b]? = h0[b]?) → Q none h) : ∀ (n : Nat) (i : Int32) (h : List va_E) (f : Nat → Int32), 0 ≤ i.toInt → i.toInt ≤ 23 → (23 - i.toInt).toNat < n → h[81]? = some (.inr (3, fs)) → h[82]? = some (.inl (0, 3800, .inl f)) → mr_s sg [] f → f 0 = c → Psi h → (∀ b : Nat, b ∉ [82] → h[b]? = h0[b]?) → sm_Go kp_B X Q 2 [(1, .int i), (0, .ref 81)] [] h := by
  intro n
  induction n with
  | zero => intro i h f _ _ h3; exact absurd h3 (Nat.not_lt_zero _)
  | succ n ih =>
    intro i h f i1 i2 i3 g1 g2 hm hfc hp fr
    have in0 : ¬ ((0 : Int32) < 0 ∨ 3800 ≤ (0 : Int32).toNatClampNeg) := by decide
    refine sm_go_st (i := .iload_n 1) (n := 1) (t := (3, [(1, .int i), (0, .ref 81)], [.int i], h)) rfl rfl ?_
    refine sm_go_st (i := .bipush 23) (n := 2) (t := (5, [(1, .int i), (0, .ref 81)], [.int 23, .int i], h)) rfl rfl ?_
    refine sm_go_ic (t := 41) (q := .ge) (off := 36) rfl rfl (fun c1 => ?_) (fun c1 => ?_)
    · refine sm_go_st (i := .aload_n 0) (n := 1) (t := (42, [(1, .int i), (0, .ref 81)], [.ref 81], h)) rfl rfl ?_
      refine sm_go_gf (r := []) (v := .ref 82) rfl rfl g1 hf ?_
      refine sm_go_st (i := .iconst 0) (n := 1) (t := (46, [(1, .int i), (0, .ref 81)], [.int 0, .ref 82], h)) rfl rfl ?_
      refine sm_go_st (i := .dup2) (n := 1) (t := (47, [(1, .int i), (0, .ref 81)], [.int 0, .ref 82, .int 0, .ref 82], h)) rfl rfl ?_
      refine sm_go_ia (r := [.int 0, .ref 82]) rfl g2 (by decide) in0 ?_
      refine sm_go_st (i := .iconst 1) (n := 1) (t := (49, [(1, .int i), (0, .ref 81)], [.int 1, .int (f (0 : Int32).toNatClampNeg), .int 0, .ref 82], h)) rfl rfl ?_
      refine sm_go_st (i := .iadd) (n := 1) (t := (50, [(1, .int i), (0, .ref 81)], [.int (f (0 : Int32).toNatClampNeg + 1), .int 0, .ref 82], h)) rfl rfl ?_
      refine sm_go_is (r := []) rfl g2 in0 ?_
      have z0 : (0 : Int32).toNatClampNeg = 0 := by decide
      rw [z0, hfc]
      have hc1 := mr_1 (i := c) (by omega)
      refine sm_go_rt (o := none) (i := .return_) (n := 1) rfl ⟨rfl, Or.inr (Or.inr ⟨rfl, rfl, rfl, rfl⟩)⟩ (hQ _ (upd f 0 (c + 1)) (sm_set_s g2) ?_ ?_ (hP _ _ _ (by decide) hp) ?_)
      · refine ⟨fun q hq j h1 h2 => ?_, fun q hq => absurd hq List.not_mem_nil⟩
        rw [upd_at]
        by_cases hj : j = 0
        · rw [if_pos hj]
          have k := List.all_eq_true.mp hz q hq
          rw [show Nat.beq q.1 0 = true from Nat.beq_eq.mpr (by omega)] at k
          rw [show q.2.2 = [(-1, 40)] from of_decide_eq_true k]
          exact ar_o (by omega) (by omega)
        · rw [if_neg hj]
          exact hm.1 q hq j h1 h2
      · rw [upd_at, if_pos rfl]
        exact hc1
      · intro b hb
        rw [List.getElem?_set_ne (fun z => hb (by rw [← z]; exact List.mem_cons_self))]
        exact fr b hb
    have c1 : ¬ (23 : Int) ≤ i.toInt := c1
    have t23 : (23 : Int32).toInt = 23 := by decide
    have t24 : (24 : Int32).toInt = 24 := by decide
    have t1 : (1 : Int32).toInt = 1 := by decide
    have e1 : (23 * c).toInt = 23 * c.toInt := by rw [mr_mul (by rw [t23]; omega) (by rw [t23]; omega), t23]
    have e2 : (24 + 23 * c).toInt = 24 + 23 * c.toInt := by rw [mr_add (by omega) (by omega), e1, t24]
    have ey : (24 + 23 * c + i).toInt = 24 + 23 * c.toInt + i.toInt := by rw [mr_add (by omega) (by omega), e2]
    have ex : (1 + i).toInt = 1 + i.toInt := by rw [mr_add (by omega) (by omega), t1]
    have hix := aw_ix (i := i) i1
    have hiy := aw_ix (i := 24 + 23 * c + i) (by omega)
    have hixx := aw_ix (i := 1 + i) (by omega)
    have ny : (24 + 23 * c + i).toNatClampNeg = 1 + 23 * (c.toInt + 1).toNat + i.toNatClampNeg := by omega
    have nx : (1 + i).toNatClampNeg = 1 + i.toNatClampNeg := by omega
    have iny : ¬ (24 + 23 * c + i < 0 ∨ 3800 ≤ (24 + 23 * c + i).toNatClampNeg) := aw_in6 (q := ((24 + 23 * c + i).toInt, (24 + 23 * c + i).toInt)) ⟨Int.le_refl _, Int.le_refl _⟩ (by show 0 ≤ (24 + 23 * c + i).toInt; omega) (by show (24 + 23 * c + i).toInt < ((3800 : Nat) : Int); omega)
    have inx : ¬ (1 + i < 0 ∨ 3800 ≤ (1 + i).toNatClampNeg) := aw_in6 (q := ((1 + i).toInt, (1 + i).toInt)) ⟨Int.le_refl _, Int.le_refl _⟩ (by show 0 ≤ (1 + i).toInt; omega) (by show (1 + i).toInt < ((3800 : Nat) : Int); omega)
    refine sm_go_st (i := .aload_n 0) (n := 1) (t := (9, [(1, .int i), (0, .ref 81)], [.ref 81], h)) rfl rfl ?_
    refine sm_go_gf (r := []) (v := .ref 82) rfl rfl g1 hf ?_
    refine sm_go_st (i := .bipush 24) (n := 2) (t := (14, [(1, .int i), (0, .ref 81)], [.int 24, .ref 82], h)) rfl rfl ?_
    refine sm_go_st (i := .bipush 23) (n := 2) (t := (16, [(1, .int i), (0, .ref 81)], [.int 23, .int 24, .ref 82], h)) rfl rfl ?_
    refine sm_go_st (i := .aload_n 0) (n := 1) (t := (17, [(1, .int i), (0, .ref 81)], [.ref 81, .int 23, .int 24, .ref 82], h)) rfl rfl ?_
    refine sm_go_gf (r := [.int 23, .int 24, .ref 82]) (v := .ref 82) rfl rfl g1 hf ?_
    refine sm_go_st (i := .iconst 0) (n := 1) (t := (21, [(1, .int i), (0, .ref 81)], [.int 0, .ref 82, .int 23, .int 24, .ref 82], h)) rfl rfl ?_
    refine sm_go_ia (r := [.int 23, .int 24, .ref 82]) rfl g2 (by decide) in0 ?_
    rw [show f (0 : Int32).toNatClampNeg = c from hfc]
    refine sm_go_st (i := .imul) (n := 1) (t := (23, [(1, .int i), (0, .ref 81)], [.int (23 * c), .int 24, .ref 82], h)) rfl rfl ?_
    refine sm_go_st (i := .iadd) (n := 1) (t := (24, [(1, .int i), (0, .ref 81)], [.int (24 + 23 * c), .ref 82], h)) rfl rfl ?_
    refine sm_go_st (i := .iload_n 1) (n := 1) (t := (25, [(1, .int i), (0, .ref 81)], [.int i, .int (24 + 23 * c), .ref 82], h)) rfl rfl ?_
    refine sm_go_st (i := .iadd) (n := 1) (t := (26, [(1, .int i), (0, .ref 81)], [.int (24 + 23 * c + i), .ref 82], h)) rfl rfl ?_
    refine sm_go_st (i := .aload_n 0) (n := 1) (t := (27, [(1, .int i), (0, .ref 81)], [.ref 81, .int (24 + 23 * c + i), .ref 82], h)) rfl rfl ?_
    refine sm_go_gf (r := [.int (24 + 23 * c + i), .ref 82]) (v := .ref 82) rfl rfl g1 hf ?_
    refine sm_go_st (i := .iconst 1) (n := 1) (t := (31, [(1, .int i), (0, .ref 81)], [.int 1, .ref 82, .int (24 + 23 * c + i), .ref 82], h)) rfl rfl ?_
    refine sm_go_st (i := .iload_n 1) (n := 1) (t := (32, [(1, .int i), (0, .ref 81)], [.int i, .int 1, .ref 82, .int (24 + 23 * c + i), .ref 82], h)) rfl rfl ?_
    refine sm_go_st (i := .iadd) (n := 1) (t := (33, [(1, .int i), (0, .ref 81)], [.int (1 + i), .ref 82, .int (24 + 23 * c + i), .ref 82], h)) rfl rfl ?_
    refine sm_go_ia (r := [.int (24 + 23 * c + i), .ref 82]) rfl g2 (by decide) inx ?_
    refine sm_go_is (r := []) rfl g2 iny ?_
    refine sm_go_st (i := .iinc 1 1) (n := 3) (t := (38, [(1, .int (i + 1)), (0, .ref 81)], [], h.set 82 (.inl (0, 3800, .inl (upd f (24 + 23 * c + i).toNatClampNeg (f (1 + i).toNatClampNeg)))))) rfl rfl ?_
    refine sm_go_st (i := .goto (-36)) (n := 3) (t := (2, [(1, .int (i + 1)), (0, .ref 81)], [], h.set 82 (.inl (0, 3800, .inl (upd f (24 + 23 * c + i).toNatClampNeg (f (1 + i).toNatClampNeg)))))) rfl rfl ?_
    have hi1 := mr_1 (i := i) (by omega)
    refine ih (i + 1) _ _ (by omega) (by omega) (by omega) (sm_set_n (by decide) g1) (sm_set_s g2) ?_ ?_ (hP _ _ _ (by decide) hp) ?_
    · rw [ny, nx]
      exact mr_cp_s hm (hg _ (by omega) _ (by omega))
    · rw [upd_at, if_neg (by omega)]
      exact hfc
    · intro b hb
      rw [List.getElem?_set_ne (fun z => hb (by rw [← z]; exact List.mem_cons_self))]
      exact fr b hb
set_option maxHeartbeats 1000000 in
theorem kp_ok {Psi : List va_E → Prop} (hP : ∀ (h : List va_E) (a : Nat) (e : va_E), a ∉ ai_pc → Psi h → Psi (h.set a e)) {d : Nat} {sg : List (Nat × Nat × ar_R)} {vs : List aw_V} {u : Int} (hu : u ≤ 39) (hg : ∀ a : Nat, a < 41 → ∀ i : Nat, i < 23 → mr_cp sg [] (1 + 23 * a + i) (1 + i) = true) (hz : (sg.all fun q => !(Nat.beq q.1 0) || decide (q.2.2 = [(-1, 40)])) = true) (hf : vs[0]? = some (.inl 82)) : ak_ok Psi (sm_Ex 200 sm_ML sm_B (d + 1)) (kp_c vs sg u) := by
  refine sm_hand (B := kp_B) (show (149 : Nat) < 200 by decide) rfl (show (1 : Nat) ≤ sm_ML 149 by decide +kernel) ?_
  intro ws h hv hh hPs
  match ws, hv with
  | [v0], hv =>
    have e0 : v0 = .ref 81 := hv.1
    subst e0
    obtain ⟨e, he, fs, rfl, hl, hfs⟩ := hh (81, .inl (3, vs)) List.mem_cons_self
    obtain ⟨e, he2, f, rfl, hm, ht⟩ := hh (82, mr_a sg [(0, [(-1, u)])]) (List.mem_cons_of_mem _ List.mem_cons_self)
    have hr0 : -1 ≤ (f 0).toInt ∧ (f 0).toInt ≤ u := ar_1 (ht _ List.mem_cons_self).2
    have h0 : 0 < fs.length := by rw [hl]; exact (List.getElem?_eq_some_iff.mp hf).1
    have hr : fs[0]? = some (.ref 82) := by
      have a0 : fs[0] = .ref 82 := hfs 0 (.inl 82) _ hf (List.getElem?_eq_getElem h0)
      rw [List.getElem?_eq_getElem h0, a0]
    refine sm_go_st (i := .iconst 0) (n := 1) (t := (1, [(0, .ref 81)], [.int 0], h)) rfl rfl ?_
    refine sm_go_st (i := .istore_n 1) (n := 1) (t := (2, [(1, .int 0), (0, .ref 81)], [], h)) rfl rfl ?_
    refine kp_loop hP (c := f 0) hr0.1 (by omega) hg hz hr (h0 := h) ?_ 24 0 h f (by decide) (by decide) (by decide) he he2 ⟨hm, fun q hq => absurd hq List.not_mem_nil⟩ rfl hPs (fun _ _ => rfl)
    intro h' f' g2 hm' hz' hp' fr'
    exact ⟨hp', fr', _, List.mem_cons_self, trivial, trivial, fun q hq => by
      rw [List.mem_singleton] at hq
      subst hq
      refine ⟨_, g2, f', rfl, hm'.1, fun q hq => ?_⟩
      rw [List.mem_singleton] at hq
      subst hq
      exact ⟨(show (0 : Nat) < 3800 by decide), ar_o (by show 0 ≤ (f' 0).toInt; omega) (by show (f' 0).toInt ≤ u + 1; omega)⟩⟩
  | [], hv => exact hv.elim
  | _ :: _ :: _, hv => exact hv.2.elim
/-! The reference's tellParts by hand: the greatest common divisor is never nothing. -/
section HANDL
variable {B : sm_P} {X : sm_X} {P : Option Value → List va_E → Prop} {pc : Nat} {lv : sm_L} {h : List va_E}
theorem sm_go_ld {x y : Int64} {r : List Value} (hi : B.1 pc = some (.ldiv, 1)) (hy : y ≠ 0) (k : sm_Go B X P (pc + 1) lv (.long (x / y) :: r) h) : sm_Go B X P pc lv (.long y :: .long x :: r) h := by
  refine sm_go_st (t := (pc + 1, lv, .long (x / y) :: r, h)) hi ?_ k
  show (if y = 0 then _ else _) = _
  rw [if_neg hy]
theorem sm_go_lr {x y : Int64} {r : List Value} (hi : B.1 pc = some (.lrem, 1)) (hy : y ≠ 0) (k : sm_Go B X P (pc + 1) lv (.long (x - x / y * y) :: r) h) : sm_Go B X P pc lv (.long y :: .long x :: r) h := by
  refine sm_go_st (t := (pc + 1, lv, .long (x - x / y * y) :: r, h)) hi ?_ k
  show (if y = 0 then _ else _) = _
  rw [if_neg hy]
theorem sm_go_pl {x ci k a : Nat} {fs : List Value} {v : Int64} {r : List Value} (hi : B.1 pc = some (.putfield x, 3)) (hf : B.2.1.1 x = some (ci, k, 1)) (he : h[a]? = some (.inr (ci, fs))) (hl : k < fs.length) (kk : sm_Go B X P (pc + 3) lv r (h.set a (.inr (ci, fs.set k (.long v))))) : sm_Go B X P pc lv (.long v :: .ref a :: r) h := by
  refine sm_go_st (t := (pc + 3, lv, r, h.set a (.inr (ci, fs.set k (.long v))))) hi ?_ kk
  have ho : sm_obj h a ci = some fs := by unfold sm_obj; rw [he]; exact if_pos rfl
  show (B.2.1.1 x).bind _ = _
  rw [hf]
  show (if (1 : Nat) = 1 then (sm_obj h a ci).bind (fun fs => if k < fs.length then some (pc + 3, lv, r, h.set a (.inr (ci, fs.set k (.long v)))) else none) else none) = _
  rw [if_pos rfl, ho]
  show (if k < fs.length then _ else _) = _
  rw [if_pos hl]
end HANDL
theorem tp_z (b : Int64) : (lg_cmp b 0).toInt = 0 ↔ b.toInt = 0 := (ar_smcmp .eq (lg_cmp b 0) 0).symm.trans (aw_lcmp .eq b 0)
def tp_B : sm_P := (fun pc => sm_ch sm_t186 pc, sm_Kn 3 11 none, fun x => sm_lk sm_ca3 x, none)
theorem mo_set {ci k : Nat} {vs : List aw_V} {fs : List Value} {v : aw_V} {w : Value} (hl : fs.length = vs.length) (hf : ∀ (k : Nat) (v : aw_V) (w : Value), vs[k]? = some v → fs[k]? = some w → aw_m v w) (hm : aw_m v w) : aw_c (.inl (ci, vs.set k v)) (.inr (ci, fs.set k w)) := by
  refine ⟨_, rfl, by rw [List.length_set, List.length_set]; exact hl, fun j v' w' hv hw => ?_⟩
  by_cases hj : k = j
  · subst hj
    have h1 : k < fs.length := by
      have := (List.getElem?_eq_some_iff.mp hw).1
      rw [List.length_set] at this
      exact this
    rw [List.getElem?_set_self (by omega)] at hv
    rw [List.getElem?_set_self h1] at hw
    cases hv
    cases hw
    exact hm
  · rw [List.getElem?_set_ne hj] at hv hw
    exact hf j v' w' hv hw
theorem mo_get {vs : List aw_V} {fs : List Value} {k : Nat} {v : aw_V} (hl : fs.length = vs.length) (hf : ∀ (k : Nat) (v : aw_V) (w : Value), vs[k]? = some v → fs[k]? = some w → aw_m v w) (hv : vs[k]? = some v) : ∃ w, fs[k]? = some w ∧ aw_m v w := by
  have h1 : k < fs.length := by rw [hl]; exact (List.getElem?_eq_some_iff.mp hv).1
  exact ⟨_, List.getElem?_eq_getElem h1, hf k v _ hv (List.getElem?_eq_getElem h1)⟩
/-! The reference's in and figure by hand. -/
def in_B : sm_P := (fun pc => sm_ch sm_t105 pc, sm_Kn 3 6 none, fun x => sm_lk sm_ca3 x, some .boolean)
theorem in_run {d : Nat} (a b c : Int64) (h : List va_E) : ∃ r : Int32, sm_Ex 200 sm_ML sm_B (d + 1) 105 [.long a, .long b, .long c] h (some (.int r)) h ∧ (¬ r.toInt = 0 → b.toInt ≤ a.toInt ∧ a.toInt ≤ c.toInt) := by
  have run : sm_Go in_B (sm_Ex 200 sm_ML sm_B d) (fun o h' => h' = h ∧ ∃ r : Int32, o = some (.int r) ∧ (¬ r.toInt = 0 → b.toInt ≤ a.toInt ∧ a.toInt ≤ c.toInt)) 0 [(0, .long a), (2, .long b), (4, .long c)] [] h := by
    have no : sm_Go in_B (sm_Ex 200 sm_ML sm_B d) (fun o h' => h' = h ∧ ∃ r : Int32, o = some (.int r) ∧ (¬ r.toInt = 0 → b.toInt ≤ a.toInt ∧ a.toInt ≤ c.toInt)) 17 [(0, .long a), (2, .long b), (4, .long c)] [] h := by
      refine sm_go_st (i := .iconst 0) (n := 1) (t := (18, [(0, .long a), (2, .long b), (4, .long c)], [.int 0], h)) rfl rfl ?_
      exact sm_go_rt (o := some (.int 0)) (i := .ireturn) (n := 1) rfl ⟨rfl, Or.inl ⟨rfl, 0, rfl, rfl, Or.inr ⟨rfl, Or.inl rfl⟩⟩⟩ ⟨rfl, 0, rfl, fun z => absurd (show (0 : Int32).toInt = 0 from rfl) z⟩
    refine sm_go_st (i := .lload_n 0) (n := 1) (t := (1, [(0, .long a), (2, .long b), (4, .long c)], [.long a], h)) rfl rfl ?_
    refine sm_go_st (i := .lload_n 2) (n := 1) (t := (2, [(0, .long a), (2, .long b), (4, .long c)], [.long b, .long a], h)) rfl rfl ?_
    refine sm_go_st (i := .lcmp) (n := 1) (t := (3, [(0, .long a), (2, .long b), (4, .long c)], [.int (lg_cmp a b)], h)) rfl rfl ?_
    refine sm_go_if (t := 17) (q := .lt) (off := 14) rfl rfl (fun _ => no) (fun c1 => ?_)
    have c1 : ¬ a.toInt < b.toInt := fun z => c1 ((ar_smcmp .lt (lg_cmp a b) 0).mp ((aw_lcmp .lt a b).mpr z))
    refine sm_go_st (i := .lload_n 0) (n := 1) (t := (7, [(0, .long a), (2, .long b), (4, .long c)], [.long a], h)) rfl rfl ?_
    refine sm_go_st (i := .lload 4) (n := 2) (t := (9, [(0, .long a), (2, .long b), (4, .long c)], [.long c, .long a], h)) rfl rfl ?_
    refine sm_go_st (i := .lcmp) (n := 1) (t := (10, [(0, .long a), (2, .long b), (4, .long c)], [.int (lg_cmp a c)], h)) rfl rfl ?_
    refine sm_go_if (t := 17) (q := .gt) (off := 7) rfl rfl (fun _ => no) (fun c2 => ?_)
    have c2 : ¬ c.toInt < a.toInt := fun z => c2 ((ar_smcmp .gt (lg_cmp a c) 0).mp ((aw_lcmp .gt a c).mpr z))
    refine sm_go_st (i := .iconst 1) (n := 1) (t := (14, [(0, .long a), (2, .long b), (4, .long c)], [.int 1], h)) rfl rfl ?_
    refine sm_go_st (i := .goto 4) (n := 3) (t := (18, [(0, .long a), (2, .long b), (4, .long c)], [.int 1], h)) rfl rfl ?_
    exact sm_go_rt (o := some (.int 1)) (i := .ireturn) (n := 1) rfl ⟨rfl, Or.inl ⟨rfl, 1, rfl, rfl, Or.inr ⟨rfl, Or.inr rfl⟩⟩⟩ ⟨rfl, 1, rfl, fun _ => ⟨by omega, by omega⟩⟩
  obtain ⟨f, o, h', hr, rfl, r, rfl, hrr⟩ := run
  exact ⟨r, ⟨by decide, show (6 : Nat) ≤ sm_ML 105 by decide +kernel, f, hr⟩, hrr⟩
theorem fg_sub {x : Int32} (h : -2147483647 ≤ x.toInt) : (x - 1).toInt = x.toInt - 1 := by
  rw [Int32.toInt_sub]
  have := x.toInt_lt
  show (x.toInt - 1).bmod (2 ^ 32) = _
  exact Int.bmod_eq_of_le (by omega) (by omega)
