/-! The reference's row of registers, copied place by place: what is known of its parts stays. -/
def mr_s (sg : List (Nat × Nat × ar_R)) (tr : List (Nat × ar_R)) (f : Nat → Int32) : Prop := (∀ q ∈ sg, ∀ j : Nat, q.1 ≤ j → j ≤ q.2.1 → ar_in (f j).toInt q.2.2) ∧ ∀ q ∈ tr, q.1 < 3800 ∧ ar_in (f q.1).toInt q.2
def mr_a (sg : List (Nat × Nat × ar_R)) (tr : List (Nat × ar_R)) : aw_A := .inr (.inl (0, 3800, sg, tr))
def mr_y (sg : List (Nat × Nat × ar_R)) (y : Nat) (r : ar_R) : Bool := sg.any fun p => Nat.ble p.1 y && Nat.ble y p.2.1 && decide (p.2.2 = r)
def mr_cp (sg : List (Nat × Nat × ar_R)) (tr : List (Nat × ar_R)) (x y : Nat) : Bool := (sg.all fun q => !(Nat.ble q.1 x && Nat.ble x q.2.1) || mr_y sg y q.2.2) && (tr.all fun q => !(Nat.beq q.1 x) || mr_y sg y q.2)
theorem mr_y_s {sg : List (Nat × Nat × ar_R)} {tr : List (Nat × ar_R)} {f : Nat → Int32} {y : Nat} {r : ar_R} (hs : mr_s sg tr f) (h : mr_y sg y r = true) : ar_in (f y).toInt r := by
  obtain ⟨p, hp, h1⟩ := List.any_eq_true.mp h
  rw [Bool.and_eq_true, Bool.and_eq_true] at h1
  have e := of_decide_eq_true h1.2
  rw [← e]
  exact hs.1 p hp y (Nat.le_of_ble_eq_true h1.1.1) (Nat.le_of_ble_eq_true h1.1.2)
theorem mr_cp_s {sg : List (Nat × Nat × ar_R)} {tr : List (Nat × ar_R)} {f : Nat → Int32} {x y : Nat} (hs : mr_s sg tr f) (h : mr_cp sg tr x y = true) : mr_s sg tr (upd f x (f y)) := by
  unfold mr_cp at h
  rw [Bool.and_eq_true] at h
  refine ⟨fun q hq j h1 h2 => ?_, fun q hq => ⟨(hs.2 q hq).1, ?_⟩⟩
  · rw [upd_at]
    by_cases hj : j = x
    · rw [if_pos hj]
      subst hj
      have k := List.all_eq_true.mp h.1 q hq
      rw [Nat.ble_eq_true_of_le h1, Nat.ble_eq_true_of_le h2] at k
      exact mr_y_s hs k
    · rw [if_neg hj]
      exact hs.1 q hq j h1 h2
  · rw [upd_at]
    by_cases hj : q.1 = x
    · rw [if_pos hj]
      have k := List.all_eq_true.mp h.2 q hq
      rw [show Nat.beq q.1 x = true from Nat.beq_eq.mpr hj] at k
      exact mr_y_s hs k
    · rw [if_neg hj]
      exact (hs.2 q hq).2
def cr_B : sm_P := (fun pc => sm_ch sm_t156 pc, sm_Kn 3 4 none, fun x => sm_lk sm_ca3 x, none)
def cr_c (vs : List aw_V) (sg : List (Nat × Nat × ar_R)) (tr : List (Nat × ar_R)) (src dst : Nat) : ak_C := (156, [.inl 81, .inr (false, [((src : Int), (src : Int))]), .inr (false, [((dst : Int), (dst : Int))])], [(81, .inl (3, vs)), (82, mr_a sg tr)], [82], [([], none, [(82, mr_a sg tr)])])
theorem mr_1 {i : Int32} (h : i.toInt < 2147483647) : (i + 1).toInt = i.toInt + 1 := by
  have := i.le_toInt
  rw [Int32.toInt_add, show (1 : Int32).toInt = 1 from rfl, Int.bmod_eq_of_le (by omega) (by omega)]
theorem mr_add {x y : Int32} (h : -2147483648 ≤ x.toInt + y.toInt) (h2 : x.toInt + y.toInt < 2147483648) : (x + y).toInt = x.toInt + y.toInt := by
  rw [Int32.toInt_add, Int.bmod_eq_of_le (by omega) (by omega)]
set_option maxHeartbeats 2000000 in
theorem cr_loop {Psi : List va_E → Prop} (hP : ∀ (h : List va_E) (a : Nat) (e : va_E), a ∉ ai_pc → Psi h → Psi (h.set a e)) {X : sm_X} {Q : Option Value → List va_E → Prop} {sg : List (Nat × Nat × ar_R)} {tr : List (Nat × ar_R)} {fs : List Value} {src dst : Nat} (hs : src ≤ 2832) (hd : dst ≤ 2832) (hg : ∀ i : Nat, i < 944 → mr_cp sg tr (dst + i) (src + i) = true) {x y : Int32} (hx : x.toInt = src) (hy : y.toInt = dst) (hf : fs[0]? = some (.ref 82)) {h0 : List va_E} (hQ : ∀ (h : List va_E) (f : Nat → Int32), h[82]? = some (.inl (0, 3800, .inl f)) → mr_s sg tr f → Psi h → (∀ b : Nat, b ∉ [82] → h[b]? = h0[b]?) → Q none h) : ∀ (n : Nat) (i : Int32) (h : List va_E) (f : Nat → Int32), 0 ≤ i.toInt → i.toInt ≤ 944 → (944 - i.toInt).toNat < n → h[81]? = some (.inr (3, fs)) → h[82]? = some (.inl (0, 3800, .inl f)) → mr_s sg tr f → Psi h → (∀ b : Nat, b ∉ [82] → h[b]? = h0[b]?) → sm_Go cr_B X Q 2 [(3, .int i), (0, .ref 81), (1, .int x), (2, .int y)] [] h := by
  intro n
  induction n with
  | zero => intro i h f _ _ h3; exact absurd h3 (Nat.not_lt_zero _)
  | succ n ih =>
    intro i h f i1 i2 i3 g1 g2 hm hp fr
    refine sm_go_st (i := .iload_n 3) (n := 1) (t := (3, [(3, .int i), (0, .ref 81), (1, .int x), (2, .int y)], [.int i], h)) rfl rfl ?_
    refine sm_go_st (i := .sipush 944) (n := 3) (t := (6, [(3, .int i), (0, .ref 81), (1, .int x), (2, .int y)], [.int 944, .int i], h)) rfl rfl ?_
    refine sm_go_ic (t := 31) (q := .ge) (off := 25) rfl rfl (fun c1 => ?_) (fun c1 => ?_)
    · exact sm_go_rt (o := none) (i := .return_) (n := 1) rfl ⟨rfl, Or.inr (Or.inr ⟨rfl, rfl, rfl, rfl⟩)⟩ (hQ h f g2 hm hp fr)
    have c1 : ¬ (944 : Int) ≤ i.toInt := c1
    have ey : (y + i).toInt = dst + i.toInt := by rw [mr_add (by omega) (by omega), hy]
    have ex : (x + i).toInt = src + i.toInt := by rw [mr_add (by omega) (by omega), hx]
    have hix := aw_ix (i := i) i1
    have hiy := aw_ix (i := y + i) (by omega)
    have hixx := aw_ix (i := x + i) (by omega)
    have ny : (y + i).toNatClampNeg = dst + i.toNatClampNeg := by omega
    have nx : (x + i).toNatClampNeg = src + i.toNatClampNeg := by omega
    have iny : ¬ (y + i < 0 ∨ 3800 ≤ (y + i).toNatClampNeg) := aw_in6 (q := ((y + i).toInt, (y + i).toInt)) ⟨Int.le_refl _, Int.le_refl _⟩ (by show 0 ≤ (y + i).toInt; omega) (by show (y + i).toInt < ((3800 : Nat) : Int); omega)
    have inx : ¬ (x + i < 0 ∨ 3800 ≤ (x + i).toNatClampNeg) := aw_in6 (q := ((x + i).toInt, (x + i).toInt)) ⟨Int.le_refl _, Int.le_refl _⟩ (by show 0 ≤ (x + i).toInt; omega) (by show (x + i).toInt < ((3800 : Nat) : Int); omega)
    refine sm_go_st (i := .aload_n 0) (n := 1) (t := (10, [(3, .int i), (0, .ref 81), (1, .int x), (2, .int y)], [.ref 81], h)) rfl rfl ?_
    refine sm_go_gf (r := []) (v := .ref 82) rfl rfl g1 hf ?_
    refine sm_go_st (i := .iload_n 2) (n := 1) (t := (14, [(3, .int i), (0, .ref 81), (1, .int x), (2, .int y)], [.int y, .ref 82], h)) rfl rfl ?_
    refine sm_go_st (i := .iload_n 3) (n := 1) (t := (15, [(3, .int i), (0, .ref 81), (1, .int x), (2, .int y)], [.int i, .int y, .ref 82], h)) rfl rfl ?_
    refine sm_go_st (i := .iadd) (n := 1) (t := (16, [(3, .int i), (0, .ref 81), (1, .int x), (2, .int y)], [.int (y + i), .ref 82], h)) rfl rfl ?_
    refine sm_go_st (i := .aload_n 0) (n := 1) (t := (17, [(3, .int i), (0, .ref 81), (1, .int x), (2, .int y)], [.ref 81, .int (y + i), .ref 82], h)) rfl rfl ?_
    refine sm_go_gf (r := [.int (y + i), .ref 82]) (v := .ref 82) rfl rfl g1 hf ?_
    refine sm_go_st (i := .iload_n 1) (n := 1) (t := (21, [(3, .int i), (0, .ref 81), (1, .int x), (2, .int y)], [.int x, .ref 82, .int (y + i), .ref 82], h)) rfl rfl ?_
    refine sm_go_st (i := .iload_n 3) (n := 1) (t := (22, [(3, .int i), (0, .ref 81), (1, .int x), (2, .int y)], [.int i, .int x, .ref 82, .int (y + i), .ref 82], h)) rfl rfl ?_
    refine sm_go_st (i := .iadd) (n := 1) (t := (23, [(3, .int i), (0, .ref 81), (1, .int x), (2, .int y)], [.int (x + i), .ref 82, .int (y + i), .ref 82], h)) rfl rfl ?_
    refine sm_go_ia (r := [.int (y + i), .ref 82]) rfl g2 (by decide) inx ?_
    refine sm_go_is (r := []) rfl g2 iny ?_
    refine sm_go_st (i := .iinc 3 1) (n := 3) (t := (28, [(3, .int (i + 1)), (0, .ref 81), (1, .int x), (2, .int y)], [], h.set 82 (.inl (0, 3800, .inl (upd f (y + i).toNatClampNeg (f (x + i).toNatClampNeg)))))) rfl rfl ?_
    refine sm_go_st (i := .goto (-26)) (n := 3) (t := (2, [(3, .int (i + 1)), (0, .ref 81), (1, .int x), (2, .int y)], [], h.set 82 (.inl (0, 3800, .inl (upd f (y + i).toNatClampNeg (f (x + i).toNatClampNeg)))))) rfl rfl ?_
    have hi1 := mr_1 (i := i) (by omega)
    refine ih (i + 1) _ _ (by omega) (by omega) (by omega) (sm_set_n (by decide) g1) (sm_set_s g2) ?_ (hP _ _ _ (by decide) hp) ?_
    · rw [ny, nx]
      exact mr_cp_s hm (hg _ (by omega))
    · intro b hb
      rw [List.getElem?_set_ne (fun z => hb (by rw [← z]; exact List.mem_cons_self))]
      exact fr b hb
set_option maxHeartbeats 1000000 in
theorem cr_ok {Psi : List va_E → Prop} (hP : ∀ (h : List va_E) (a : Nat) (e : va_E), a ∉ ai_pc → Psi h → Psi (h.set a e)) {d : Nat} {sg : List (Nat × Nat × ar_R)} {tr : List (Nat × ar_R)} {vs : List aw_V} {src dst : Nat} (hs : src ≤ 2832) (hd : dst ≤ 2832) (hg : ∀ i : Nat, i < 944 → mr_cp sg tr (dst + i) (src + i) = true) (hf : vs[0]? = some (.inl 82)) : ak_ok Psi (sm_Ex 200 sm_ML sm_B (d + 1)) (cr_c vs sg tr src dst) := by
  refine sm_hand (B := cr_B) (show (156 : Nat) < 200 by decide) rfl (show (3 : Nat) ≤ sm_ML 156 by decide +kernel) ?_
  intro ws h hv hh hPs
  match ws, hv with
  | [v0, v1, v2], hv =>
    obtain ⟨e0, e1, e2, -⟩ := hv
    have e0 : v0 = .ref 81 := e0
    obtain ⟨x, rfl, hx⟩ := sm_vi e1
    obtain ⟨y, rfl, hy⟩ := sm_vi e2
    subst e0
    have hx := ar_1 hx
    have hy := ar_1 hy
    obtain ⟨e, he, fs, rfl, hl, hfs⟩ := hh (81, .inl (3, vs)) List.mem_cons_self
    obtain ⟨e, he2, f, rfl, hm⟩ := hh (82, mr_a sg tr) (List.mem_cons_of_mem _ List.mem_cons_self)
    have hm : mr_s sg tr f := hm
    have h0 : 0 < fs.length := by rw [hl]; exact (List.getElem?_eq_some_iff.mp hf).1
    have hr : fs[0]? = some (.ref 82) := by
      have a0 : fs[0] = .ref 82 := hfs 0 (.inl 82) _ hf (List.getElem?_eq_getElem h0)
      rw [List.getElem?_eq_getElem h0, a0]
    refine sm_go_st (i := .iconst 0) (n := 1) (t := (1, [(0, .ref 81), (1, .int x), (2, .int y)], [.int 0], h)) rfl rfl ?_
    refine sm_go_st (i := .istore_n 3) (n := 1) (t := (2, [(3, .int 0), (0, .ref 81), (1, .int x), (2, .int y)], [], h)) rfl rfl ?_
    refine cr_loop hP hs hd hg (x := x) (y := y) (by omega) (by omega) hr (h0 := h) ?_ 945 0 h f (by decide) (by decide) (by decide) he he2 hm hPs (fun _ _ => rfl)
    intro h' f' g2 hm' hp' fr'
    exact ⟨hp', fr', _, List.mem_cons_self, trivial, trivial, fun q hq => by
      rw [List.mem_singleton] at hq
      subst hq
      exact ⟨_, g2, f', rfl, hm'⟩⟩
  | [], hv => exact hv.elim
  | [_], hv => exact hv.2.elim
  | [_, _], hv => exact hv.2.2.elim
  | _ :: _ :: _ :: _ :: _, hv => exact hv.2.2.2.elim

