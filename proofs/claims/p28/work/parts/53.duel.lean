/-! The reference's duel by hand: its search ends. -/
theorem ah_set {H : aw_H} {h : List va_E} {a : Nat} {e0 e : va_E} (hh : aw_h H h) (h0 : h[a]? = some e0) (hc : ∀ c, (a, c) ∈ H → aw_c c e) : aw_h H (h.set a e) := by
  intro q hq
  by_cases ha : a = q.1
  · refine ⟨e, by rw [← ha]; exact sm_set_s h0, hc q.2 (by rw [ha]; exact hq)⟩
  · obtain ⟨e1, h1, h2⟩ := hh q hq
    exact ⟨e1, by rw [List.getElem?_set_ne ha]; exact h1, h2⟩
def il_B : sm_P := (fun pc => sm_ch sm_t131 pc, sm_Kn 3 2 none, fun x => sm_lk sm_ca3 x, some .boolean)
theorem il_run {d : Nat} {h : List va_E} {F : List Value} {ln : Int32} (x : Int32) (g1 : h[81]? = some (.inr (3, F))) (f1 : F[1]? = some (.int ln)) (hln : 0 ≤ ln.toInt ∧ ln.toInt ≤ 8) : ∃ r : Int32, sm_Ex 200 sm_ML sm_B (d + 2) 131 [.ref 81, .int x] h (some (.int r)) h ∧ (¬ r.toInt = 0 → 0 ≤ x.toInt ∧ x.toInt ≤ ln.toInt - 1) := by
  obtain ⟨r, hrun, hr, h01⟩ := in_01 (d := d) x.toInt64 0 (ln - 1).toInt64 h
  have run : sm_Go il_B (sm_Ex 200 sm_ML sm_B (d + 1)) (fun o h' => h' = h ∧ o = some (.int r)) 0 [(0, .ref 81), (1, .int x)] [] h := by
    refine sm_go_st (i := .iload_n 1) (n := 1) (t := (1, [(0, .ref 81), (1, .int x)], [.int x], h)) rfl rfl ?_
    refine sm_go_st (i := .i2l) (n := 1) (t := (2, [(0, .ref 81), (1, .int x)], [.long x.toInt64], h)) rfl rfl ?_
    refine sm_go_st (i := .lconst 0) (n := 1) (t := (3, [(0, .ref 81), (1, .int x)], [.long 0, .long x.toInt64], h)) rfl rfl ?_
    refine sm_go_st (i := .aload_n 0) (n := 1) (t := (4, [(0, .ref 81), (1, .int x)], [.ref 81, .long 0, .long x.toInt64], h)) rfl rfl ?_
    refine sm_go_gf (r := [.long 0, .long x.toInt64]) (v := .int ln) rfl rfl g1 f1 ?_
    refine sm_go_st (i := .iconst 1) (n := 1) (t := (8, [(0, .ref 81), (1, .int x)], [.int 1, .int ln, .long 0, .long x.toInt64], h)) rfl rfl ?_
    refine sm_go_st (i := .isub) (n := 1) (t := (9, [(0, .ref 81), (1, .int x)], [.int (ln - 1), .long 0, .long x.toInt64], h)) rfl rfl ?_
    refine sm_go_st (i := .i2l) (n := 1) (t := (10, [(0, .ref 81), (1, .int x)], [.long (ln - 1).toInt64, .long 0, .long x.toInt64], h)) rfl rfl ?_
    refine sm_go_cl (i := .invokestatic 71) (n := 3) (k := 105) (vs := [.long x.toInt64, .long 0, .long (ln - 1).toInt64]) (r := []) rfl ⟨rfl, Nat.le_of_ble_eq_true rfl, Or.inr (Or.inl ⟨71, 3, rfl, rfl, rfl⟩)⟩ hrun ?_
    exact sm_go_rt (o := some (.int r)) (i := .ireturn) (n := 1) rfl ⟨rfl, Or.inl ⟨rfl, r, rfl, rfl, Or.inr ⟨rfl, h01⟩⟩⟩ ⟨rfl, rfl⟩
  obtain ⟨f, o, h', hr', rfl, rfl⟩ := run
  refine ⟨r, ⟨by decide, show (2 : Nat) ≤ sm_ML 131 by decide +kernel, f, hr'⟩, fun z => ?_⟩
  have k := hr z
  rw [Int32.toInt_toInt64, Int32.toInt_toInt64, fg_sub (by omega)] at k
  exact k
def be_B : sm_P := (fun pc => sm_ch sm_t183 pc, sm_Kn 3 3 none, fun x => sm_lk sm_ca3 x, some .int)
theorem be_run {d : Nat} (x y z : Int32) (h : List va_E) : ∃ r : Int32, sm_Ex 200 sm_ML sm_B (d + 1) 183 [.int x, .int y, .int z] h (some (.int r)) h := by
  have fin : ∀ v : Int32, sm_Go be_B (sm_Ex 200 sm_ML sm_B d) (fun o h' => h' = h ∧ ∃ r : Int32, o = some (.int r)) 29 [(0, .int x), (1, .int y), (2, .int z)] [.int v] h := fun v =>
    sm_go_rt (o := some (.int v)) (i := .ireturn) (n := 1) rfl ⟨rfl, Or.inl ⟨rfl, v, rfl, rfl, Or.inl rfl⟩⟩ ⟨rfl, v, rfl⟩
  have run : sm_Go be_B (sm_Ex 200 sm_ML sm_B d) (fun o h' => h' = h ∧ ∃ r : Int32, o = some (.int r)) 0 [(0, .int x), (1, .int y), (2, .int z)] [] h := by
    refine sm_go_st (i := .iload_n 0) (n := 1) (t := (1, [(0, .int x), (1, .int y), (2, .int z)], [.int x], h)) rfl rfl ?_
    refine sm_go_st (i := .iconst 2) (n := 1) (t := (2, [(0, .int x), (1, .int y), (2, .int z)], [.int 2, .int x], h)) rfl rfl ?_
    refine sm_go_st (i := .irem) (n := 1) (t := (3, [(0, .int x), (1, .int y), (2, .int z)], [.int (x - x / 2 * 2)], h)) rfl rfl ?_
    refine sm_go_if (t := 19) (q := .ne) (off := 16) rfl rfl (fun _ => ?_) (fun _ => ?_)
    · show sm_Go be_B _ _ 19 [(0, .int x), (1, .int y), (2, .int z)] [] h
      refine sm_go_st (i := .iload_n 1) (n := 1) (t := (20, [(0, .int x), (1, .int y), (2, .int z)], [.int y], h)) rfl rfl ?_
      refine sm_go_st (i := .iload_n 2) (n := 1) (t := (21, [(0, .int x), (1, .int y), (2, .int z)], [.int z, .int y], h)) rfl rfl ?_
      refine sm_go_ic (t := 28) (q := .ge) (off := 7) rfl rfl (fun _ => ?_) (fun _ => ?_)
      · show sm_Go be_B _ _ 28 [(0, .int x), (1, .int y), (2, .int z)] [] h
        refine sm_go_st (i := .iload_n 2) (n := 1) (t := (29, [(0, .int x), (1, .int y), (2, .int z)], [.int z], h)) rfl rfl ?_
        exact fin z
      · show sm_Go be_B _ _ 24 [(0, .int x), (1, .int y), (2, .int z)] [] h
        refine sm_go_st (i := .iload_n 1) (n := 1) (t := (25, [(0, .int x), (1, .int y), (2, .int z)], [.int y], h)) rfl rfl ?_
        refine sm_go_st (i := .goto 4) (n := 3) (t := (29, [(0, .int x), (1, .int y), (2, .int z)], [.int y], h)) rfl rfl ?_
        exact fin y
    · show sm_Go be_B _ _ 6 [(0, .int x), (1, .int y), (2, .int z)] [] h
      refine sm_go_st (i := .iload_n 1) (n := 1) (t := (7, [(0, .int x), (1, .int y), (2, .int z)], [.int y], h)) rfl rfl ?_
      refine sm_go_st (i := .iload_n 2) (n := 1) (t := (8, [(0, .int x), (1, .int y), (2, .int z)], [.int z, .int y], h)) rfl rfl ?_
      refine sm_go_ic (t := 15) (q := .le) (off := 7) rfl rfl (fun _ => ?_) (fun _ => ?_)
      · show sm_Go be_B _ _ 15 [(0, .int x), (1, .int y), (2, .int z)] [] h
        refine sm_go_st (i := .iload_n 2) (n := 1) (t := (16, [(0, .int x), (1, .int y), (2, .int z)], [.int z], h)) rfl rfl ?_
        refine sm_go_st (i := .goto 13) (n := 3) (t := (29, [(0, .int x), (1, .int y), (2, .int z)], [.int z], h)) rfl rfl ?_
        exact fin z
      · show sm_Go be_B _ _ 11 [(0, .int x), (1, .int y), (2, .int z)] [] h
        refine sm_go_st (i := .iload_n 1) (n := 1) (t := (12, [(0, .int x), (1, .int y), (2, .int z)], [.int y], h)) rfl rfl ?_
        refine sm_go_st (i := .goto 17) (n := 3) (t := (29, [(0, .int x), (1, .int y), (2, .int z)], [.int y], h)) rfl rfl ?_
        exact fin y
  obtain ⟨f, o, h', hr, rfl, r, rfl⟩ := run
  exact ⟨r, ⟨by decide, show (3 : Nat) ≤ sm_ML 183 by decide +kernel, f, hr⟩⟩
def bt_B : sm_P := (fun pc => sm_ch sm_t182 pc, sm_Kn 3 2 none, fun x => sm_lk sm_ca3 x, none)
theorem bt_run {d : Nat} {h : List va_E} {F : List Value} {g gb : Nat → Int32} (x : Int32) (hx : 0 ≤ x.toInt ∧ x.toInt ≤ 3) (g1 : h[81]? = some (.inr (3, F))) (g96 : h[96]? = some (.inl (0, 4, .inl g))) (g97 : h[97]? = some (.inl (0, 5, .inl gb))) (f25 : F[25]? = some (.ref 96)) (f26 : F[26]? = some (.ref 97)) : ∃ gb' : Nat → Int32, sm_Ex 200 sm_ML sm_B (d + 1) 182 [.ref 81, .int x] h none ((h.set 96 (.inl (0, 4, .inl (upd g x.toNatClampNeg 0)))).set 97 (.inl (0, 5, .inl gb'))) := by
  have in4 : ¬ (x < 0 ∨ 4 ≤ x.toNatClampNeg) := aw_in6 (q := (x.toInt, x.toInt)) (n := 4) ⟨Int.le_refl _, Int.le_refl _⟩ hx.1 (by show x.toInt < ((4 : Nat) : Int); omega)
  have in5 : ¬ (x < 0 ∨ 5 ≤ x.toNatClampNeg) := aw_in6 (q := (x.toInt, x.toInt)) (n := 5) ⟨Int.le_refl _, Int.le_refl _⟩ hx.1 (by show x.toInt < ((5 : Nat) : Int); omega)
  have run : sm_Go bt_B (sm_Ex 200 sm_ML sm_B d) (fun o h' => o = none ∧ ∃ gb' : Nat → Int32, h' = (h.set 96 (.inl (0, 4, .inl (upd g x.toNatClampNeg 0)))).set 97 (.inl (0, 5, .inl gb'))) 0 [(0, .ref 81), (1, .int x)] [] h := by
    refine sm_go_st (i := .aload_n 0) (n := 1) (t := (1, [(0, .ref 81), (1, .int x)], [.ref 81], h)) rfl rfl ?_
    refine sm_go_gf (r := []) (v := .ref 96) rfl rfl g1 f25 ?_
    refine sm_go_st (i := .iload_n 1) (n := 1) (t := (5, [(0, .ref 81), (1, .int x)], [.int x, .ref 96], h)) rfl rfl ?_
    refine sm_go_st (i := .iconst 0) (n := 1) (t := (6, [(0, .ref 81), (1, .int x)], [.int 0, .int x, .ref 96], h)) rfl rfl ?_
    refine sm_go_is (r := []) rfl g96 in4 ?_
    have g1' : (h.set 96 (.inl (0, 4, .inl (upd g x.toNatClampNeg 0))))[81]? = some (.inr (3, F)) := by rw [List.getElem?_set_ne (by decide)]; exact g1
    have g97' : (h.set 96 (.inl (0, 4, .inl (upd g x.toNatClampNeg 0))))[97]? = some (.inl (0, 5, .inl gb)) := by rw [List.getElem?_set_ne (by decide)]; exact g97
    generalize (h.set 96 (.inl (0, 4, .inl (upd g x.toNatClampNeg 0)))) = h1 at g1' g97' ⊢
    refine sm_go_st (i := .aload_n 0) (n := 1) (t := (8, [(0, .ref 81), (1, .int x)], [.ref 81], h1)) rfl rfl ?_
    refine sm_go_gf (r := []) (v := .ref 97) rfl rfl g1' f26 ?_
    refine sm_go_st (i := .iload_n 1) (n := 1) (t := (12, [(0, .ref 81), (1, .int x)], [.int x, .ref 97], h1)) rfl rfl ?_
    refine sm_go_st (i := .iload_n 1) (n := 1) (t := (13, [(0, .ref 81), (1, .int x)], [.int x, .int x, .ref 97], h1)) rfl rfl ?_
    refine sm_go_st (i := .iconst 2) (n := 1) (t := (14, [(0, .ref 81), (1, .int x)], [.int 2, .int x, .int x, .ref 97], h1)) rfl rfl ?_
    refine sm_go_st (i := .irem) (n := 1) (t := (15, [(0, .ref 81), (1, .int x)], [.int (x - x / 2 * 2), .int x, .ref 97], h1)) rfl rfl ?_
    have fin : ∀ v : Int32, sm_Go bt_B (sm_Ex 200 sm_ML sm_B d) (fun o h' => o = none ∧ ∃ gb' : Nat → Int32, h' = h1.set 97 (.inl (0, 5, .inl gb'))) 26 [(0, .ref 81), (1, .int x)] [.int v, .int x, .ref 97] h1 := fun v => by
      refine sm_go_is (r := []) rfl g97' in5 ?_
      exact sm_go_rt (o := none) (i := .return_) (n := 1) rfl ⟨rfl, Or.inr (Or.inr ⟨rfl, rfl, rfl, rfl⟩)⟩ ⟨rfl, _, rfl⟩
    refine sm_go_if (t := 24) (q := .ne) (off := 9) rfl rfl (fun _ => ?_) (fun _ => ?_)
    · show sm_Go bt_B _ _ 24 [(0, .ref 81), (1, .int x)] [.int x, .ref 97] h1
      refine sm_go_st (i := .ldc 253) (n := 2) (t := (26, [(0, .ref 81), (1, .int x)], [.int 99999, .int x, .ref 97], h1)) rfl rfl ?_
      exact fin 99999
    · show sm_Go bt_B _ _ 18 [(0, .ref 81), (1, .int x)] [.int x, .ref 97] h1
      refine sm_go_st (i := .ldc_w 265) (n := 3) (t := (21, [(0, .ref 81), (1, .int x)], [.int (-99999), .int x, .ref 97], h1)) rfl rfl ?_
      refine sm_go_st (i := .goto 5) (n := 3) (t := (26, [(0, .ref 81), (1, .int x)], [.int (-99999), .int x, .ref 97], h1)) rfl rfl ?_
      exact fin (-99999)
  obtain ⟨f, o, h', hr, rfl, gb', rfl⟩ := run
  exact ⟨gb', ⟨by decide, show (2 : Nat) ≤ sm_ML 182 by decide +kernel, f, hr⟩⟩
/-- how much is left to search -/
def du_m (L : Int) (x : Nat → Int) : Nat → Int
  | 0 => 10 * (1000 * (L + 1 - x 0))
  | 1 => 10 * (1000 * (L - x 0) + 100 * (L + 1 - x 1)) + 1
  | 2 => 10 * (1000 * (L - x 0) + 100 * (L - x 1) + 10 * (L + 1 - x 2)) + 2
  | _ => 10 * (1000 * (L - x 0) + 100 * (L - x 1) + 10 * (L - x 2) + (L + 1 - x 3)) + 3
def du_i (L : Int) (x : Nat → Int) (D : Nat) : Prop := (∀ i : Nat, i < D → 0 ≤ x i ∧ x i ≤ L) ∧ 0 ≤ x D ∧ x D ≤ L + 1
def du_x (g : Nat → Int32) : Nat → Int := fun i => (g i).toInt
theorem du_up {g : Nat → Int32} {D : Nat} {v : Int32} (i : Nat) : du_x (upd g D v) i = if i = D then v.toInt else du_x g i := by
  unfold du_x
  rw [upd_at]
  split <;> rfl
theorem du_nn {L : Int} {x : Nat → Int} {D : Nat} (hD : D ≤ 3) (h : du_i L x D) : 0 ≤ du_m L x D := by
  obtain ⟨h1, h2⟩ := h
  rcases (show D = 0 ∨ D = 1 ∨ D = 2 ∨ D = 3 by omega) with rfl | rfl | rfl | rfl
  · show 0 ≤ 10 * (1000 * (L + 1 - x 0)); omega
  · have a := h1 0 (by omega); show 0 ≤ 10 * (1000 * (L - x 0) + 100 * (L + 1 - x 1)) + 1; omega
  · have a := h1 0 (by omega); have b := h1 1 (by omega); show 0 ≤ 10 * (1000 * (L - x 0) + 100 * (L - x 1) + 10 * (L + 1 - x 2)) + 2; omega
  · have a := h1 0 (by omega); have b := h1 1 (by omega); have c := h1 2 (by omega); show 0 ≤ 10 * (1000 * (L - x 0) + 100 * (L - x 1) + 10 * (L - x 2) + (L + 1 - x 3)) + 3; omega
/-- a leaf tried -/
theorem du_leaf {L : Int} {g : Nat → Int32} {D : Nat} {v : Int32} (hD : D ≤ 3) (h : du_i L (du_x g) D) (hx : du_x g D ≤ L) (hv : v.toInt = du_x g D + 1) : du_i L (du_x (upd g D v)) D ∧ du_m L (du_x (upd g D v)) D < du_m L (du_x g) D := by
  obtain ⟨h1, h2⟩ := h
  refine ⟨⟨fun i hi => ?_, ?_⟩, ?_⟩
  · rw [du_up, if_neg (by omega)]; exact h1 i hi
  · rw [du_up, if_pos rfl]; omega
  · rcases (show D = 0 ∨ D = 1 ∨ D = 2 ∨ D = 3 by omega) with rfl | rfl | rfl | rfl <;> simp only [du_m, du_up] <;> simp <;> omega
/-- a level ended -/
theorem du_pop {L : Int} {g : Nat → Int32} {D : Nat} {v : Int32} (hD : D + 1 ≤ 3) (h : du_i L (du_x g) (D + 1)) (hx : L < du_x g (D + 1)) (hv : v.toInt = du_x g D + 1) : du_i L (du_x (upd g D v)) D ∧ du_m L (du_x (upd g D v)) D < du_m L (du_x g) (D + 1) := by
  obtain ⟨h1, h2⟩ := h
  have h0 := h1 D (by omega)
  refine ⟨⟨fun i hi => ?_, ?_⟩, ?_⟩
  · rw [du_up, if_neg (by omega)]; exact h1 i (by omega)
  · rw [du_up, if_pos rfl]; omega
  · rcases (show D = 0 ∨ D = 1 ∨ D = 2 by omega) with rfl | rfl | rfl
    · have h2 : 0 ≤ du_x g 1 ∧ du_x g 1 ≤ L + 1 := h2
      have hx : L < du_x g 1 := hx
      show du_m L (du_x (upd g 0 v)) 0 < du_m L (du_x g) 1
      simp only [du_m, du_up] <;> simp <;> omega
    · have h2 : 0 ≤ du_x g 2 ∧ du_x g 2 ≤ L + 1 := h2
      have hx : L < du_x g 2 := hx
      show du_m L (du_x (upd g 1 v)) 1 < du_m L (du_x g) 2
      simp only [du_m, du_up] <;> simp <;> omega
    · have h2 : 0 ≤ du_x g 3 ∧ du_x g 3 ≤ L + 1 := h2
      have hx : L < du_x g 3 := hx
      show du_m L (du_x (upd g 2 v)) 2 < du_m L (du_x g) 3
      simp only [du_m, du_up] <;> simp <;> omega
/-- a level begun -/
theorem du_push {L : Int} {g : Nat → Int32} {D : Nat} {v : Int32} (hL : 0 ≤ L ∧ L ≤ 8) (hD : D + 1 ≤ 3) (h : du_i L (du_x g) D) (hx : du_x g D ≤ L) (hv : v.toInt = 0) : du_i L (du_x (upd g (D + 1) v)) (D + 1) ∧ du_m L (du_x (upd g (D + 1) v)) (D + 1) < du_m L (du_x g) D := by
  obtain ⟨h1, h2⟩ := h
  refine ⟨⟨fun i hi => ?_, ?_⟩, ?_⟩
  · rw [du_up, if_neg (by omega)]
    rcases (show i = D ∨ i < D by omega) with rfl | hi
    · exact ⟨h2.1, hx⟩
    · exact h1 i hi
  · rw [du_up, if_pos rfl]; omega
  · rcases (show D = 0 ∨ D = 1 ∨ D = 2 by omega) with rfl | rfl | rfl <;> simp only [du_m, du_up] <;> simp <;> omega
def du_B : sm_P := (fun pc => sm_ch sm_t180 pc, sm_Kn 3 7 none, fun x => sm_lk sm_ca3 x, some .int)
def du_c (H PH : aw_H) : ak_C := (180, [.inl 81, .inr (false, ar_t32), .inr (false, ar_t32), .inr (false, ar_t32)], H, [81, 82, 96, 97], [([], some (.inr (false, [(-1, -1)])), PH), ([], some (.inr (false, [(1, 1)])), PH)])
/-- moreLeft, as it is called here: it writes the row alone -/
def du_M (Psi : List va_E → Prop) (X : sm_X) (H : aw_H) (A : Int32) : Prop := ∀ (a b : Int32) (h : List va_E), 0 ≤ a.toInt ∧ a.toInt ≤ 7 → 0 ≤ b.toInt ∧ b.toInt ≤ 7 → aw_h H h → Psi h → ∃ (r : Int32) (h' : List va_E), X 181 [.ref 81, .int a, .int b, .int A] h (some (.int r)) h' ∧ Psi h' ∧ aw_h H h' ∧ ∀ q : Nat, q ∉ [82] → h'[q]? = h[q]?
theorem du_mo {Psi : List va_E → Prop} {d k : Nat} {H : aw_H} {c : ak_C} {A : Int32} (hk : k ≤ d) (hc : ak_ok Psi (sm_Ex 200 sm_ML sm_B k) c) (h0 : c.1 = 181) (ha : c.2.1 = [.inl 81, .inr (false, [(0, 7)]), .inr (false, [(0, 7)]), .inr (false, [(A.toInt, A.toInt)])]) (h1 : ah_sub H c.2.2.1 = true) (h2 : (c.2.2.2.2.all fun q => ah_sub (ak_hp c.2.2.2.1 q.2.2 H) H) = true) (h3 : (c.2.2.2.1.all fun a => decide (a ∈ [82])) = true) (h4 : ∀ q ∈ c.2.2.2.2, q.2.1 = some (.inr (false, ar_t32))) : du_M Psi (sm_Ex 200 sm_ML sm_B d) H A := by
  intro a b h ha' hb' hh hp
  obtain ⟨o, h', x1, x2, x3, x4, q, hq, q1, q2⟩ := hd_call (WR := [82]) (H := H) (ak_ok_le d hk hc) h1 h2 h3 (vs := [.ref 81, .int a, .int b, .int A]) (by rw [ha]; exact ⟨rfl, ⟨a, rfl, ar_o ha'.1 ha'.2⟩, ⟨b, rfl, ar_o hb'.1 hb'.2⟩, ⟨A, rfl, ar_o (Int.le_refl _) (Int.le_refl _)⟩, trivial⟩) hh hp
  rw [h4 q hq] at q2
  cases o with
  | none => exact q2.elim
  | some v =>
    obtain ⟨r, rfl, hr⟩ := q2
    rw [h0] at x1
    exact ⟨r, h', x1, x2, x3, x4⟩
abbrev du_Q (Psi : List va_E → Prop) (H PH : aw_H) (ws : List Value) (h0 : List va_E) : Option Value → List va_E → Prop := fun o h' => Psi h' ∧ (∀ b, b ∉ (du_c H PH).2.2.2.1 → h'[b]? = h0[b]?) ∧ ak_end (du_c H PH) ws o h'
/-- what is kept in the search -/
def du_I (Psi : List va_E → Prop) (H : aw_H) (fs : List Value) (h0 h : List va_E) (g gb : Nat → Int32) : Prop := aw_h H h ∧ Psi h ∧ (∀ b : Nat, b ∉ [81, 82, 96, 97] → h[b]? = h0[b]?) ∧ h[81]? = some (.inr (3, fs)) ∧ h[96]? = some (.inl (0, 4, .inl g)) ∧ h[97]? = some (.inl (0, 5, .inl gb))
section DUL
variable {Psi : List va_E → Prop} {H PH : aw_H} {fs ws : List Value} {h0 : List va_E} {a b n A ln : Int32} {d : Nat}
theorem du_f {h : List va_E} {g gb : Nat → Int32} (hP : ∀ (h : List va_E) (a : Nat) (e : va_E), a ∉ ai_pc → Psi h → Psi (h.set a e)) (c97 : ∀ c, (97, c) ∈ H → c = .inr (.inl (0, 5, [], []))) (gb' : Nat → Int32) (I : du_I Psi H fs h0 h g gb) : du_I Psi H fs h0 (h.set 97 (.inl (0, 5, .inl gb'))) g gb' := by
  obtain ⟨i1, i2, i3, i4, i5, i6⟩ := I
  refine ⟨ah_set i1 i6 (fun c hc => by rw [c97 c hc]; exact ⟨gb', rfl, fun q hq => absurd hq List.not_mem_nil, fun q hq => absurd hq List.not_mem_nil⟩), hP _ _ _ (by decide) i2, fun b hb => ?_, ?_, ?_, sm_set_s i6⟩
  · rw [List.getElem?_set_ne (fun z => hb (by rw [← z]; decide))]; exact i3 b hb
  · rw [List.getElem?_set_ne (by decide)]; exact i4
  · rw [List.getElem?_set_ne (by decide)]; exact i5
theorem du_g {h : List va_E} {g gb : Nat → Int32} (hP : ∀ (h : List va_E) (a : Nat) (e : va_E), a ∉ ai_pc → Psi h → Psi (h.set a e)) (c96 : ∀ c, (96, c) ∈ H → c = .inr (.inl (0, 4, [(0, 3, [(0, 9)])], []))) (g' : Nat → Int32) (hg : ∀ j : Nat, j ≤ 3 → 0 ≤ (g' j).toInt ∧ (g' j).toInt ≤ 9) (I : du_I Psi H fs h0 h g gb) : du_I Psi H fs h0 (h.set 96 (.inl (0, 4, .inl g'))) g' gb := by
  obtain ⟨i1, i2, i3, i4, i5, i6⟩ := I
  refine ⟨ah_set i1 i5 (fun c hc => by rw [c96 c hc]; exact ⟨g', rfl, fun q hq j j1 j2 => by rw [List.mem_singleton] at hq; subst hq; exact ar_o (hg j j2).1 (hg j j2).2, fun q hq => absurd hq List.not_mem_nil⟩), hP _ _ _ (by decide) i2, fun b hb => ?_, ?_, sm_set_s i5, ?_⟩
  · rw [List.getElem?_set_ne (fun z => hb (by rw [← z]; decide))]; exact i3 b hb
  · rw [List.getElem?_set_ne (by decide)]; exact i4
  · rw [List.getElem?_set_ne (by decide)]; exact i6
theorem du_h {h h' : List va_E} {g gb : Nat → Int32} (hp : Psi h') (hh : aw_h H h') (hf : ∀ q : Nat, q ∉ [82] → h'[q]? = h[q]?) (I : du_I Psi H fs h0 h g gb) : du_I Psi H fs h0 h' g gb := by
  obtain ⟨i1, i2, i3, i4, i5, i6⟩ := I
  refine ⟨hh, hp, fun b hb => ?_, ?_, ?_, ?_⟩
  · rw [hf b (fun z => hb (by rw [List.mem_singleton] at z; rw [z]; decide))]; exact i3 b hb
  · rw [hf 81 (by decide)]; exact i4
  · rw [hf 96 (by decide)]; exact i5
  · rw [hf 97 (by decide)]; exact i6
theorem du_9 {h : List va_E} {g gb : Nat → Int32} (c96 : (96, .inr (.inl (0, 4, [(0, 3, [(0, 9)])], []))) ∈ H) (I : du_I Psi H fs h0 h g gb) : ∀ j : Nat, j ≤ 3 → 0 ≤ (g j).toInt ∧ (g j).toInt ≤ 9 := by
  intro j hj
  obtain ⟨e, he, f, rfl, hs, -⟩ := I.1 _ c96
  have k := he.symm.trans I.2.2.2.2.1
  cases k
  exact ar_1 (hs _ List.mem_cons_self j (Nat.zero_le _) hj)
set_option maxHeartbeats 8000000 in
theorem du_loop (hP : ∀ (h : List va_E) (a : Nat) (e : va_E), a ∉ ai_pc → Psi h → Psi (h.set a e)) (c97 : ∀ c, (97, c) ∈ H → c = .inr (.inl (0, 5, [], []))) (c96 : ∀ c, (96, c) ∈ H → c = .inr (.inl (0, 4, [(0, 3, [(0, 9)])], []))) (m96 : (96, .inr (.inl (0, 4, [(0, 3, [(0, 9)])], []))) ∈ H) (f1 : fs[1]? = some (.int ln)) (f25 : fs[25]? = some (.ref 96)) (f26 : fs[26]? = some (.ref 97)) (hln : 0 ≤ ln.toInt ∧ ln.toInt ≤ 8) (ha : 0 ≤ a.toInt ∧ a.toInt ≤ 7) (hb : 0 ≤ b.toInt ∧ b.toInt ≤ 7) (hA : A.toInt = 0 ∨ A.toInt = 2 ∨ A.toInt = 4) (hM : du_M Psi (sm_Ex 200 sm_ML sm_B (d + 1)) H A) (hE : ∀ (h : List va_E) (g gb : Nat → Int32), du_I Psi H fs h0 h g gb → ∀ lv : sm_L, sm_get lv 0 = some (.ref 81) → sm_Go du_B (sm_Ex 200 sm_ML sm_B (d + 1)) (du_Q Psi H PH ws h0) 215 lv [] h) : ∀ (m : Nat) (D : Int32) (h : List va_E) (g gb : Nat → Int32), 0 ≤ D.toInt → D.toInt ≤ 3 → D.toInt + 1 ≤ A.toInt → (du_m ln.toInt (du_x g) D.toNatClampNeg).toNat < m → du_i ln.toInt (du_x g) D.toNatClampNeg → du_I Psi H fs h0 h g gb → (sm_Go du_B (sm_Ex 200 sm_ML sm_B (d + 1)) (du_Q Psi H PH ws h0) 66 [(5, .int D), (4, .int A), (0, .ref 81), (1, .int a), (2, .int b), (3, .int n)] [] h) ∧ ∀ F : Int32, sm_Go du_B (sm_Ex 200 sm_ML sm_B (d + 1)) (du_Q Psi H PH ws h0) 66 [(5, .int D), (6, .int F), (4, .int A), (0, .ref 81), (1, .int a), (2, .int b), (3, .int n)] [] h := by
  intro m
  induction m with
  | zero => intro D h g gb _ _ _ h3; exact absurd h3 (Nat.not_lt_zero _)
  | succ m ih =>
    intro D h g gb D1 D2 D3 hm hi I
    have nD := aw_ix (i := D) D1
    have D4 : D.toNatClampNeg ≤ 3 := by omega
    have nn := du_nn D4 hi
    have b9 := du_9 m96 I
    have inD4 : ¬ (D < 0 ∨ 4 ≤ D.toNatClampNeg) := aw_in6 (q := (D.toInt, D.toInt)) (n := 4) ⟨Int.le_refl _, Int.le_refl _⟩ D1 (by show D.toInt < ((4 : Nat) : Int); omega)
    have inD5 : ¬ (D < 0 ∨ 5 ≤ D.toNatClampNeg) := aw_in6 (q := (D.toInt, D.toInt)) (n := 5) ⟨Int.le_refl _, Int.le_refl _⟩ D1 (by show D.toInt < ((5 : Nat) : Int); omega)
    have g1 := I.2.2.2.1
    have g96 := I.2.2.2.2.1
    have g97 := I.2.2.2.2.2
    have hxD : (g D.toNatClampNeg).toInt = du_x g D.toNatClampNeg := rfl
    refine ⟨?_, fun F => ?_⟩
    · show sm_Go du_B (sm_Ex 200 sm_ML sm_B (d + 1)) (du_Q Psi H PH ws h0) 66 [(5, .int D), (4, .int A), (0, .ref 81), (1, .int a), (2, .int b), (3, .int n)] [] h
      refine sm_go_st (i := .iload 4) (n := 2) (t := (68, [(5, .int D), (4, .int A), (0, .ref 81), (1, .int a), (2, .int b), (3, .int n)], [.int A], h)) rfl rfl ?_
      refine sm_go_if (t := 215) (q := .le) (off := 147) rfl rfl (fun c0 => ?_) (fun _ => ?_)
      · have c0 : A.toInt ≤ 0 := c0
        omega
      refine sm_go_st (i := .iload 5) (n := 2) (t := (73, [(5, .int D), (4, .int A), (0, .ref 81), (1, .int a), (2, .int b), (3, .int n)], [.int D], h)) rfl rfl ?_
      refine sm_go_if (t := 215) (q := .lt) (off := 142) rfl rfl (fun c0 => ?_) (fun _ => ?_)
      · have c0 : D.toInt < 0 := c0
        omega
      refine sm_go_st (i := .aload_n 0) (n := 1) (t := (77, [(5, .int D), (4, .int A), (0, .ref 81), (1, .int a), (2, .int b), (3, .int n)], [.ref 81], h)) rfl rfl ?_
      refine sm_go_gf (r := []) (v := .ref 96) rfl rfl g1 f25 ?_
      refine sm_go_st (i := .iload 5) (n := 2) (t := (82, [(5, .int D), (4, .int A), (0, .ref 81), (1, .int a), (2, .int b), (3, .int n)], [.int D, .ref 96], h)) rfl rfl ?_
      refine sm_go_ia (r := []) rfl g96 (by decide) inD4 ?_
      refine sm_go_st (i := .aload_n 0) (n := 1) (t := (84, [(5, .int D), (4, .int A), (0, .ref 81), (1, .int a), (2, .int b), (3, .int n)], [.ref 81, .int (g D.toNatClampNeg)], h)) rfl rfl ?_
      refine sm_go_gf (r := [.int (g D.toNatClampNeg)]) (v := .int ln) rfl rfl g1 f1 ?_
      refine sm_go_ic (t := 153) (q := .le) (off := 66) rfl rfl (fun c1 => ?_) (fun c1 => ?_)
      · have c1 : (g D.toNatClampNeg).toInt ≤ ln.toInt := c1
        show sm_Go du_B (sm_Ex 200 sm_ML sm_B (d + 1)) (du_Q Psi H PH ws h0) 153 [(5, .int D), (4, .int A), (0, .ref 81), (1, .int a), (2, .int b), (3, .int n)] [] h
        refine sm_go_st (i := .iload 5) (n := 2) (t := (155, [(5, .int D), (4, .int A), (0, .ref 81), (1, .int a), (2, .int b), (3, .int n)], [.int D], h)) rfl rfl ?_
        refine sm_go_st (i := .iload 4) (n := 2) (t := (157, [(5, .int D), (4, .int A), (0, .ref 81), (1, .int a), (2, .int b), (3, .int n)], [.int A, .int D], h)) rfl rfl ?_
        refine sm_go_st (i := .iconst 1) (n := 1) (t := (158, [(5, .int D), (4, .int A), (0, .ref 81), (1, .int a), (2, .int b), (3, .int n)], [.int 1, .int A, .int D], h)) rfl rfl ?_
        refine sm_go_st (i := .isub) (n := 1) (t := (159, [(5, .int D), (4, .int A), (0, .ref 81), (1, .int a), (2, .int b), (3, .int n)], [.int (A - 1), .int D], h)) rfl rfl ?_
        have eA : (A - 1).toInt = A.toInt - 1 := fg_sub (by omega)
        refine sm_go_ic (t := 203) (q := .ne) (off := 44) rfl rfl (fun c2 => ?_) (fun c2 => ?_)
        · have c2 : ¬ D.toInt = (A - 1).toInt := c2
          show sm_Go du_B (sm_Ex 200 sm_ML sm_B (d + 1)) (du_Q Psi H PH ws h0) 203 [(5, .int D), (4, .int A), (0, .ref 81), (1, .int a), (2, .int b), (3, .int n)] [] h
          have hD1 := mr_1 (i := D) (by omega)
          have nD1 := aw_ix (i := D + 1) (by omega)
          have eD1 : (D + 1).toNatClampNeg = D.toNatClampNeg + 1 := by omega
          refine sm_go_st (i := .iinc 5 1) (n := 3) (t := (206, [(5, .int (D + 1)), (4, .int A), (0, .ref 81), (1, .int a), (2, .int b), (3, .int n)], [], h)) rfl rfl ?_
          refine sm_go_st (i := .aload_n 0) (n := 1) (t := (207, [(5, .int (D + 1)), (4, .int A), (0, .ref 81), (1, .int a), (2, .int b), (3, .int n)], [.ref 81], h)) rfl rfl ?_
          refine sm_go_st (i := .iload 5) (n := 2) (t := (209, [(5, .int (D + 1)), (4, .int A), (0, .ref 81), (1, .int a), (2, .int b), (3, .int n)], [.int (D + 1), .ref 81], h)) rfl rfl ?_
          obtain ⟨gb', hrun⟩ := bt_run (d := d) (D + 1) ⟨by omega, by omega⟩ g1 g96 g97 f25 f26
          refine sm_go_cl (i := .invokevirtual 269) (n := 3) (k := 182) (r := []) rfl ⟨rfl, Nat.le_of_ble_eq_true rfl, Or.inl ⟨269, 3, 81, [.int (D + 1)], rfl, rfl, rfl, rfl, _, by unfold sm_obj; rw [g1]; exact if_pos rfl⟩⟩ hrun ?_
          have pu := du_push (v := 0) hln (by omega) hi c1 rfl
          rw [← eD1] at pu
          have I' := du_f hP c97 gb' (du_g hP c96 (upd g (D + 1).toNatClampNeg 0) (fun j hj => by rw [upd_at]; split; exact ⟨by decide, by decide⟩; exact b9 j hj) I)
          generalize (h.set 96 (.inl (0, 4, .inl (upd g (D + 1).toNatClampNeg 0)))).set 97 (.inl (0, 5, .inl gb')) = h9 at I' ⊢
          have nn2 := du_nn (by omega) pu.1
          show sm_Go du_B (sm_Ex 200 sm_ML sm_B (d + 1)) (du_Q Psi H PH ws h0) 212 [(5, .int (D + 1)), (4, .int A), (0, .ref 81), (1, .int a), (2, .int b), (3, .int n)] [] h9
          refine sm_go_st (i := .goto (-146)) (n := 3) (t := (66, [(5, .int (D + 1)), (4, .int A), (0, .ref 81), (1, .int a), (2, .int b), (3, .int n)], [], h9)) rfl rfl ?_
          exact (ih (D + 1) _ _ _ (by omega) (by omega) (by omega) (by omega) pu.1 I').1
        have c2 : D.toInt = (A - 1).toInt := Classical.not_not.mp c2
        refine sm_go_st (i := .aload_n 0) (n := 1) (t := (163, [(5, .int D), (4, .int A), (0, .ref 81), (1, .int a), (2, .int b), (3, .int n)], [.ref 81], h)) rfl rfl ?_
        refine sm_go_gf (r := []) (v := .ref 97) rfl rfl g1 f26 ?_
        refine sm_go_st (i := .iload 5) (n := 2) (t := (168, [(5, .int D), (4, .int A), (0, .ref 81), (1, .int a), (2, .int b), (3, .int n)], [.int D, .ref 97], h)) rfl rfl ?_
        refine sm_go_st (i := .iload 5) (n := 2) (t := (170, [(5, .int D), (4, .int A), (0, .ref 81), (1, .int a), (2, .int b), (3, .int n)], [.int D, .int D, .ref 97], h)) rfl rfl ?_
        refine sm_go_st (i := .aload_n 0) (n := 1) (t := (171, [(5, .int D), (4, .int A), (0, .ref 81), (1, .int a), (2, .int b), (3, .int n)], [.ref 81, .int D, .int D, .ref 97], h)) rfl rfl ?_
        refine sm_go_gf (r := [.int D, .int D, .ref 97]) (v := .ref 97) rfl rfl g1 f26 ?_
        refine sm_go_st (i := .iload 5) (n := 2) (t := (176, [(5, .int D), (4, .int A), (0, .ref 81), (1, .int a), (2, .int b), (3, .int n)], [.int D, .ref 97, .int D, .int D, .ref 97], h)) rfl rfl ?_
        refine sm_go_ia (r := [.int D, .int D, .ref 97]) rfl g97 (by decide) inD5 ?_
        refine sm_go_st (i := .aload_n 0) (n := 1) (t := (178, [(5, .int D), (4, .int A), (0, .ref 81), (1, .int a), (2, .int b), (3, .int n)], [.ref 81, .int (gb D.toNatClampNeg), .int D, .int D, .ref 97], h)) rfl rfl ?_
        refine sm_go_st (i := .iload_n 1) (n := 1) (t := (179, [(5, .int D), (4, .int A), (0, .ref 81), (1, .int a), (2, .int b), (3, .int n)], [.int a, .ref 81, .int (gb D.toNatClampNeg), .int D, .int D, .ref 97], h)) rfl rfl ?_
        refine sm_go_st (i := .iload_n 2) (n := 1) (t := (180, [(5, .int D), (4, .int A), (0, .ref 81), (1, .int a), (2, .int b), (3, .int n)], [.int b, .int a, .ref 81, .int (gb D.toNatClampNeg), .int D, .int D, .ref 97], h)) rfl rfl ?_
        refine sm_go_st (i := .iload 4) (n := 2) (t := (182, [(5, .int D), (4, .int A), (0, .ref 81), (1, .int a), (2, .int b), (3, .int n)], [.int A, .int b, .int a, .ref 81, .int (gb D.toNatClampNeg), .int D, .int D, .ref 97], h)) rfl rfl ?_
        obtain ⟨r1, h1, x1, y1, z1, f1h⟩ := hM a b h ha hb I.1 I.2.1
        refine sm_go_cl (i := .invokevirtual 266) (n := 3) (k := 181) (r := [.int (gb D.toNatClampNeg), .int D, .int D, .ref 97]) rfl ⟨rfl, Nat.le_of_ble_eq_true rfl, Or.inl ⟨266, 3, 81, [.int a, .int b, .int A], rfl, rfl, rfl, rfl, _, by unfold sm_obj; rw [g1]; exact if_pos rfl⟩⟩ x1 ?_
        have I1 := du_h y1 z1 f1h I
        obtain ⟨r2, x2⟩ := be_run (d := d) D (gb D.toNatClampNeg) r1 h1
        refine sm_go_cl (i := .invokestatic 272) (n := 3) (k := 183) (vs := [.int D, .int (gb D.toNatClampNeg), .int r1]) (r := [.int D, .ref 97]) rfl ⟨rfl, Nat.le_of_ble_eq_true rfl, Or.inr (Or.inl ⟨272, 3, rfl, rfl, rfl⟩)⟩ x2 ?_
        refine sm_go_is (r := []) rfl I1.2.2.2.2.2 inD5 ?_
        have I2 := du_f hP c97 (upd gb D.toNatClampNeg r2) I1
        generalize h1.set 97 (.inl (0, 5, .inl (upd gb D.toNatClampNeg r2))) = h2 at I2 ⊢
        have g1a := I2.2.2.2.1
        have g96a := I2.2.2.2.2.1
        refine sm_go_st (i := .aload_n 0) (n := 1) (t := (190, [(5, .int D), (4, .int A), (0, .ref 81), (1, .int a), (2, .int b), (3, .int n)], [.ref 81], h2)) rfl rfl ?_
        refine sm_go_gf (r := []) (v := .ref 96) rfl rfl g1a f25 ?_
        refine sm_go_st (i := .iload 5) (n := 2) (t := (195, [(5, .int D), (4, .int A), (0, .ref 81), (1, .int a), (2, .int b), (3, .int n)], [.int D, .ref 96], h2)) rfl rfl ?_
        refine sm_go_st (i := .dup2) (n := 1) (t := (196, [(5, .int D), (4, .int A), (0, .ref 81), (1, .int a), (2, .int b), (3, .int n)], [.int D, .ref 96, .int D, .ref 96], h2)) rfl rfl ?_
        refine sm_go_ia (r := [.int D, .ref 96]) rfl g96a (by decide) inD4 ?_
        refine sm_go_st (i := .iconst 1) (n := 1) (t := (198, [(5, .int D), (4, .int A), (0, .ref 81), (1, .int a), (2, .int b), (3, .int n)], [.int 1, .int (g D.toNatClampNeg), .int D, .ref 96], h2)) rfl rfl ?_
        refine sm_go_st (i := .iadd) (n := 1) (t := (199, [(5, .int D), (4, .int A), (0, .ref 81), (1, .int a), (2, .int b), (3, .int n)], [.int ((g D.toNatClampNeg) + 1), .int D, .ref 96], h2)) rfl rfl ?_
        refine sm_go_is (r := []) rfl g96a inD4 ?_
        have e1 := mr_1 (i := g D.toNatClampNeg) (by have := b9 D.toNatClampNeg D4; omega)
        have lf := du_leaf (v := g D.toNatClampNeg + 1) D4 hi c1 e1
        have I3 := du_g hP c96 (upd g D.toNatClampNeg (g D.toNatClampNeg + 1)) (fun j hj => by rw [upd_at]; split; exact ⟨by have := b9 D.toNatClampNeg D4; omega, by omega⟩; exact b9 j hj) I2
        generalize h2.set 96 (.inl (0, 4, .inl (upd g D.toNatClampNeg (g D.toNatClampNeg + 1)))) = h9 at I3 ⊢
        have nn2 := du_nn D4 lf.1
        show sm_Go du_B (sm_Ex 200 sm_ML sm_B (d + 1)) (du_Q Psi H PH ws h0) 200 [(5, .int D), (4, .int A), (0, .ref 81), (1, .int a), (2, .int b), (3, .int n)] [] h9
        refine sm_go_st (i := .goto (-134)) (n := 3) (t := (66, [(5, .int D), (4, .int A), (0, .ref 81), (1, .int a), (2, .int b), (3, .int n)], [], h9)) rfl rfl ?_
        exact (ih D _ _ _ D1 D2 D3 (by omega) lf.1 I3).1
      have c1 : ¬ (g D.toNatClampNeg).toInt ≤ ln.toInt := c1
      refine sm_go_st (i := .aload_n 0) (n := 1) (t := (91, [(5, .int D), (4, .int A), (0, .ref 81), (1, .int a), (2, .int b), (3, .int n)], [.ref 81], h)) rfl rfl ?_
      refine sm_go_gf (r := []) (v := .ref 97) rfl rfl g1 f26 ?_
      refine sm_go_st (i := .iload 5) (n := 2) (t := (96, [(5, .int D), (4, .int A), (0, .ref 81), (1, .int a), (2, .int b), (3, .int n)], [.int D, .ref 97], h)) rfl rfl ?_
      refine sm_go_ia (r := []) rfl g97 (by decide) inD5 ?_
      have eDm : (D - 1).toInt = D.toInt - 1 := fg_sub (by omega)
      refine sm_go_st (i := .istore 6) (n := 2) (t := (99, [(6, .int (gb D.toNatClampNeg)), (5, .int D), (4, .int A), (0, .ref 81), (1, .int a), (2, .int b), (3, .int n)], [], h)) rfl rfl ?_
      refine sm_go_st (i := .iinc 5 (-1)) (n := 3) (t := (102, [(5, .int (D + (-1))), (6, .int (gb D.toNatClampNeg)), (4, .int A), (0, .ref 81), (1, .int a), (2, .int b), (3, .int n)], [], h)) rfl rfl ?_
      have eq1 : (D + (-1) : Int32).toInt = D.toInt - 1 := by rw [mr_add (x := D) (y := -1) (by show -2147483648 ≤ D.toInt + -1; omega) (by show D.toInt + -1 < 2147483648; omega)]; rfl
      generalize hF : gb D.toNatClampNeg = F1 at *
      generalize D + (-1) = E at eq1 ⊢
      refine sm_go_st (i := .iload 5) (n := 2) (t := (104, [(5, .int E), (6, .int F1), (4, .int A), (0, .ref 81), (1, .int a), (2, .int b), (3, .int n)], [.int E], h)) rfl rfl ?_
      refine sm_go_if (t := 142) (q := .lt) (off := 38) rfl rfl (fun c3 => ?_) (fun c3 => ?_)
      · have c3 : E.toInt < 0 := c3
        show sm_Go du_B (sm_Ex 200 sm_ML sm_B (d + 1)) (du_Q Psi H PH ws h0) 142 [(5, .int E), (6, .int F1), (4, .int A), (0, .ref 81), (1, .int a), (2, .int b), (3, .int n)] [] h
        refine sm_go_st (i := .aload_n 0) (n := 1) (t := (143, [(5, .int E), (6, .int F1), (4, .int A), (0, .ref 81), (1, .int a), (2, .int b), (3, .int n)], [.ref 81], h)) rfl rfl ?_
        refine sm_go_gf (r := []) (v := .ref 97) rfl rfl g1 f26 ?_
        refine sm_go_st (i := .iconst 4) (n := 1) (t := (147, [(5, .int E), (6, .int F1), (4, .int A), (0, .ref 81), (1, .int a), (2, .int b), (3, .int n)], [.int 4, .ref 97], h)) rfl rfl ?_
        refine sm_go_st (i := .iload 6) (n := 2) (t := (149, [(5, .int E), (6, .int F1), (4, .int A), (0, .ref 81), (1, .int a), (2, .int b), (3, .int n)], [.int F1, .int 4, .ref 97], h)) rfl rfl ?_
        refine sm_go_is (r := []) rfl g97 (by decide) ?_
        have I' := du_f hP c97 (upd gb (4 : Int32).toNatClampNeg F1) I
        generalize h.set 97 (.inl (0, 5, .inl (upd gb (4 : Int32).toNatClampNeg F1))) = h9 at I' ⊢
        refine sm_go_st (i := .goto (-84)) (n := 3) (t := (66, [(5, .int E), (6, .int F1), (4, .int A), (0, .ref 81), (1, .int a), (2, .int b), (3, .int n)], [], h9)) rfl rfl ?_
        refine sm_go_st (i := .iload 4) (n := 2) (t := (68, [(5, .int E), (6, .int F1), (4, .int A), (0, .ref 81), (1, .int a), (2, .int b), (3, .int n)], [.int A], h9)) rfl rfl ?_
        refine sm_go_if (t := 215) (q := .le) (off := 147) rfl rfl (fun c0 => ?_) (fun _ => ?_)
        · have c0 : A.toInt ≤ 0 := c0
          omega
        refine sm_go_st (i := .iload 5) (n := 2) (t := (73, [(5, .int E), (6, .int F1), (4, .int A), (0, .ref 81), (1, .int a), (2, .int b), (3, .int n)], [.int E], h9)) rfl rfl ?_
        refine sm_go_if (t := 215) (q := .lt) (off := 142) rfl rfl (fun _ => hE h9 g _ I' _ rfl) (fun c0 => ?_)
        exact absurd c3 c0
      have c3 : ¬ E.toInt < 0 := c3
      have nE := aw_ix (i := E) (by omega)
      have eE : D.toNatClampNeg = E.toNatClampNeg + 1 := by omega
      have inE4 : ¬ (E < 0 ∨ 4 ≤ E.toNatClampNeg) := aw_in6 (q := (E.toInt, E.toInt)) (n := 4) ⟨Int.le_refl _, Int.le_refl _⟩ (by show 0 ≤ E.toInt; omega) (by show E.toInt < ((4 : Nat) : Int); omega)
      have inE5 : ¬ (E < 0 ∨ 5 ≤ E.toNatClampNeg) := aw_in6 (q := (E.toInt, E.toInt)) (n := 5) ⟨Int.le_refl _, Int.le_refl _⟩ (by show 0 ≤ E.toInt; omega) (by show E.toInt < ((5 : Nat) : Int); omega)
      refine sm_go_st (i := .aload_n 0) (n := 1) (t := (108, [(5, .int E), (6, .int F1), (4, .int A), (0, .ref 81), (1, .int a), (2, .int b), (3, .int n)], [.ref 81], h)) rfl rfl ?_
      refine sm_go_gf (r := []) (v := .ref 97) rfl rfl g1 f26 ?_
      refine sm_go_st (i := .iload 5) (n := 2) (t := (113, [(5, .int E), (6, .int F1), (4, .int A), (0, .ref 81), (1, .int a), (2, .int b), (3, .int n)], [.int E, .ref 97], h)) rfl rfl ?_
      refine sm_go_st (i := .iload 5) (n := 2) (t := (115, [(5, .int E), (6, .int F1), (4, .int A), (0, .ref 81), (1, .int a), (2, .int b), (3, .int n)], [.int E, .int E, .ref 97], h)) rfl rfl ?_
      refine sm_go_st (i := .aload_n 0) (n := 1) (t := (116, [(5, .int E), (6, .int F1), (4, .int A), (0, .ref 81), (1, .int a), (2, .int b), (3, .int n)], [.ref 81, .int E, .int E, .ref 97], h)) rfl rfl ?_
      refine sm_go_gf (r := [.int E, .int E, .ref 97]) (v := .ref 97) rfl rfl g1 f26 ?_
      refine sm_go_st (i := .iload 5) (n := 2) (t := (121, [(5, .int E), (6, .int F1), (4, .int A), (0, .ref 81), (1, .int a), (2, .int b), (3, .int n)], [.int E, .ref 97, .int E, .int E, .ref 97], h)) rfl rfl ?_
      refine sm_go_ia (r := [.int E, .int E, .ref 97]) rfl g97 (by decide) inE5 ?_
      refine sm_go_st (i := .iload 6) (n := 2) (t := (124, [(5, .int E), (6, .int F1), (4, .int A), (0, .ref 81), (1, .int a), (2, .int b), (3, .int n)], [.int F1, .int (gb E.toNatClampNeg), .int E, .int E, .ref 97], h)) rfl rfl ?_
      obtain ⟨r2, x2⟩ := be_run (d := d) E (gb E.toNatClampNeg) F1 h
      refine sm_go_cl (i := .invokestatic 272) (n := 3) (k := 183) (vs := [.int E, .int (gb E.toNatClampNeg), .int F1]) (r := [.int E, .ref 97]) rfl ⟨rfl, Nat.le_of_ble_eq_true rfl, Or.inr (Or.inl ⟨272, 3, rfl, rfl, rfl⟩)⟩ x2 ?_
      refine sm_go_is (r := []) rfl g97 inE5 ?_
      have I2 := du_f hP c97 (upd gb E.toNatClampNeg r2) I
      generalize h.set 97 (.inl (0, 5, .inl (upd gb E.toNatClampNeg r2))) = h2 at I2 ⊢
      have g1a := I2.2.2.2.1
      have g96a := I2.2.2.2.2.1
      refine sm_go_st (i := .aload_n 0) (n := 1) (t := (129, [(5, .int E), (6, .int F1), (4, .int A), (0, .ref 81), (1, .int a), (2, .int b), (3, .int n)], [.ref 81], h2)) rfl rfl ?_
      refine sm_go_gf (r := []) (v := .ref 96) rfl rfl g1a f25 ?_
      refine sm_go_st (i := .iload 5) (n := 2) (t := (134, [(5, .int E), (6, .int F1), (4, .int A), (0, .ref 81), (1, .int a), (2, .int b), (3, .int n)], [.int E, .ref 96], h2)) rfl rfl ?_
      refine sm_go_st (i := .dup2) (n := 1) (t := (135, [(5, .int E), (6, .int F1), (4, .int A), (0, .ref 81), (1, .int a), (2, .int b), (3, .int n)], [.int E, .ref 96, .int E, .ref 96], h2)) rfl rfl ?_
      refine sm_go_ia (r := [.int E, .ref 96]) rfl g96a (by decide) inE4 ?_
      refine sm_go_st (i := .iconst 1) (n := 1) (t := (137, [(5, .int E), (6, .int F1), (4, .int A), (0, .ref 81), (1, .int a), (2, .int b), (3, .int n)], [.int 1, .int (g E.toNatClampNeg), .int E, .ref 96], h2)) rfl rfl ?_
      refine sm_go_st (i := .iadd) (n := 1) (t := (138, [(5, .int E), (6, .int F1), (4, .int A), (0, .ref 81), (1, .int a), (2, .int b), (3, .int n)], [.int ((g E.toNatClampNeg) + 1), .int E, .ref 96], h2)) rfl rfl ?_
      refine sm_go_is (r := []) rfl g96a inE4 ?_
      have b9E := b9 E.toNatClampNeg (by omega)
      have e1 := mr_1 (i := g E.toNatClampNeg) (by omega)
      rw [eE] at hi c1 hm nn
      have le8 := (hi.1 E.toNatClampNeg (by omega)).2
      have le8 : (g E.toNatClampNeg).toInt ≤ ln.toInt := le8
      have pp := du_pop (v := g E.toNatClampNeg + 1) (by omega) hi (show ln.toInt < (g (E.toNatClampNeg + 1)).toInt by omega) e1
      have I3 := du_g hP c96 (upd g E.toNatClampNeg (g E.toNatClampNeg + 1)) (fun j hj => by rw [upd_at]; split; exact ⟨by omega, by omega⟩; exact b9 j hj) I2
      generalize h2.set 96 (.inl (0, 4, .inl (upd g E.toNatClampNeg (g E.toNatClampNeg + 1)))) = h9 at I3 ⊢
      have nn2 := du_nn (by omega) pp.1
      show sm_Go du_B (sm_Ex 200 sm_ML sm_B (d + 1)) (du_Q Psi H PH ws h0) 139 [(5, .int E), (6, .int F1), (4, .int A), (0, .ref 81), (1, .int a), (2, .int b), (3, .int n)] [] h9
      refine sm_go_st (i := .goto 11) (n := 3) (t := (150, [(5, .int E), (6, .int F1), (4, .int A), (0, .ref 81), (1, .int a), (2, .int b), (3, .int n)], [], h9)) rfl rfl ?_
      refine sm_go_st (i := .goto (-84)) (n := 3) (t := (66, [(5, .int E), (6, .int F1), (4, .int A), (0, .ref 81), (1, .int a), (2, .int b), (3, .int n)], [], h9)) rfl rfl ?_
      exact (ih E _ _ _ (by omega) (by omega) (by omega) (by omega) pp.1 I3).2 F1
    · show sm_Go du_B (sm_Ex 200 sm_ML sm_B (d + 1)) (du_Q Psi H PH ws h0) 66 [(5, .int D), (6, .int F), (4, .int A), (0, .ref 81), (1, .int a), (2, .int b), (3, .int n)] [] h
      refine sm_go_st (i := .iload 4) (n := 2) (t := (68, [(5, .int D), (6, .int F), (4, .int A), (0, .ref 81), (1, .int a), (2, .int b), (3, .int n)], [.int A], h)) rfl rfl ?_
      refine sm_go_if (t := 215) (q := .le) (off := 147) rfl rfl (fun c0 => ?_) (fun _ => ?_)
      · have c0 : A.toInt ≤ 0 := c0
        omega
      refine sm_go_st (i := .iload 5) (n := 2) (t := (73, [(5, .int D), (6, .int F), (4, .int A), (0, .ref 81), (1, .int a), (2, .int b), (3, .int n)], [.int D], h)) rfl rfl ?_
      refine sm_go_if (t := 215) (q := .lt) (off := 142) rfl rfl (fun c0 => ?_) (fun _ => ?_)
      · have c0 : D.toInt < 0 := c0
        omega
      refine sm_go_st (i := .aload_n 0) (n := 1) (t := (77, [(5, .int D), (6, .int F), (4, .int A), (0, .ref 81), (1, .int a), (2, .int b), (3, .int n)], [.ref 81], h)) rfl rfl ?_
      refine sm_go_gf (r := []) (v := .ref 96) rfl rfl g1 f25 ?_
      refine sm_go_st (i := .iload 5) (n := 2) (t := (82, [(5, .int D), (6, .int F), (4, .int A), (0, .ref 81), (1, .int a), (2, .int b), (3, .int n)], [.int D, .ref 96], h)) rfl rfl ?_
      refine sm_go_ia (r := []) rfl g96 (by decide) inD4 ?_
      refine sm_go_st (i := .aload_n 0) (n := 1) (t := (84, [(5, .int D), (6, .int F), (4, .int A), (0, .ref 81), (1, .int a), (2, .int b), (3, .int n)], [.ref 81, .int (g D.toNatClampNeg)], h)) rfl rfl ?_
      refine sm_go_gf (r := [.int (g D.toNatClampNeg)]) (v := .int ln) rfl rfl g1 f1 ?_
      refine sm_go_ic (t := 153) (q := .le) (off := 66) rfl rfl (fun c1 => ?_) (fun c1 => ?_)
      · have c1 : (g D.toNatClampNeg).toInt ≤ ln.toInt := c1
        show sm_Go du_B (sm_Ex 200 sm_ML sm_B (d + 1)) (du_Q Psi H PH ws h0) 153 [(5, .int D), (6, .int F), (4, .int A), (0, .ref 81), (1, .int a), (2, .int b), (3, .int n)] [] h
        refine sm_go_st (i := .iload 5) (n := 2) (t := (155, [(5, .int D), (6, .int F), (4, .int A), (0, .ref 81), (1, .int a), (2, .int b), (3, .int n)], [.int D], h)) rfl rfl ?_
        refine sm_go_st (i := .iload 4) (n := 2) (t := (157, [(5, .int D), (6, .int F), (4, .int A), (0, .ref 81), (1, .int a), (2, .int b), (3, .int n)], [.int A, .int D], h)) rfl rfl ?_
        refine sm_go_st (i := .iconst 1) (n := 1) (t := (158, [(5, .int D), (6, .int F), (4, .int A), (0, .ref 81), (1, .int a), (2, .int b), (3, .int n)], [.int 1, .int A, .int D], h)) rfl rfl ?_
        refine sm_go_st (i := .isub) (n := 1) (t := (159, [(5, .int D), (6, .int F), (4, .int A), (0, .ref 81), (1, .int a), (2, .int b), (3, .int n)], [.int (A - 1), .int D], h)) rfl rfl ?_
        have eA : (A - 1).toInt = A.toInt - 1 := fg_sub (by omega)
        refine sm_go_ic (t := 203) (q := .ne) (off := 44) rfl rfl (fun c2 => ?_) (fun c2 => ?_)
        · have c2 : ¬ D.toInt = (A - 1).toInt := c2
          show sm_Go du_B (sm_Ex 200 sm_ML sm_B (d + 1)) (du_Q Psi H PH ws h0) 203 [(5, .int D), (6, .int F), (4, .int A), (0, .ref 81), (1, .int a), (2, .int b), (3, .int n)] [] h
          have hD1 := mr_1 (i := D) (by omega)
          have nD1 := aw_ix (i := D + 1) (by omega)
          have eD1 : (D + 1).toNatClampNeg = D.toNatClampNeg + 1 := by omega
          refine sm_go_st (i := .iinc 5 1) (n := 3) (t := (206, [(5, .int (D + 1)), (6, .int F), (4, .int A), (0, .ref 81), (1, .int a), (2, .int b), (3, .int n)], [], h)) rfl rfl ?_
          refine sm_go_st (i := .aload_n 0) (n := 1) (t := (207, [(5, .int (D + 1)), (6, .int F), (4, .int A), (0, .ref 81), (1, .int a), (2, .int b), (3, .int n)], [.ref 81], h)) rfl rfl ?_
          refine sm_go_st (i := .iload 5) (n := 2) (t := (209, [(5, .int (D + 1)), (6, .int F), (4, .int A), (0, .ref 81), (1, .int a), (2, .int b), (3, .int n)], [.int (D + 1), .ref 81], h)) rfl rfl ?_
          obtain ⟨gb', hrun⟩ := bt_run (d := d) (D + 1) ⟨by omega, by omega⟩ g1 g96 g97 f25 f26
          refine sm_go_cl (i := .invokevirtual 269) (n := 3) (k := 182) (r := []) rfl ⟨rfl, Nat.le_of_ble_eq_true rfl, Or.inl ⟨269, 3, 81, [.int (D + 1)], rfl, rfl, rfl, rfl, _, by unfold sm_obj; rw [g1]; exact if_pos rfl⟩⟩ hrun ?_
          have pu := du_push (v := 0) hln (by omega) hi c1 rfl
          rw [← eD1] at pu
          have I' := du_f hP c97 gb' (du_g hP c96 (upd g (D + 1).toNatClampNeg 0) (fun j hj => by rw [upd_at]; split; exact ⟨by decide, by decide⟩; exact b9 j hj) I)
          generalize (h.set 96 (.inl (0, 4, .inl (upd g (D + 1).toNatClampNeg 0)))).set 97 (.inl (0, 5, .inl gb')) = h9 at I' ⊢
          have nn2 := du_nn (by omega) pu.1
          show sm_Go du_B (sm_Ex 200 sm_ML sm_B (d + 1)) (du_Q Psi H PH ws h0) 212 [(5, .int (D + 1)), (6, .int F), (4, .int A), (0, .ref 81), (1, .int a), (2, .int b), (3, .int n)] [] h9
          refine sm_go_st (i := .goto (-146)) (n := 3) (t := (66, [(5, .int (D + 1)), (6, .int F), (4, .int A), (0, .ref 81), (1, .int a), (2, .int b), (3, .int n)], [], h9)) rfl rfl ?_
          exact (ih (D + 1) _ _ _ (by omega) (by omega) (by omega) (by omega) pu.1 I').2 F
        have c2 : D.toInt = (A - 1).toInt := Classical.not_not.mp c2
        refine sm_go_st (i := .aload_n 0) (n := 1) (t := (163, [(5, .int D), (6, .int F), (4, .int A), (0, .ref 81), (1, .int a), (2, .int b), (3, .int n)], [.ref 81], h)) rfl rfl ?_
        refine sm_go_gf (r := []) (v := .ref 97) rfl rfl g1 f26 ?_
        refine sm_go_st (i := .iload 5) (n := 2) (t := (168, [(5, .int D), (6, .int F), (4, .int A), (0, .ref 81), (1, .int a), (2, .int b), (3, .int n)], [.int D, .ref 97], h)) rfl rfl ?_
        refine sm_go_st (i := .iload 5) (n := 2) (t := (170, [(5, .int D), (6, .int F), (4, .int A), (0, .ref 81), (1, .int a), (2, .int b), (3, .int n)], [.int D, .int D, .ref 97], h)) rfl rfl ?_
        refine sm_go_st (i := .aload_n 0) (n := 1) (t := (171, [(5, .int D), (6, .int F), (4, .int A), (0, .ref 81), (1, .int a), (2, .int b), (3, .int n)], [.ref 81, .int D, .int D, .ref 97], h)) rfl rfl ?_
        refine sm_go_gf (r := [.int D, .int D, .ref 97]) (v := .ref 97) rfl rfl g1 f26 ?_
        refine sm_go_st (i := .iload 5) (n := 2) (t := (176, [(5, .int D), (6, .int F), (4, .int A), (0, .ref 81), (1, .int a), (2, .int b), (3, .int n)], [.int D, .ref 97, .int D, .int D, .ref 97], h)) rfl rfl ?_
        refine sm_go_ia (r := [.int D, .int D, .ref 97]) rfl g97 (by decide) inD5 ?_
        refine sm_go_st (i := .aload_n 0) (n := 1) (t := (178, [(5, .int D), (6, .int F), (4, .int A), (0, .ref 81), (1, .int a), (2, .int b), (3, .int n)], [.ref 81, .int (gb D.toNatClampNeg), .int D, .int D, .ref 97], h)) rfl rfl ?_
        refine sm_go_st (i := .iload_n 1) (n := 1) (t := (179, [(5, .int D), (6, .int F), (4, .int A), (0, .ref 81), (1, .int a), (2, .int b), (3, .int n)], [.int a, .ref 81, .int (gb D.toNatClampNeg), .int D, .int D, .ref 97], h)) rfl rfl ?_
        refine sm_go_st (i := .iload_n 2) (n := 1) (t := (180, [(5, .int D), (6, .int F), (4, .int A), (0, .ref 81), (1, .int a), (2, .int b), (3, .int n)], [.int b, .int a, .ref 81, .int (gb D.toNatClampNeg), .int D, .int D, .ref 97], h)) rfl rfl ?_
        refine sm_go_st (i := .iload 4) (n := 2) (t := (182, [(5, .int D), (6, .int F), (4, .int A), (0, .ref 81), (1, .int a), (2, .int b), (3, .int n)], [.int A, .int b, .int a, .ref 81, .int (gb D.toNatClampNeg), .int D, .int D, .ref 97], h)) rfl rfl ?_
        obtain ⟨r1, h1, x1, y1, z1, f1h⟩ := hM a b h ha hb I.1 I.2.1
        refine sm_go_cl (i := .invokevirtual 266) (n := 3) (k := 181) (r := [.int (gb D.toNatClampNeg), .int D, .int D, .ref 97]) rfl ⟨rfl, Nat.le_of_ble_eq_true rfl, Or.inl ⟨266, 3, 81, [.int a, .int b, .int A], rfl, rfl, rfl, rfl, _, by unfold sm_obj; rw [g1]; exact if_pos rfl⟩⟩ x1 ?_
        have I1 := du_h y1 z1 f1h I
        obtain ⟨r2, x2⟩ := be_run (d := d) D (gb D.toNatClampNeg) r1 h1
        refine sm_go_cl (i := .invokestatic 272) (n := 3) (k := 183) (vs := [.int D, .int (gb D.toNatClampNeg), .int r1]) (r := [.int D, .ref 97]) rfl ⟨rfl, Nat.le_of_ble_eq_true rfl, Or.inr (Or.inl ⟨272, 3, rfl, rfl, rfl⟩)⟩ x2 ?_
        refine sm_go_is (r := []) rfl I1.2.2.2.2.2 inD5 ?_
        have I2 := du_f hP c97 (upd gb D.toNatClampNeg r2) I1
        generalize h1.set 97 (.inl (0, 5, .inl (upd gb D.toNatClampNeg r2))) = h2 at I2 ⊢
        have g1a := I2.2.2.2.1
        have g96a := I2.2.2.2.2.1
        refine sm_go_st (i := .aload_n 0) (n := 1) (t := (190, [(5, .int D), (6, .int F), (4, .int A), (0, .ref 81), (1, .int a), (2, .int b), (3, .int n)], [.ref 81], h2)) rfl rfl ?_
        refine sm_go_gf (r := []) (v := .ref 96) rfl rfl g1a f25 ?_
        refine sm_go_st (i := .iload 5) (n := 2) (t := (195, [(5, .int D), (6, .int F), (4, .int A), (0, .ref 81), (1, .int a), (2, .int b), (3, .int n)], [.int D, .ref 96], h2)) rfl rfl ?_
        refine sm_go_st (i := .dup2) (n := 1) (t := (196, [(5, .int D), (6, .int F), (4, .int A), (0, .ref 81), (1, .int a), (2, .int b), (3, .int n)], [.int D, .ref 96, .int D, .ref 96], h2)) rfl rfl ?_
        refine sm_go_ia (r := [.int D, .ref 96]) rfl g96a (by decide) inD4 ?_
        refine sm_go_st (i := .iconst 1) (n := 1) (t := (198, [(5, .int D), (6, .int F), (4, .int A), (0, .ref 81), (1, .int a), (2, .int b), (3, .int n)], [.int 1, .int (g D.toNatClampNeg), .int D, .ref 96], h2)) rfl rfl ?_
        refine sm_go_st (i := .iadd) (n := 1) (t := (199, [(5, .int D), (6, .int F), (4, .int A), (0, .ref 81), (1, .int a), (2, .int b), (3, .int n)], [.int ((g D.toNatClampNeg) + 1), .int D, .ref 96], h2)) rfl rfl ?_
        refine sm_go_is (r := []) rfl g96a inD4 ?_
        have e1 := mr_1 (i := g D.toNatClampNeg) (by have := b9 D.toNatClampNeg D4; omega)
        have lf := du_leaf (v := g D.toNatClampNeg + 1) D4 hi c1 e1
        have I3 := du_g hP c96 (upd g D.toNatClampNeg (g D.toNatClampNeg + 1)) (fun j hj => by rw [upd_at]; split; exact ⟨by have := b9 D.toNatClampNeg D4; omega, by omega⟩; exact b9 j hj) I2
        generalize h2.set 96 (.inl (0, 4, .inl (upd g D.toNatClampNeg (g D.toNatClampNeg + 1)))) = h9 at I3 ⊢
        have nn2 := du_nn D4 lf.1
        show sm_Go du_B (sm_Ex 200 sm_ML sm_B (d + 1)) (du_Q Psi H PH ws h0) 200 [(5, .int D), (6, .int F), (4, .int A), (0, .ref 81), (1, .int a), (2, .int b), (3, .int n)] [] h9
        refine sm_go_st (i := .goto (-134)) (n := 3) (t := (66, [(5, .int D), (6, .int F), (4, .int A), (0, .ref 81), (1, .int a), (2, .int b), (3, .int n)], [], h9)) rfl rfl ?_
        exact (ih D _ _ _ D1 D2 D3 (by omega) lf.1 I3).2 F
      have c1 : ¬ (g D.toNatClampNeg).toInt ≤ ln.toInt := c1
      refine sm_go_st (i := .aload_n 0) (n := 1) (t := (91, [(5, .int D), (6, .int F), (4, .int A), (0, .ref 81), (1, .int a), (2, .int b), (3, .int n)], [.ref 81], h)) rfl rfl ?_
      refine sm_go_gf (r := []) (v := .ref 97) rfl rfl g1 f26 ?_
      refine sm_go_st (i := .iload 5) (n := 2) (t := (96, [(5, .int D), (6, .int F), (4, .int A), (0, .ref 81), (1, .int a), (2, .int b), (3, .int n)], [.int D, .ref 97], h)) rfl rfl ?_
      refine sm_go_ia (r := []) rfl g97 (by decide) inD5 ?_
      have eDm : (D - 1).toInt = D.toInt - 1 := fg_sub (by omega)
      refine sm_go_st (i := .istore 6) (n := 2) (t := (99, [(6, .int (gb D.toNatClampNeg)), (5, .int D), (4, .int A), (0, .ref 81), (1, .int a), (2, .int b), (3, .int n)], [], h)) rfl rfl ?_
      refine sm_go_st (i := .iinc 5 (-1)) (n := 3) (t := (102, [(5, .int (D + (-1))), (6, .int (gb D.toNatClampNeg)), (4, .int A), (0, .ref 81), (1, .int a), (2, .int b), (3, .int n)], [], h)) rfl rfl ?_
      have eq1 : (D + (-1) : Int32).toInt = D.toInt - 1 := by rw [mr_add (x := D) (y := -1) (by show -2147483648 ≤ D.toInt + -1; omega) (by show D.toInt + -1 < 2147483648; omega)]; rfl
      generalize hF : gb D.toNatClampNeg = F1 at *
      generalize D + (-1) = E at eq1 ⊢
      refine sm_go_st (i := .iload 5) (n := 2) (t := (104, [(5, .int E), (6, .int F1), (4, .int A), (0, .ref 81), (1, .int a), (2, .int b), (3, .int n)], [.int E], h)) rfl rfl ?_
      refine sm_go_if (t := 142) (q := .lt) (off := 38) rfl rfl (fun c3 => ?_) (fun c3 => ?_)
      · have c3 : E.toInt < 0 := c3
        show sm_Go du_B (sm_Ex 200 sm_ML sm_B (d + 1)) (du_Q Psi H PH ws h0) 142 [(5, .int E), (6, .int F1), (4, .int A), (0, .ref 81), (1, .int a), (2, .int b), (3, .int n)] [] h
        refine sm_go_st (i := .aload_n 0) (n := 1) (t := (143, [(5, .int E), (6, .int F1), (4, .int A), (0, .ref 81), (1, .int a), (2, .int b), (3, .int n)], [.ref 81], h)) rfl rfl ?_
        refine sm_go_gf (r := []) (v := .ref 97) rfl rfl g1 f26 ?_
        refine sm_go_st (i := .iconst 4) (n := 1) (t := (147, [(5, .int E), (6, .int F1), (4, .int A), (0, .ref 81), (1, .int a), (2, .int b), (3, .int n)], [.int 4, .ref 97], h)) rfl rfl ?_
        refine sm_go_st (i := .iload 6) (n := 2) (t := (149, [(5, .int E), (6, .int F1), (4, .int A), (0, .ref 81), (1, .int a), (2, .int b), (3, .int n)], [.int F1, .int 4, .ref 97], h)) rfl rfl ?_
        refine sm_go_is (r := []) rfl g97 (by decide) ?_
        have I' := du_f hP c97 (upd gb (4 : Int32).toNatClampNeg F1) I
        generalize h.set 97 (.inl (0, 5, .inl (upd gb (4 : Int32).toNatClampNeg F1))) = h9 at I' ⊢
        refine sm_go_st (i := .goto (-84)) (n := 3) (t := (66, [(5, .int E), (6, .int F1), (4, .int A), (0, .ref 81), (1, .int a), (2, .int b), (3, .int n)], [], h9)) rfl rfl ?_
        refine sm_go_st (i := .iload 4) (n := 2) (t := (68, [(5, .int E), (6, .int F1), (4, .int A), (0, .ref 81), (1, .int a), (2, .int b), (3, .int n)], [.int A], h9)) rfl rfl ?_
        refine sm_go_if (t := 215) (q := .le) (off := 147) rfl rfl (fun c0 => ?_) (fun _ => ?_)
        · have c0 : A.toInt ≤ 0 := c0
          omega
        refine sm_go_st (i := .iload 5) (n := 2) (t := (73, [(5, .int E), (6, .int F1), (4, .int A), (0, .ref 81), (1, .int a), (2, .int b), (3, .int n)], [.int E], h9)) rfl rfl ?_
        refine sm_go_if (t := 215) (q := .lt) (off := 142) rfl rfl (fun _ => hE h9 g _ I' _ rfl) (fun c0 => ?_)
        exact absurd c3 c0
      have c3 : ¬ E.toInt < 0 := c3
      have nE := aw_ix (i := E) (by omega)
      have eE : D.toNatClampNeg = E.toNatClampNeg + 1 := by omega
      have inE4 : ¬ (E < 0 ∨ 4 ≤ E.toNatClampNeg) := aw_in6 (q := (E.toInt, E.toInt)) (n := 4) ⟨Int.le_refl _, Int.le_refl _⟩ (by show 0 ≤ E.toInt; omega) (by show E.toInt < ((4 : Nat) : Int); omega)
      have inE5 : ¬ (E < 0 ∨ 5 ≤ E.toNatClampNeg) := aw_in6 (q := (E.toInt, E.toInt)) (n := 5) ⟨Int.le_refl _, Int.le_refl _⟩ (by show 0 ≤ E.toInt; omega) (by show E.toInt < ((5 : Nat) : Int); omega)
      refine sm_go_st (i := .aload_n 0) (n := 1) (t := (108, [(5, .int E), (6, .int F1), (4, .int A), (0, .ref 81), (1, .int a), (2, .int b), (3, .int n)], [.ref 81], h)) rfl rfl ?_
      refine sm_go_gf (r := []) (v := .ref 97) rfl rfl g1 f26 ?_
      refine sm_go_st (i := .iload 5) (n := 2) (t := (113, [(5, .int E), (6, .int F1), (4, .int A), (0, .ref 81), (1, .int a), (2, .int b), (3, .int n)], [.int E, .ref 97], h)) rfl rfl ?_
      refine sm_go_st (i := .iload 5) (n := 2) (t := (115, [(5, .int E), (6, .int F1), (4, .int A), (0, .ref 81), (1, .int a), (2, .int b), (3, .int n)], [.int E, .int E, .ref 97], h)) rfl rfl ?_
      refine sm_go_st (i := .aload_n 0) (n := 1) (t := (116, [(5, .int E), (6, .int F1), (4, .int A), (0, .ref 81), (1, .int a), (2, .int b), (3, .int n)], [.ref 81, .int E, .int E, .ref 97], h)) rfl rfl ?_
      refine sm_go_gf (r := [.int E, .int E, .ref 97]) (v := .ref 97) rfl rfl g1 f26 ?_
      refine sm_go_st (i := .iload 5) (n := 2) (t := (121, [(5, .int E), (6, .int F1), (4, .int A), (0, .ref 81), (1, .int a), (2, .int b), (3, .int n)], [.int E, .ref 97, .int E, .int E, .ref 97], h)) rfl rfl ?_
      refine sm_go_ia (r := [.int E, .int E, .ref 97]) rfl g97 (by decide) inE5 ?_
      refine sm_go_st (i := .iload 6) (n := 2) (t := (124, [(5, .int E), (6, .int F1), (4, .int A), (0, .ref 81), (1, .int a), (2, .int b), (3, .int n)], [.int F1, .int (gb E.toNatClampNeg), .int E, .int E, .ref 97], h)) rfl rfl ?_
      obtain ⟨r2, x2⟩ := be_run (d := d) E (gb E.toNatClampNeg) F1 h
      refine sm_go_cl (i := .invokestatic 272) (n := 3) (k := 183) (vs := [.int E, .int (gb E.toNatClampNeg), .int F1]) (r := [.int E, .ref 97]) rfl ⟨rfl, Nat.le_of_ble_eq_true rfl, Or.inr (Or.inl ⟨272, 3, rfl, rfl, rfl⟩)⟩ x2 ?_
      refine sm_go_is (r := []) rfl g97 inE5 ?_
      have I2 := du_f hP c97 (upd gb E.toNatClampNeg r2) I
      generalize h.set 97 (.inl (0, 5, .inl (upd gb E.toNatClampNeg r2))) = h2 at I2 ⊢
      have g1a := I2.2.2.2.1
      have g96a := I2.2.2.2.2.1
      refine sm_go_st (i := .aload_n 0) (n := 1) (t := (129, [(5, .int E), (6, .int F1), (4, .int A), (0, .ref 81), (1, .int a), (2, .int b), (3, .int n)], [.ref 81], h2)) rfl rfl ?_
      refine sm_go_gf (r := []) (v := .ref 96) rfl rfl g1a f25 ?_
      refine sm_go_st (i := .iload 5) (n := 2) (t := (134, [(5, .int E), (6, .int F1), (4, .int A), (0, .ref 81), (1, .int a), (2, .int b), (3, .int n)], [.int E, .ref 96], h2)) rfl rfl ?_
      refine sm_go_st (i := .dup2) (n := 1) (t := (135, [(5, .int E), (6, .int F1), (4, .int A), (0, .ref 81), (1, .int a), (2, .int b), (3, .int n)], [.int E, .ref 96, .int E, .ref 96], h2)) rfl rfl ?_
      refine sm_go_ia (r := [.int E, .ref 96]) rfl g96a (by decide) inE4 ?_
      refine sm_go_st (i := .iconst 1) (n := 1) (t := (137, [(5, .int E), (6, .int F1), (4, .int A), (0, .ref 81), (1, .int a), (2, .int b), (3, .int n)], [.int 1, .int (g E.toNatClampNeg), .int E, .ref 96], h2)) rfl rfl ?_
      refine sm_go_st (i := .iadd) (n := 1) (t := (138, [(5, .int E), (6, .int F1), (4, .int A), (0, .ref 81), (1, .int a), (2, .int b), (3, .int n)], [.int ((g E.toNatClampNeg) + 1), .int E, .ref 96], h2)) rfl rfl ?_
      refine sm_go_is (r := []) rfl g96a inE4 ?_
      have b9E := b9 E.toNatClampNeg (by omega)
      have e1 := mr_1 (i := g E.toNatClampNeg) (by omega)
      rw [eE] at hi c1 hm nn
      have le8 := (hi.1 E.toNatClampNeg (by omega)).2
      have le8 : (g E.toNatClampNeg).toInt ≤ ln.toInt := le8
      have pp := du_pop (v := g E.toNatClampNeg + 1) (by omega) hi (show ln.toInt < (g (E.toNatClampNeg + 1)).toInt by omega) e1
      have I3 := du_g hP c96 (upd g E.toNatClampNeg (g E.toNatClampNeg + 1)) (fun j hj => by rw [upd_at]; split; exact ⟨by omega, by omega⟩; exact b9 j hj) I2
      generalize h2.set 96 (.inl (0, 4, .inl (upd g E.toNatClampNeg (g E.toNatClampNeg + 1)))) = h9 at I3 ⊢
      have nn2 := du_nn (by omega) pp.1
      show sm_Go du_B (sm_Ex 200 sm_ML sm_B (d + 1)) (du_Q Psi H PH ws h0) 139 [(5, .int E), (6, .int F1), (4, .int A), (0, .ref 81), (1, .int a), (2, .int b), (3, .int n)] [] h9
      refine sm_go_st (i := .goto 11) (n := 3) (t := (150, [(5, .int E), (6, .int F1), (4, .int A), (0, .ref 81), (1, .int a), (2, .int b), (3, .int n)], [], h9)) rfl rfl ?_
      refine sm_go_st (i := .goto (-84)) (n := 3) (t := (66, [(5, .int E), (6, .int F1), (4, .int A), (0, .ref 81), (1, .int a), (2, .int b), (3, .int n)], [], h9)) rfl rfl ?_
      exact (ih E _ _ _ (by omega) (by omega) (by omega) (by omega) pp.1 I3).2 F1
end DUL
set_option maxHeartbeats 4000000 in
theorem du_ok {Psi : List va_E → Prop} (hP : ∀ (h : List va_E) (a : Nat) (e : va_E), a ∉ ai_pc → Psi h → Psi (h.set a e)) {d : Nat} {H PH : aw_H} {vs : List aw_V} (m81 : (81, .inl (3, vs)) ∈ H) (c81 : ∀ c, (81, c) ∈ H → c = .inl (3, vs)) (c97 : ∀ c, (97, c) ∈ H → c = .inr (.inl (0, 5, [], []))) (m97 : (97, .inr (.inl (0, 5, [], []))) ∈ H) (c96 : ∀ c, (96, c) ∈ H → c = .inr (.inl (0, 4, [(0, 3, [(0, 9)])], []))) (m96 : (96, .inr (.inl (0, 4, [(0, 3, [(0, 9)])], []))) ∈ H) (hPH : ∀ q ∈ PH, q ∈ H) (v1 : vs[1]? = some (.inr (false, [(0, 8)]))) (v11 : vs[11]? = some (.inr (false, ar_t32))) (v25 : vs[25]? = some (.inl 96)) (v26 : vs[26]? = some (.inl 97)) (hM : ∀ A : Int32, A.toInt = 0 ∨ A.toInt = 2 ∨ A.toInt = 4 → du_M Psi (sm_Ex 200 sm_ML sm_B (d + 2)) H A) : ak_ok Psi (sm_Ex 200 sm_ML sm_B (d + 3)) (du_c H PH) := by
  refine sm_hand (B := du_B) (show (180 : Nat) < 200 by decide) rfl (show (4 : Nat) ≤ sm_ML 180 by decide +kernel) ?_
  intro ws h hv hh hPs
  match ws, hv with
  | [v0, v1', v2, v3], hv =>
    obtain ⟨e0, e1, e2, e3, -⟩ := hv
    have e0 : v0 = .ref 81 := e0
    obtain ⟨a, rfl, -⟩ := sm_vi e1
    obtain ⟨b, rfl, -⟩ := sm_vi e2
    obtain ⟨n, rfl, -⟩ := sm_vi e3
    subst e0
    have hh : aw_h H h := hh
    obtain ⟨e, g1, fs, rfl, hl, hfs⟩ := hh _ m81
    obtain ⟨e, g96, g, rfl, -, -⟩ := hh _ m96
    obtain ⟨e, g97, gb, rfl, -, -⟩ := hh _ m97
    obtain ⟨w1, f1, m1⟩ := mo_get hl hfs v1
    obtain ⟨ln, rfl, hln⟩ := sm_vi m1
    have hln := ar_1 hln
    obtain ⟨w25, f25, m25⟩ := mo_get hl hfs v25
    have m25 : w25 = .ref 96 := m25
    subst m25
    obtain ⟨w26, f26, m26⟩ := mo_get hl hfs v26
    have m26 : w26 = .ref 97 := m26
    subst m26
    have hlen : 27 ≤ fs.length := by
      have := (List.getElem?_eq_some_iff.mp f26).1
      omega
    have sub : ∀ h' : List va_E, aw_h H h' → aw_h PH h' := fun h' k q hq => k q (hPH q hq)
    have I : du_I Psi H fs h h g gb := ⟨hh, hPs, fun _ _ => rfl, g1, g96, g97⟩
    have bad : sm_Go du_B (sm_Ex 200 sm_ML sm_B (d + 2)) (du_Q Psi H PH [.ref 81, .int a, .int b, .int n] h) 33 [(0, .ref 81), (1, .int a), (2, .int b), (3, .int n)] [] h := by
      refine sm_go_st (i := .iconst (-1)) (n := 1) (t := (34, [(0, .ref 81), (1, .int a), (2, .int b), (3, .int n)], [.int (-1)], h)) rfl rfl ?_
      exact sm_go_rt (o := some (.int (-1))) (i := .ireturn) (n := 1) rfl ⟨rfl, Or.inl ⟨rfl, -1, rfl, rfl, Or.inl rfl⟩⟩ ⟨hPs, fun _ _ => rfl, _, List.mem_cons_self, trivial, ⟨-1, rfl, ar_o (by decide) (by decide)⟩, sub h hh⟩
    have hE : ∀ (h' : List va_E) (g gb : Nat → Int32), du_I Psi H fs h h' g gb → ∀ lv : sm_L, sm_get lv 0 = some (.ref 81) → sm_Go du_B (sm_Ex 200 sm_ML sm_B (d + 2)) (du_Q Psi H PH [.ref 81, .int a, .int b, .int n] h) 215 lv [] h' := by
      intro h' g gb I lv hlv
      obtain ⟨i1, i2, i3, i4, i5, i6⟩ := I
      have al : ∀ (pc : Nat) (st : List Value), sm_step du_B.2.1 (.aload_n 0) 1 pc lv st h' = some (pc + 1, lv, .ref 81 :: st, h') := fun pc st => by
        show (sm_get lv 0).bind (fun v => sm_r1 [v] fun x _ => some (pc + 1, lv, .ref x :: st, h')) = _
        rw [hlv]
        rfl
      refine sm_go_st (i := .aload_n 0) (n := 1) (t := (216, lv, [.ref 81], h')) rfl (al 215 []) ?_
      refine sm_go_st (i := .aload_n 0) (n := 1) (t := (217, lv, [.ref 81, .ref 81], h')) rfl (al 216 [.ref 81]) ?_
      refine sm_go_gf (r := [.ref 81]) (v := .ref 97) rfl rfl i4 f26 ?_
      refine sm_go_st (i := .iconst 4) (n := 1) (t := (221, lv, [.int 4, .ref 97, .ref 81], h')) rfl rfl ?_
      refine sm_go_ia (r := [.ref 81]) rfl i6 (by decide) (by decide) ?_
      refine sm_go_pf (r := []) rfl rfl i4 (by omega) ?_
      generalize gb (4 : Int32).toNatClampNeg = v
      refine sm_go_st (i := .iconst 1) (n := 1) (t := (226, lv, [.int 1], h'.set 81 (.inr (3, fs.set 11 (.int v))))) rfl rfl ?_
      refine sm_go_rt (o := some (.int 1)) (i := .ireturn) (n := 1) rfl ⟨rfl, Or.inl ⟨rfl, 1, rfl, rfl, Or.inl rfl⟩⟩ ⟨hP _ _ _ (by decide) i2, fun q hq => ?_, _, List.mem_cons_of_mem _ List.mem_cons_self, trivial, ⟨1, rfl, ar_o (by decide) (by decide)⟩, sub _ (ah_set i1 i4 (fun c hc => ?_))⟩
      · rw [List.getElem?_set_ne (fun z => hq (by rw [← z]; exact List.mem_cons_self))]; exact i3 q hq
      · have k := mo_set (ci := 3) (k := 11) (v := .inr (false, ar_t32)) (w := .int v) hl hfs ⟨v, rfl, ar_in32 v⟩
        rw [mo_samv v11] at k
        rw [c81 c hc]
        exact k
    show sm_Go du_B (sm_Ex 200 sm_ML sm_B (d + 2)) (du_Q Psi H PH [.ref 81, .int a, .int b, .int n] h) 0 [(0, .ref 81), (1, .int a), (2, .int b), (3, .int n)] [] h
    refine sm_go_st (i := .aload_n 0) (n := 1) (t := (1, [(0, .ref 81), (1, .int a), (2, .int b), (3, .int n)], [.ref 81], h)) rfl rfl ?_
    refine sm_go_st (i := .iload_n 1) (n := 1) (t := (2, [(0, .ref 81), (1, .int a), (2, .int b), (3, .int n)], [.int a, .ref 81], h)) rfl rfl ?_
    obtain ⟨q1, x1, k1⟩ := il_run (d := d) a g1 f1 hln
    refine sm_go_cl (i := .invokevirtual 177) (n := 3) (k := 131) (r := []) rfl ⟨rfl, Nat.le_of_ble_eq_true rfl, Or.inl ⟨177, 3, 81, [.int a], rfl, rfl, rfl, rfl, _, by unfold sm_obj; rw [g1]; exact if_pos rfl⟩⟩ x1 ?_
    refine sm_go_if (t := 33) (q := .eq) (off := 28) rfl rfl (fun _ => bad) (fun c1 => ?_)
    have ha := k1 c1
    refine sm_go_st (i := .aload_n 0) (n := 1) (t := (9, [(0, .ref 81), (1, .int a), (2, .int b), (3, .int n)], [.ref 81], h)) rfl rfl ?_
    refine sm_go_st (i := .iload_n 2) (n := 1) (t := (10, [(0, .ref 81), (1, .int a), (2, .int b), (3, .int n)], [.int b, .ref 81], h)) rfl rfl ?_
    obtain ⟨q2, x2, k2⟩ := il_run (d := d) b g1 f1 hln
    refine sm_go_cl (i := .invokevirtual 177) (n := 3) (k := 131) (r := []) rfl ⟨rfl, Nat.le_of_ble_eq_true rfl, Or.inl ⟨177, 3, 81, [.int b], rfl, rfl, rfl, rfl, _, by unfold sm_obj; rw [g1]; exact if_pos rfl⟩⟩ x2 ?_
    refine sm_go_if (t := 33) (q := .eq) (off := 20) rfl rfl (fun _ => bad) (fun c2 => ?_)
    have hb := k2 c2
    refine sm_go_st (i := .iload_n 1) (n := 1) (t := (17, [(0, .ref 81), (1, .int a), (2, .int b), (3, .int n)], [.int a], h)) rfl rfl ?_
    refine sm_go_st (i := .iload_n 2) (n := 1) (t := (18, [(0, .ref 81), (1, .int a), (2, .int b), (3, .int n)], [.int b, .int a], h)) rfl rfl ?_
    refine sm_go_ic (t := 33) (q := .eq) (off := 15) rfl rfl (fun _ => bad) (fun _ => ?_)
    refine sm_go_st (i := .iload_n 3) (n := 1) (t := (22, [(0, .ref 81), (1, .int a), (2, .int b), (3, .int n)], [.int n], h)) rfl rfl ?_
    refine sm_go_st (i := .i2l) (n := 1) (t := (23, [(0, .ref 81), (1, .int a), (2, .int b), (3, .int n)], [.long n.toInt64], h)) rfl rfl ?_
    refine sm_go_st (i := .lconst 0) (n := 1) (t := (24, [(0, .ref 81), (1, .int a), (2, .int b), (3, .int n)], [.long 0, .long n.toInt64], h)) rfl rfl ?_
    refine sm_go_st (i := .ldc2_w 211) (n := 3) (t := (27, [(0, .ref 81), (1, .int a), (2, .int b), (3, .int n)], [.long 2, .long 0, .long n.toInt64], h)) rfl rfl ?_
    obtain ⟨q3, x3, k3⟩ := in_run (d := d + 1) n.toInt64 0 2 h
    refine sm_go_cl (i := .invokestatic 71) (n := 3) (k := 105) (vs := [.long n.toInt64, .long 0, .long 2]) (r := []) rfl ⟨rfl, Nat.le_of_ble_eq_true rfl, Or.inr (Or.inl ⟨71, 3, rfl, rfl, rfl⟩)⟩ x3 ?_
    refine sm_go_if (t := 35) (q := .ne) (off := 5) rfl rfl (fun c3 => ?_) (fun _ => bad)
    have hn := k3 c3
    rw [Int32.toInt_toInt64] at hn
    have hn : 0 ≤ n.toInt ∧ n.toInt ≤ 2 := hn
    have eA : (2 * n : Int32).toInt = 2 * n.toInt := mr_mul (x := 2) (y := n) (by show -2147483648 ≤ 2 * n.toInt; omega) (by show 2 * n.toInt < 2147483648; omega)
    refine sm_go_st (i := .iconst 2) (n := 1) (t := (36, [(0, .ref 81), (1, .int a), (2, .int b), (3, .int n)], [.int 2], h)) rfl rfl ?_
    refine sm_go_st (i := .iload_n 3) (n := 1) (t := (37, [(0, .ref 81), (1, .int a), (2, .int b), (3, .int n)], [.int n, .int 2], h)) rfl rfl ?_
    refine sm_go_st (i := .imul) (n := 1) (t := (38, [(0, .ref 81), (1, .int a), (2, .int b), (3, .int n)], [.int (2 * n)], h)) rfl rfl ?_
    have hA : (2 * n : Int32).toInt = 0 ∨ (2 * n : Int32).toInt = 2 ∨ (2 * n : Int32).toInt = 4 := by omega
    generalize (2 * n : Int32) = A at hA ⊢
    refine sm_go_st (i := .istore 4) (n := 2) (t := (40, [(4, .int A), (0, .ref 81), (1, .int a), (2, .int b), (3, .int n)], [], h)) rfl rfl ?_
    refine sm_go_st (i := .iconst 0) (n := 1) (t := (41, [(4, .int A), (0, .ref 81), (1, .int a), (2, .int b), (3, .int n)], [.int 0], h)) rfl rfl ?_
    refine sm_go_st (i := .istore 5) (n := 2) (t := (43, [(5, .int 0), (4, .int A), (0, .ref 81), (1, .int a), (2, .int b), (3, .int n)], [], h)) rfl rfl ?_
    refine sm_go_st (i := .aload_n 0) (n := 1) (t := (44, [(5, .int 0), (4, .int A), (0, .ref 81), (1, .int a), (2, .int b), (3, .int n)], [.ref 81], h)) rfl rfl ?_
    refine sm_go_gf (r := []) (v := .ref 97) rfl rfl g1 f26 ?_
    refine sm_go_st (i := .iconst 4) (n := 1) (t := (48, [(5, .int 0), (4, .int A), (0, .ref 81), (1, .int a), (2, .int b), (3, .int n)], [.int 4, .ref 97], h)) rfl rfl ?_
    refine sm_go_st (i := .aload_n 0) (n := 1) (t := (49, [(5, .int 0), (4, .int A), (0, .ref 81), (1, .int a), (2, .int b), (3, .int n)], [.ref 81, .int 4, .ref 97], h)) rfl rfl ?_
    refine sm_go_st (i := .iload_n 1) (n := 1) (t := (50, [(5, .int 0), (4, .int A), (0, .ref 81), (1, .int a), (2, .int b), (3, .int n)], [.int a, .ref 81, .int 4, .ref 97], h)) rfl rfl ?_
    refine sm_go_st (i := .iload_n 2) (n := 1) (t := (51, [(5, .int 0), (4, .int A), (0, .ref 81), (1, .int a), (2, .int b), (3, .int n)], [.int b, .int a, .ref 81, .int 4, .ref 97], h)) rfl rfl ?_
    refine sm_go_st (i := .iconst 0) (n := 1) (t := (52, [(5, .int 0), (4, .int A), (0, .ref 81), (1, .int a), (2, .int b), (3, .int n)], [.int 0, .int b, .int a, .ref 81, .int 4, .ref 97], h)) rfl rfl ?_
    have M0 := hM 0 (Or.inl rfl)
    obtain ⟨r1, h1, y1, y2, y3, y4⟩ := M0 a b h ⟨by omega, by omega⟩ ⟨by omega, by omega⟩ hh hPs
    refine sm_go_cl (i := .invokevirtual 266) (n := 3) (k := 181) (r := [.int 4, .ref 97]) rfl ⟨rfl, Nat.le_of_ble_eq_true rfl, Or.inl ⟨266, 3, 81, [.int a, .int b, .int 0], rfl, rfl, rfl, rfl, _, by unfold sm_obj; rw [g1]; exact if_pos rfl⟩⟩ y1 ?_
    have I1 := du_h y2 y3 y4 I
    refine sm_go_is (r := []) rfl I1.2.2.2.2.2 (by decide) ?_
    have I2 := du_f hP c97 (upd gb (4 : Int32).toNatClampNeg r1) I1
    generalize h1.set 97 (.inl (0, 5, .inl (upd gb (4 : Int32).toNatClampNeg r1))) = h2 at I2 ⊢
    refine sm_go_st (i := .iload 4) (n := 2) (t := (58, [(5, .int 0), (4, .int A), (0, .ref 81), (1, .int a), (2, .int b), (3, .int n)], [.int A], h2)) rfl rfl ?_
    refine sm_go_if (t := 66) (q := .le) (off := 8) rfl rfl (fun c4 => ?_) (fun c4 => ?_)
    · have c4 : A.toInt ≤ 0 := c4
      show sm_Go du_B (sm_Ex 200 sm_ML sm_B (d + 2)) (du_Q Psi H PH [.ref 81, .int a, .int b, .int n] h) 66 [(5, .int 0), (4, .int A), (0, .ref 81), (1, .int a), (2, .int b), (3, .int n)] [] h2
      refine sm_go_st (i := .iload 4) (n := 2) (t := (68, [(5, .int 0), (4, .int A), (0, .ref 81), (1, .int a), (2, .int b), (3, .int n)], [.int A], h2)) rfl rfl ?_
      exact sm_go_if (t := 215) (q := .le) (off := 147) rfl rfl (fun _ => hE h2 g _ I2 _ rfl) (fun z => absurd c4 z)
    have c4 : ¬ A.toInt ≤ 0 := c4
    refine sm_go_st (i := .aload_n 0) (n := 1) (t := (62, [(5, .int 0), (4, .int A), (0, .ref 81), (1, .int a), (2, .int b), (3, .int n)], [.ref 81], h2)) rfl rfl ?_
    refine sm_go_st (i := .iconst 0) (n := 1) (t := (63, [(5, .int 0), (4, .int A), (0, .ref 81), (1, .int a), (2, .int b), (3, .int n)], [.int 0, .ref 81], h2)) rfl rfl ?_
    obtain ⟨gb', hrun⟩ := bt_run (d := d + 1) 0 ⟨by decide, by decide⟩ I2.2.2.2.1 I2.2.2.2.2.1 I2.2.2.2.2.2 f25 f26
    refine sm_go_cl (i := .invokevirtual 269) (n := 3) (k := 182) (r := []) rfl ⟨rfl, Nat.le_of_ble_eq_true rfl, Or.inl ⟨269, 3, 81, [.int 0], rfl, rfl, rfl, rfl, _, by unfold sm_obj; rw [I2.2.2.2.1]; exact if_pos rfl⟩⟩ hrun ?_
    have b9 := du_9 m96 I2
    have I3 := du_f hP c97 gb' (du_g hP c96 (upd g (0 : Int32).toNatClampNeg 0) (fun j hj => by rw [upd_at]; split; exact ⟨by decide, by decide⟩; exact b9 j hj) I2)
    have z0 : (0 : Int32).toNatClampNeg = 0 := rfl
    refine (du_loop hP c97 c96 m96 f1 f25 f26 hln ⟨by omega, by omega⟩ ⟨by omega, by omega⟩ hA (hM A hA) hE _ 0 _ _ _ (by decide) (by decide) (by show (0 : Int) + 1 ≤ A.toInt; omega) (Nat.lt_succ_self _) ?_ I3).1
    refine ⟨fun i hi => absurd hi (by rw [z0]; exact Nat.not_lt_zero _), ?_⟩
    rw [du_up, if_pos rfl]
    show 0 ≤ (0 : Int) ∧ (0 : Int) ≤ ln.toInt + 1
    omega
  | [], hv => exact hv.elim
  | [_], hv => exact hv.2.elim
  | [_, _], hv => exact hv.2.2.elim
  | [_, _, _], hv => exact hv.2.2.2.elim
  | _ :: _ :: _ :: _ :: _ :: _, hv => exact hv.2.2.2.2.elim
/-! Only register writes how many lines and mice the reference has. -/
theorem fz_if {α : Type} {c : Prop} [Decidable c] {a : Option α} {t : α} (h : (if c then a else none) = some t) : a = some t := by
  split at h
  · exact h
  · cases h
theorem fz_ifn {α : Type} {c : Prop} [Decidable c] {a : Option α} {t : α} (h : (if c then none else a) = some t) : a = some t := by
  split at h
  · cases h
  · exact h
theorem fz_iff {α : Type} {c : Prop} [Decidable c] {a b : Option α} {t : α} (h : (if c then a else b) = some t) : a = some t ∨ b = some t := by
  split at h
  · exact Or.inl h
  · exact Or.inr h
theorem fz_b {α β : Type} {x : Option α} {f : α → Option β} {t : β} (h : x.bind f = some t) : ∃ a, x = some a ∧ f a = some t := Option.bind_eq_some_iff.mp h
set_option maxHeartbeats 2000000 in
theorem fz_step {K : sm_K} {i : Instr} {n pc : Nat} {lv : sm_L} {st : List Value} {h : List va_E} {t : sm_T} (hs : sm_step K i n pc lv st h = some t) : t.2.2.2 = h ∨ (∃ a e e', h[a]? = some (.inl e) ∧ t.2.2.2 = h.set a (.inl e')) ∨ (∃ x a ci k ty v fs, i = .putfield x ∧ K.1 x = some (ci, k, ty) ∧ h[a]? = some (.inr (ci, fs)) ∧ t.2.2.2 = h.set a (.inr (ci, fs.set k v))) := by
  unfold sm_step at hs
  split at hs
  · have hs := fz_if hs
    cases hs
    exact Or.inl rfl
  · have hs := fz_if hs
    cases hs
    exact Or.inl rfl
  · have hs := fz_if hs
    cases hs
    exact Or.inl rfl
  · have hs := fz_if hs
    cases hs
    exact Or.inl rfl
  · have hs := fz_if hs
    obtain ⟨_, _, hs⟩ := fz_b hs
    cases hs
    exact Or.inl rfl
  · have hs := fz_if hs
    obtain ⟨_, _, hs⟩ := fz_b hs
    cases hs
    exact Or.inl rfl
  · have hs := fz_if hs
    obtain ⟨_, _, hs⟩ := fz_b hs
    cases hs
    exact Or.inl rfl
  · have hs := fz_if hs
    obtain ⟨_, _, hs⟩ := fz_b hs
    obtain ⟨_, _, -, hs⟩ := sm_i1_s hs
    cases hs
    exact Or.inl rfl
  · have hs := fz_if hs
    obtain ⟨_, _, hs⟩ := fz_b hs
    obtain ⟨_, _, -, hs⟩ := sm_i1_s hs
    cases hs
    exact Or.inl rfl
  · have hs := fz_if hs
    obtain ⟨_, _, hs⟩ := fz_b hs
    obtain ⟨_, _, -, hs⟩ := sm_l1_s hs
    cases hs
    exact Or.inl rfl
  · have hs := fz_if hs
    obtain ⟨_, _, hs⟩ := fz_b hs
    obtain ⟨_, _, -, hs⟩ := sm_l1_s hs
    cases hs
    exact Or.inl rfl
  · have hs := fz_if hs
    obtain ⟨_, _, hs⟩ := fz_b hs
    obtain ⟨_, _, -, hs⟩ := sm_r1_s hs
    cases hs
    exact Or.inl rfl
  · have hs := fz_if hs
    obtain ⟨_, _, hs⟩ := fz_b hs
    obtain ⟨_, _, -, hs⟩ := sm_r1_s hs
    cases hs
    exact Or.inl rfl
  · have hs := fz_if hs
    obtain ⟨_, _, -, hs⟩ := sm_i1_s hs
    cases hs
    exact Or.inl rfl
  · have hs := fz_if hs
    obtain ⟨_, _, -, hs⟩ := sm_i1_s hs
    cases hs
    exact Or.inl rfl
  · have hs := fz_if hs
    obtain ⟨_, _, -, hs⟩ := sm_l1_s hs
    cases hs
    exact Or.inl rfl
  · have hs := fz_if hs
    obtain ⟨_, _, -, hs⟩ := sm_l1_s hs
    cases hs
    exact Or.inl rfl
  · have hs := fz_if hs
    obtain ⟨_, _, -, hs⟩ := sm_r1_s hs
    cases hs
    exact Or.inl rfl
  · have hs := fz_if hs
    obtain ⟨_, _, -, hs⟩ := sm_r1_s hs
    cases hs
    exact Or.inl rfl
  · have hs := fz_if hs
    obtain ⟨_, _, hs⟩ := fz_b hs
    obtain ⟨_, _, -, hs⟩ := sm_i1_s hs
    cases hs
    exact Or.inl rfl
  · have hs := fz_if hs
    obtain ⟨_, _, _, -, hs⟩ := sm_i2_s hs
    cases hs
    exact Or.inl rfl
  · have hs := fz_if hs
    obtain ⟨_, _, _, -, hs⟩ := sm_i2_s hs
    cases hs
    exact Or.inl rfl
  · have hs := fz_if hs
    obtain ⟨_, _, _, -, hs⟩ := sm_i2_s hs
    cases hs
    exact Or.inl rfl
  · have hs := fz_if hs
    obtain ⟨_, _, _, -, hs⟩ := sm_i2_s hs
    cases hs
    exact Or.inl rfl
  · have hs := fz_if hs
    obtain ⟨_, _, _, -, hs⟩ := sm_i2_s hs
    cases hs
    exact Or.inl rfl
  · have hs := fz_if hs
    obtain ⟨_, _, _, -, hs⟩ := sm_i2_s hs
    cases hs
    exact Or.inl rfl
  · have hs := fz_if hs
    obtain ⟨_, _, _, -, hs⟩ := sm_i2_s hs
    have hs := fz_ifn hs
    cases hs
    exact Or.inl rfl
  · have hs := fz_if hs
    obtain ⟨_, _, _, -, hs⟩ := sm_i2_s hs
    have hs := fz_ifn hs
    cases hs
    exact Or.inl rfl
  · have hs := fz_if hs
    obtain ⟨_, _, -, hs⟩ := sm_i1_s hs
    cases hs
    exact Or.inl rfl
  · have hs := fz_if hs
    obtain ⟨_, _, _, -, hs⟩ := sm_i2_s hs
    cases hs
    exact Or.inl rfl
  · have hs := fz_if hs
    obtain ⟨_, _, _, -, hs⟩ := sm_i2_s hs
    cases hs
    exact Or.inl rfl
  · have hs := fz_if hs
    obtain ⟨_, _, _, -, hs⟩ := sm_l2_s hs
    cases hs
    exact Or.inl rfl
  · have hs := fz_if hs
    obtain ⟨_, _, _, -, hs⟩ := sm_l2_s hs
    cases hs
    exact Or.inl rfl
  · have hs := fz_if hs
    obtain ⟨_, _, _, -, hs⟩ := sm_l2_s hs
    have hs := fz_ifn hs
    cases hs
    exact Or.inl rfl
  · have hs := fz_if hs
    obtain ⟨_, _, _, -, hs⟩ := sm_l2_s hs
    have hs := fz_ifn hs
    cases hs
    exact Or.inl rfl
  · have hs := fz_if hs
    obtain ⟨_, _, _, -, hs⟩ := sm_l2_s hs
    cases hs
    exact Or.inl rfl
  · have hs := fz_if hs
    obtain ⟨_, _, -, hs⟩ := sm_i1_s hs
    cases hs
    exact Or.inl rfl
  · have hs := fz_if hs
    obtain ⟨_, _, -, hs⟩ := sm_l1_s hs
    cases hs
    exact Or.inl rfl
  · have hs := fz_if hs
    obtain ⟨_, _, -, hs⟩ := sm_i1_s hs
    cases hs
    exact Or.inl rfl
  · have hs := fz_if hs
    obtain ⟨_, _, hs⟩ := fz_b hs
    cases hs
    exact Or.inl rfl
  · have hs := fz_if hs
    obtain ⟨_, _, hs⟩ := fz_b hs
    obtain ⟨_, _, -, hs⟩ := sm_i1_s hs
    cases hs
    exact Or.inl rfl
  · have hs := fz_if hs
    obtain ⟨_, _, hs⟩ := fz_b hs
    obtain ⟨_, _, _, -, hs⟩ := sm_i2_s hs
    cases hs
    exact Or.inl rfl
  · obtain ⟨_, _, -, hs⟩ := sm_i1_s hs
    rcases fz_iff hs with hs | hs
    · obtain ⟨_, _, hs⟩ := fz_b hs
      cases hs
      exact Or.inl rfl
    · obtain ⟨_, _, hs⟩ := fz_b hs
      obtain ⟨_, _, hs⟩ := fz_b hs
      cases hs
      exact Or.inl rfl
  · have hs := fz_if hs
    cases hs
    exact Or.inl rfl
  · have hs := fz_if hs
    obtain ⟨_, _, -, hs⟩ := sm_r1_s hs
    obtain ⟨_, ek, hs⟩ := fz_b hs
    obtain ⟨_, eo, hs⟩ := fz_b hs
    obtain ⟨_, _, hs⟩ := fz_b hs
    cases hs
    exact Or.inl rfl
  · have hs := fz_if hs
    obtain ⟨_, _, -, hs⟩ := sm_r1_s hs
    split at hs
    · rcases fz_iff hs with hs | hs
      · cases hs
        exact Or.inl rfl
      · obtain ⟨_, _, hs⟩ := fz_b hs
        cases hs
        exact Or.inl rfl
    · obtain ⟨_, _, hs⟩ := fz_b hs
      cases hs
      exact Or.inl rfl
  · have hs := fz_if hs
    obtain ⟨_, _, _, -, hs⟩ := sm_ri_s hs
    rcases fz_iff hs with hs | hs
    · have hs := fz_ifn hs
      cases hs
      exact Or.inl rfl
    · rcases fz_iff hs with hs | hs
      · obtain ⟨_, _, hs⟩ := fz_b hs
        have hs := fz_ifn hs
        cases hs
        exact Or.inl rfl
      · obtain ⟨_, ea, hs⟩ := fz_b hs
        have hs := fz_ifn hs
        cases hs
        exact Or.inl rfl
  · have hs := fz_if hs
    obtain ⟨_, _, _, -, hs⟩ := sm_ri_s hs
    obtain ⟨_, ea, hs⟩ := fz_b hs
    have hs := fz_ifn hs
    cases hs
    exact Or.inl rfl
  · have hs := fz_if hs
    obtain ⟨_, _, _, -, hs⟩ := sm_ri_s hs
    obtain ⟨_, _, hs⟩ := fz_b hs
    have hs := fz_ifn hs
    obtain ⟨_, _, hs⟩ := fz_b hs
    cases hs
    exact Or.inl rfl
  · have hs := fz_if hs
    obtain ⟨_, _, _, _, -, hs⟩ := sm_rii_s hs
    obtain ⟨_, ea, hs⟩ := fz_b hs
    have hs := fz_ifn hs
    cases hs
    exact Or.inr (Or.inl ⟨_, _, _, sm_ints_s ea, rfl⟩)
  · have hs := fz_if hs
    obtain ⟨_, _, _, _, -, hs⟩ := sm_rii_s hs
    obtain ⟨_, ea, hs⟩ := fz_b hs
    have hs := fz_ifn hs
    cases hs
    exact Or.inr (Or.inl ⟨_, _, _, sm_byts_s ea, rfl⟩)
  · have hs := fz_if hs
    split at hs
    · obtain ⟨_, ek, hs⟩ := fz_b hs
      have hs := fz_if hs
      obtain ⟨_, eo, hs⟩ := fz_b hs
      have hs := fz_if hs
      cases hs
      exact Or.inr (Or.inr ⟨_, _, _, _, _, _, _, rfl, ek, sm_obj_s eo, rfl⟩)
    · obtain ⟨_, ek, hs⟩ := fz_b hs
      have hs := fz_if hs
      obtain ⟨_, eo, hs⟩ := fz_b hs
      have hs := fz_if hs
      cases hs
      exact Or.inr (Or.inr ⟨_, _, _, _, _, _, _, rfl, ek, sm_obj_s eo, rfl⟩)
    · cases hs
  · have hs := fz_if hs
    split at hs
    · have hs := fz_if hs
      cases hs
      exact Or.inl rfl
    · cases hs
  · have hs := fz_if hs
    split at hs
    · have hs := fz_if hs
      cases hs
      exact Or.inl rfl
    · cases hs
  · have hs := fz_if hs
    split at hs
    · have hs := fz_if hs
      cases hs
      exact Or.inl rfl
    · cases hs
  · have hs := fz_if hs
    split at hs
    · have hs := fz_if hs
      cases hs
      exact Or.inl rfl
    · cases hs
  · have hs := fz_if hs
    obtain ⟨_, _, hs⟩ := fz_b hs
    split at hs
    · obtain ⟨_, _, _, -, hs⟩ := sm_i2_s hs
      have hs := fz_if hs
      cases hs
      exact Or.inl rfl
    · obtain ⟨_, _, _, -, hs⟩ := sm_i2_s hs
      have hs := fz_if hs
      cases hs
      exact Or.inl rfl
    · obtain ⟨_, _, -, hs⟩ := sm_i1_s hs
      have hs := fz_if hs
      cases hs
      exact Or.inl rfl
    · obtain ⟨_, _, _, _, _, _, -, hs⟩ := sm_c5_s hs
      obtain ⟨_, _, hs⟩ := fz_b hs
      obtain ⟨_, ea, hs⟩ := fz_b hs
      have hs := fz_if hs
      cases hs
      exact Or.inr (Or.inl ⟨_, _, _, sm_ints_s ea, rfl⟩)
    · cases hs
  · cases hs
/-- the reference's object keeps its lines and mice -/
def fz_R (h h' : List va_E) : Prop := ∀ fs, h[81]? = some (.inr (3, fs)) → ∃ fs', h'[81]? = some (.inr (3, fs')) ∧ fs'[1]? = fs[1]? ∧ fs'[4]? = fs[4]?
theorem fz_rf (h : List va_E) : fz_R h h := fun fs hf => ⟨fs, hf, rfl, rfl⟩
theorem fz_tr {h h1 h2 : List va_E} (a : fz_R h h1) (b : fz_R h1 h2) : fz_R h h2 := fun fs hf => by
  obtain ⟨f1, x1, x2, x3⟩ := a fs hf
  obtain ⟨f2, y1, y2, y3⟩ := b f1 x1
  exact ⟨f2, y1, y2.trans x2, y3.trans x3⟩
def fz_G (k : Nat) : Bool := !(Nat.beq k 129)
def fz_c (k : Nat) (i : Instr) : Bool := match i with
  | .putfield x => match sm_lk (sm_fl (sm_O k)) x with
    | some (ci, j, _) => !(Nat.beq ci 3 && (Nat.beq j 1 || Nat.beq j 4))
    | none => true
  | .invokevirtual x => match sm_lk (sm_ca (sm_O k)) x with
    | some (_, k', _) => fz_G k'
    | none => true
  | .invokestatic x => match sm_lk (sm_ca (sm_O k)) x with
    | some (_, k', _) => fz_G k'
    | none => true
  | _ => true
def fz_k (k : Nat) : Bool := (sm_tl.getD k []).all fun u => u.2.all fun q => fz_c k q.2.1
theorem fz_all : ((List.range 200).all fun k => !(fz_G k) || fz_k k) = true := by decide +kernel
theorem fz_in {k pc n : Nat} {i : Instr} (hk : k < 200) (hg : fz_G k = true) (hi : (sm_B k).1 pc = some (i, n)) : fz_c k i = true := by
  have h1 := List.all_eq_true.mp fz_all k (List.mem_range.mpr hk)
  rw [hg] at h1
  have h1 : fz_k k = true := h1
  obtain ⟨u, hu, hm⟩ := sm_ch_s hi
  exact List.all_eq_true.mp (List.all_eq_true.mp h1 u hu) _ hm
theorem fz_rn {k : Nat} (hk : k < 200) (hg : fz_G k = true) {X : sm_X} (hX : ∀ k' vs h o h', fz_G k' = true → X k' vs h o h' → fz_R h h') : ∀ (f pc : Nat) (lv : sm_L) (st : List Value) (h : List va_E) (o : Option Value) (h' : List va_E), sm_rn (sm_B k) X f pc lv st h o h' → fz_R h h' := by
  intro f
  induction f with
  | zero => intro pc lv st h o h' hr; exact hr.elim
  | succ f ih =>
    intro pc lv st h o h' hr
    obtain ⟨i, n, hi, hr⟩ := hr
    have hc := fz_in hk hg hi
    rcases hr with ⟨-, rfl⟩ | ⟨t, hs, hr⟩ | ⟨k', vs, r, o1, h1, hcl, hx, hr⟩
    · exact fz_rf _
    · refine fz_tr ?_ (ih _ _ _ _ _ _ hr)
      rcases fz_step hs with e | ⟨a, e, e', h1, h2⟩ | ⟨x, a, ci, j, ty, v, fs, rfl, h1, h2, h3⟩
      · rw [e]; exact fz_rf _
      · intro fs hf
        refine ⟨fs, ?_, rfl, rfl⟩
        rw [h2, List.getElem?_set_ne (fun z => by rw [z, hf] at h1; cases h1)]
        exact hf
      · have h1 : sm_lk (sm_fl (sm_O k)) x = some (ci, j, ty) := h1
        have hc : (match sm_lk (sm_fl (sm_O k)) x with
          | some (ci, j, _) => !(Nat.beq ci 3 && (Nat.beq j 1 || Nat.beq j 4))
          | none => true) = true := hc
        rw [h1] at hc
        dsimp only at hc
        intro fs0 hf
        by_cases ha : a = 81
        · subst ha
          rw [hf] at h2
          cases h2
          have hj : j ≠ 1 ∧ j ≠ 4 := by
            refine ⟨fun z => ?_, fun z => ?_⟩
            · subst z; exact absurd hc (by decide)
            · subst z; exact absurd hc (by decide)
          refine ⟨_, by rw [h3]; exact sm_set_s hf, ?_, ?_⟩
          · rw [List.getElem?_set_ne hj.1]
          · rw [List.getElem?_set_ne hj.2]
        · exact ⟨fs0, by rw [h3, List.getElem?_set_ne ha]; exact hf, rfl, rfl⟩
    · refine fz_tr (hX k' vs h o1 h1 ?_ hx) (ih _ _ _ _ _ _ hr)
      obtain ⟨-, -, hcl⟩ := hcl
      rcases hcl with ⟨x, ci, b, As, rfl, hca, -⟩ | ⟨x, ci, rfl, hca, -⟩ | ⟨x, ci, rfl, hca, -⟩
      all_goals
        have hca : sm_lk (sm_ca (sm_O k)) x = _ := hca
        have hc : (match sm_lk (sm_ca (sm_O k)) x with
          | some (_, k', _) => fz_G k'
          | none => true) = true := hc
        rw [hca] at hc
        exact hc
theorem fz_run : ∀ (d k : Nat) (vs : List Value) (h : List va_E) (o : Option Value) (h' : List va_E), fz_G k = true → sm_Ex 200 sm_ML sm_B d k vs h o h' → fz_R h h' := by
  intro d
  induction d with
  | zero => intro k vs h o h' _ hx; exact hx.elim
  | succ d ih =>
    intro k vs h o h' hg hx
    obtain ⟨hk, -, f, hr⟩ := hx
    exact fz_rn hk hg (fun k' vs h o h' a b => ih k' vs h o h' a b) f _ _ _ _ _ _ hr
