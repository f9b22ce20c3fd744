/-! The reference's tellParts once more: of what is above nothing but a size is known. -/
def tq_c (vs : List aw_V) : ak_C := (186, [.inl 81, .inr (true, [(-72057594037927936, 72057594037927936)]), .inr (true, [(1, 1099511627776)])], [(81, .inl (3, vs))], [81], [([], none, [(81, .inl (3, vs))])])
theorem tq_m {x y : Int} (hy : y ≠ 0) : (x.tmod y).natAbs < y.natAbs ∧ (0 ≤ x → 0 ≤ x.tmod y ∧ x.tmod y ≤ x) ∧ (x ≤ 0 → x ≤ x.tmod y ∧ x.tmod y ≤ 0) := by
  by_cases h : 1 ≤ y
  · obtain ⟨h1, h2, h3⟩ := ar_tmod_s (x := x) h
    exact ⟨by omega, h2, h3⟩
  · obtain ⟨h1, h2, h3⟩ := ar_tmod_s (x := x) (y := -y) (by omega)
    rw [Int.tmod_neg] at h1 h2 h3
    exact ⟨by omega, h2, h3⟩
theorem tq_e {x y : Int64} (hx : -1152921504606846976 ≤ x.toInt ∧ x.toInt ≤ 1152921504606846976) (hy : y.toInt ≠ 0) : (x - x / y * y).toInt = x.toInt.tmod y.toInt := by
  obtain ⟨h1, h2, h3⟩ := tq_m (x := x.toInt) hy
  have e := Int.tmod_add_mul_tdiv x.toInt y.toInt
  rw [Int.mul_comm] at e
  have hne : x ≠ Int64.minValue := by
    intro h
    rw [h] at hx
    exact absurd hx.1 (by decide)
  have hb : -1152921504606846976 ≤ x.toInt.tmod y.toInt ∧ x.toInt.tmod y.toInt ≤ 1152921504606846976 ∧ -1152921504606846976 ≤ x.toInt - x.toInt.tmod y.toInt ∧ x.toInt - x.toInt.tmod y.toInt ≤ 1152921504606846976 := by
    by_cases h : 0 ≤ x.toInt
    · have := h2 h
      omega
    · have := h3 (by omega)
      omega
  have hm : (x / y * y).toInt = x.toInt.tdiv y.toInt * y.toInt := by
    rw [Int64.toInt_mul, Int64.toInt_div_of_ne_left x y hne, Int.bmod_eq_of_le (by omega) (by omega)]
  rw [Int64.toInt_sub, hm, Int.bmod_eq_of_le (by omega) (by omega)]
  omega
theorem tq_r {a b : Int64} (ha : -1152921504606846976 ≤ a.toInt ∧ a.toInt ≤ 1152921504606846976) (hb : ¬ b.toInt = 0) : ((a - a / b * b).toInt).natAbs < b.toInt.natAbs := by
  rw [tq_e ha hb]
  exact (tq_m hb).1
set_option maxHeartbeats 2000000 in
theorem tq_loop {X : sm_X} {Q : Option Value → List va_E → Prop} {fs : List Value} {h : List va_E} {u l : Int64} (g1 : h[81]? = some (.inr (3, fs))) (hl : 14 ≤ fs.length) (hQ : ∀ (x y : Int64) (h' : List va_E), h' = h.set 81 (.inr (3, (fs.set 12 (.long x)).set 13 (.long y))) → Q none h') : ∀ (n : Nat) (a b c : Int64), (-1152921504606846976 ≤ a.toInt ∧ a.toInt ≤ 1152921504606846976) → (-1152921504606846976 ≤ b.toInt ∧ b.toInt ≤ 1152921504606846976) → (a.toInt ≠ 0 ∨ b.toInt ≠ 0) → b.toInt.natAbs < n → sm_Go tp_B X Q 6 [(7, .long b), (5, .long a), (9, .long c), (0, .ref 81), (1, .long u), (3, .long l)] [] h := by
  intro n
  induction n with
  | zero => intro a b c _ _ _ h3; exact absurd h3 (Nat.not_lt_zero _)
  | succ n ih =>
    intro a b c a1 b1 ha1 h3
    refine sm_go_st (i := .lload 7) (n := 2) (t := (8, [(7, .long b), (5, .long a), (9, .long c), (0, .ref 81), (1, .long u), (3, .long l)], [.long b], h)) rfl rfl ?_
    refine sm_go_st (i := .lconst 0) (n := 1) (t := (9, [(7, .long b), (5, .long a), (9, .long c), (0, .ref 81), (1, .long u), (3, .long l)], [.long 0, .long b], h)) rfl rfl ?_
    refine sm_go_st (i := .lcmp) (n := 1) (t := (10, [(7, .long b), (5, .long a), (9, .long c), (0, .ref 81), (1, .long u), (3, .long l)], [.int (lg_cmp b 0)], h)) rfl rfl ?_
    refine sm_go_if (t := 31) (q := .eq) (off := 21) rfl rfl (fun c1 => ?_) (fun c1 => ?_)
    · have c1 : b.toInt = 0 := (tp_z b).mp c1
      have ha : a ≠ 0 := fun z => by
        rw [z] at ha1
        have : (0 : Int64).toInt = 0 := rfl
        rcases ha1 with ha1 | ha1
        · exact ha1 this
        · exact ha1 c1
      refine sm_go_st (i := .aload_n 0) (n := 1) (t := (32, [(7, .long b), (5, .long a), (9, .long c), (0, .ref 81), (1, .long u), (3, .long l)], [.ref 81], h)) rfl rfl ?_
      refine sm_go_st (i := .lload_n 1) (n := 1) (t := (33, [(7, .long b), (5, .long a), (9, .long c), (0, .ref 81), (1, .long u), (3, .long l)], [.long u, .ref 81], h)) rfl rfl ?_
      refine sm_go_st (i := .lload 5) (n := 2) (t := (35, [(7, .long b), (5, .long a), (9, .long c), (0, .ref 81), (1, .long u), (3, .long l)], [.long a, .long u, .ref 81], h)) rfl rfl ?_
      refine sm_go_ld (r := [.ref 81]) rfl ha ?_
      refine sm_go_pl (r := []) rfl rfl g1 (by omega) ?_
      refine sm_go_st (i := .aload_n 0) (n := 1) (t := (40, [(7, .long b), (5, .long a), (9, .long c), (0, .ref 81), (1, .long u), (3, .long l)], [.ref 81], (h.set 81 (.inr (3, fs.set 12 (.long (u / a))))))) rfl rfl ?_
      refine sm_go_st (i := .lload_n 3) (n := 1) (t := (41, [(7, .long b), (5, .long a), (9, .long c), (0, .ref 81), (1, .long u), (3, .long l)], [.long l, .ref 81], (h.set 81 (.inr (3, fs.set 12 (.long (u / a))))))) rfl rfl ?_
      refine sm_go_st (i := .lload 5) (n := 2) (t := (43, [(7, .long b), (5, .long a), (9, .long c), (0, .ref 81), (1, .long u), (3, .long l)], [.long a, .long l, .ref 81], (h.set 81 (.inr (3, fs.set 12 (.long (u / a))))))) rfl rfl ?_
      refine sm_go_ld (r := [.ref 81]) rfl ha ?_
      refine sm_go_pl (r := []) rfl rfl (sm_set_s g1) (by rw [List.length_set]; omega) ?_
      exact sm_go_rt (o := none) (i := .return_) (n := 1) rfl ⟨rfl, Or.inr (Or.inr ⟨rfl, rfl, rfl, rfl⟩)⟩ (hQ (u / a) (l / a) _ (by rw [List.set_set]))
    have c1 : ¬ b.toInt = 0 := fun z => c1 ((tp_z b).mpr z)
    have hb : b ≠ 0 := fun z => c1 (by rw [z]; rfl)
    refine sm_go_st (i := .lload 5) (n := 2) (t := (15, [(7, .long b), (5, .long a), (9, .long c), (0, .ref 81), (1, .long u), (3, .long l)], [.long a], h)) rfl rfl ?_
    refine sm_go_st (i := .lload 7) (n := 2) (t := (17, [(7, .long b), (5, .long a), (9, .long c), (0, .ref 81), (1, .long u), (3, .long l)], [.long b, .long a], h)) rfl rfl ?_
    refine sm_go_lr (r := []) rfl hb ?_
    refine sm_go_st (i := .lstore 9) (n := 2) (t := (20, [(9, .long (a - a / b * b)), (7, .long b), (5, .long a), (0, .ref 81), (1, .long u), (3, .long l)], [], h)) rfl rfl ?_
    refine sm_go_st (i := .lload 7) (n := 2) (t := (22, [(9, .long (a - a / b * b)), (7, .long b), (5, .long a), (0, .ref 81), (1, .long u), (3, .long l)], [.long b], h)) rfl rfl ?_
    refine sm_go_st (i := .lstore 5) (n := 2) (t := (24, [(5, .long b), (9, .long (a - a / b * b)), (7, .long b), (0, .ref 81), (1, .long u), (3, .long l)], [], h)) rfl rfl ?_
    refine sm_go_st (i := .lload 9) (n := 2) (t := (26, [(5, .long b), (9, .long (a - a / b * b)), (7, .long b), (0, .ref 81), (1, .long u), (3, .long l)], [.long (a - a / b * b)], h)) rfl rfl ?_
    refine sm_go_st (i := .lstore 7) (n := 2) (t := (28, [(7, .long (a - a / b * b)), (5, .long b), (9, .long (a - a / b * b)), (0, .ref 81), (1, .long u), (3, .long l)], [], h)) rfl rfl ?_
    refine sm_go_st (i := .goto (-22)) (n := 3) (t := (6, [(7, .long (a - a / b * b)), (5, .long b), (9, .long (a - a / b * b)), (0, .ref 81), (1, .long u), (3, .long l)], [], h)) rfl rfl ?_
    have k := tq_r (a := a) (b := b) a1 c1
    exact ih b _ _ b1 (by omega) (Or.inl c1) (by omega)
set_option maxHeartbeats 1000000 in
theorem tq_ok {Psi : List va_E → Prop} (hP : ∀ (h : List va_E) (a : Nat) (e : va_E), a ∉ ai_pc → Psi h → Psi (h.set a e)) {d : Nat} {vs : List aw_V} (hl : 14 ≤ vs.length) (h12 : vs[12]? = some (.inr (true, ar_t64))) (h13 : vs[13]? = some (.inr (true, ar_t64))) : ak_ok Psi (sm_Ex 200 sm_ML sm_B (d + 1)) (tq_c vs) := by
  refine sm_hand (B := tp_B) (show (186 : Nat) < 200 by decide) rfl (show (5 : Nat) ≤ sm_ML 186 by decide +kernel) ?_
  intro ws h hv hh hPs
  match ws, hv with
  | [v0, v1, v2], hv =>
    obtain ⟨e0, e1, e2, -⟩ := hv
    have e0 : v0 = .ref 81 := e0
    have e1 : ∃ x : Int64, v1 = .long x ∧ ar_in x.toInt [(-72057594037927936, 72057594037927936)] := e1
    have e2 : ∃ x : Int64, v2 = .long x ∧ ar_in x.toInt [(1, 1099511627776)] := e2
    obtain ⟨u, rfl, hu⟩ := e1
    obtain ⟨l, rfl, hl1⟩ := e2
    subst e0
    have hu := ar_1 hu
    have hl1 := ar_1 hl1
    obtain ⟨e, g1, fs, rfl, hll, hfs⟩ := hh (81, .inl (3, vs)) List.mem_cons_self
    refine sm_go_st (i := .lload_n 1) (n := 1) (t := (1, [(0, .ref 81), (1, .long u), (3, .long l)], [.long u], h)) rfl rfl ?_
    refine sm_go_st (i := .lstore 5) (n := 2) (t := (3, [(5, .long u), (0, .ref 81), (1, .long u), (3, .long l)], [], h)) rfl rfl ?_
    refine sm_go_st (i := .lload_n 3) (n := 1) (t := (4, [(5, .long u), (0, .ref 81), (1, .long u), (3, .long l)], [.long l], h)) rfl rfl ?_
    refine sm_go_st (i := .lstore 7) (n := 2) (t := (6, [(7, .long l), (5, .long u), (0, .ref 81), (1, .long u), (3, .long l)], [], h)) rfl rfl ?_
    refine sm_go_st (i := .lload 7) (n := 2) (t := (8, [(7, .long l), (5, .long u), (0, .ref 81), (1, .long u), (3, .long l)], [.long l], h)) rfl rfl ?_
    refine sm_go_st (i := .lconst 0) (n := 1) (t := (9, [(7, .long l), (5, .long u), (0, .ref 81), (1, .long u), (3, .long l)], [.long 0, .long l], h)) rfl rfl ?_
    refine sm_go_st (i := .lcmp) (n := 1) (t := (10, [(7, .long l), (5, .long u), (0, .ref 81), (1, .long u), (3, .long l)], [.int (lg_cmp l 0)], h)) rfl rfl ?_
    refine sm_go_if (t := 31) (q := .eq) (off := 21) rfl rfl (fun c1 => ?_) (fun c1 => ?_)
    · exact absurd ((tp_z l).mp c1) (by omega)
    have c1 : ¬ l.toInt = 0 := fun z => c1 ((tp_z l).mpr z)
    have hb : l ≠ 0 := fun z => c1 (by rw [z]; rfl)
    refine sm_go_st (i := .lload 5) (n := 2) (t := (15, [(7, .long l), (5, .long u), (0, .ref 81), (1, .long u), (3, .long l)], [.long u], h)) rfl rfl ?_
    refine sm_go_st (i := .lload 7) (n := 2) (t := (17, [(7, .long l), (5, .long u), (0, .ref 81), (1, .long u), (3, .long l)], [.long l, .long u], h)) rfl rfl ?_
    refine sm_go_lr (r := []) rfl hb ?_
    refine sm_go_st (i := .lstore 9) (n := 2) (t := (20, [(9, .long (u - u / l * l)), (7, .long l), (5, .long u), (0, .ref 81), (1, .long u), (3, .long l)], [], h)) rfl rfl ?_
    refine sm_go_st (i := .lload 7) (n := 2) (t := (22, [(9, .long (u - u / l * l)), (7, .long l), (5, .long u), (0, .ref 81), (1, .long u), (3, .long l)], [.long l], h)) rfl rfl ?_
    refine sm_go_st (i := .lstore 5) (n := 2) (t := (24, [(5, .long l), (9, .long (u - u / l * l)), (7, .long l), (0, .ref 81), (1, .long u), (3, .long l)], [], h)) rfl rfl ?_
    refine sm_go_st (i := .lload 9) (n := 2) (t := (26, [(5, .long l), (9, .long (u - u / l * l)), (7, .long l), (0, .ref 81), (1, .long u), (3, .long l)], [.long (u - u / l * l)], h)) rfl rfl ?_
    refine sm_go_st (i := .lstore 7) (n := 2) (t := (28, [(7, .long (u - u / l * l)), (5, .long l), (9, .long (u - u / l * l)), (0, .ref 81), (1, .long u), (3, .long l)], [], h)) rfl rfl ?_
    refine sm_go_st (i := .goto (-22)) (n := 3) (t := (6, [(7, .long (u - u / l * l)), (5, .long l), (9, .long (u - u / l * l)), (0, .ref 81), (1, .long u), (3, .long l)], [], h)) rfl rfl ?_
    have k := tq_r (a := u) (b := l) (by omega) (by omega)
    refine tq_loop g1 (by omega) ?_ (l.toInt.natAbs + 1) l _ _ (by omega) (by omega) (Or.inl (by omega)) (by omega)
    intro x y h' hh'
    subst hh'
    refine ⟨hP _ _ _ (by decide) hPs, fun b hb => List.getElem?_set_ne (fun z => hb (by rw [← z]; exact List.mem_cons_self)), _, List.mem_cons_self, trivial, trivial, fun q hq => ?_⟩
    rw [List.mem_singleton] at hq
    subst hq
    refine ⟨_, sm_set_s g1, _, rfl, by rw [List.length_set, List.length_set]; exact hll, fun k v w hk hw => ?_⟩
    by_cases k13 : k = 13
    · subst k13
      rw [List.getElem?_set_self (by rw [List.length_set]; omega)] at hw
      rw [h13] at hk
      cases hk
      cases hw
      exact ⟨y, rfl, ar_in64 y⟩
    rw [List.getElem?_set_ne (fun z => k13 z.symm)] at hw
    by_cases k12 : k = 12
    · subst k12
      rw [List.getElem?_set_self (by omega)] at hw
      rw [h12] at hk
      cases hk
      cases hw
      exact ⟨x, rfl, ar_in64 x⟩
    rw [List.getElem?_set_ne (fun z => k12 z.symm)] at hw
    exact hfs k v w hk hw
  | [], hv => exact hv.elim
  | [_], hv => exact hv.2.elim
  | [_, _], hv => exact hv.2.2.elim
  | _ :: _ :: _ :: _ :: _, hv => exact hv.2.2.2.elim

