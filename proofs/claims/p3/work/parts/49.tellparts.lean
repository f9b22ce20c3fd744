/-! The reference's tellParts by hand: the greatest common divisor is never nothing. -/
section HANDL
variable {B : sm_P} {X : sm_X} {P : Option Value → List va_E → Prop} {pc : Nat} {lv : sm_L} {h : List va_E}
theorem sm_go_ld {x y : Int64} {r : List Value} (hi : B.1 pc = some (.ldiv, 1)) (hy : y ≠ 0) (k : sm_Go B X P (pc + 1) lv (.long (x / y) :: r) h) : sm_Go B X P pc lv (.long y :: .long x :: r) h := by
  refine sm_go_st (t := (pc + 1, lv, .long (x / y) :: r, h)) hi ?_ k
  show (if y = 0 then _ else _) = _
  rw [if_neg hy]
theorem sm_go_lr {x y : Int64} {r : List Value} (hi : B.1 pc = some (.lrem, 1)) (hy : y ≠ 0) (k : sm_Go B X P (pc + 1) lv (.long (x - x / y * y) :: r) h) : sm_Go B X P pc lv (.long y :: .long x :: r) h := by
  refine sm_go_st (t := (pc + 1, lv, .long (x - x / y * y) :: r, h)) hi ?_ k
  show (if y = 0 then _ else _) = _
  rw [if_neg hy]
theorem sm_go_pl {x ci k a : Nat} {fs : List Value} {v : Int64} {r : List Value} (hi : B.1 pc = some (.putfield x, 3)) (hf : B.2.1.1 x = some (ci, k, 1)) (he : h[a]? = some (.inr (ci, fs))) (hl : k < fs.length) (kk : sm_Go B X P (pc + 3) lv r (h.set a (.inr (ci, fs.set k (.long v))))) : sm_Go B X P pc lv (.long v :: .ref a :: r) h := by
  refine sm_go_st (t := (pc + 3, lv, r, h.set a (.inr (ci, fs.set k (.long v))))) hi ?_ kk
  have ho : sm_obj h a ci = some fs := by unfold sm_obj; rw [he]; exact if_pos rfl
  show (B.2.1.1 x).bind _ = _
  rw [hf]
  show (if (1 : Nat) = 1 then (sm_obj h a ci).bind (fun fs => if k < fs.length then some (pc + 3, lv, r, h.set a (.inr (ci, fs.set k (.long v)))) else none) else none) = _
  rw [if_pos rfl, ho]
  show (if k < fs.length then _ else _) = _
  rw [if_pos hl]
end HANDL
theorem tp_z (b : Int64) : (lg_cmp b 0).toInt = 0 ↔ b.toInt = 0 := (ar_smcmp .eq (lg_cmp b 0) 0).symm.trans (aw_lcmp .eq b 0)
def tp_B : sm_P := (fun pc => sm_ch sm_t186 pc, sm_Kn 3 11 none, fun x => sm_lk sm_ca3 x, none)
def tp_c (vs : List aw_V) : ak_C := (186, [.inl 81, .inr (true, [(0, 1099511627776)]), .inr (true, [(1, 1099511627776)])], [(81, .inl (3, vs))], [81], [([], none, [(81, .inl (3, vs))])])
theorem tp_r {a b : Int64} (h1 : 0 ≤ a.toInt) (h2 : 1 ≤ b.toInt) : 0 ≤ (a - a / b * b).toInt ∧ (a - a / b * b).toInt < b.toInt := by
  rw [ar_lrem_eq a b h2]
  exact ⟨Int.tmod_nonneg _ h1, Int.tmod_lt_of_pos _ (by omega)⟩
set_option maxHeartbeats 2000000 in
theorem tp_loop {X : sm_X} {Q : Option Value → List va_E → Prop} {fs : List Value} {h : List va_E} {u l : Int64} (g1 : h[81]? = some (.inr (3, fs))) (hl : 14 ≤ fs.length) (hQ : ∀ (x y : Int64) (h' : List va_E), h' = h.set 81 (.inr (3, (fs.set 12 (.long x)).set 13 (.long y))) → Q none h') : ∀ (n : Nat) (a b c : Int64), 0 ≤ a.toInt → 0 ≤ b.toInt → 1 ≤ a.toInt + b.toInt → b.toInt.toNat < n → sm_Go tp_B X Q 6 [(7, .long b), (5, .long a), (9, .long c), (0, .ref 81), (1, .long u), (3, .long l)] [] h := by
  intro n
  induction n with
  | zero => intro a b c _ _ _ h3; exact absurd h3 (Nat.not_lt_zero _)
  | succ n ih =>
    intro a b c a1 b1 ha1 h3
    refine sm_go_st (i := .lload 7) (n := 2) (t := (8, [(7, .long b), (5, .long a), (9, .long c), (0, .ref 81), (1, .long u), (3, .long l)], [.long b], h)) rfl rfl ?_
    refine sm_go_st (i := .lconst 0) (n := 1) (t := (9, [(7, .long b), (5, .long a), (9, .long c), (0, .ref 81), (1, .long u), (3, .long l)], [.long 0, .long b], h)) rfl rfl ?_
    refine sm_go_st (i := .lcmp) (n := 1) (t := (10, [(7, .long b), (5, .long a), (9, .long c), (0, .ref 81), (1, .long u), (3, .long l)], [.int (lg_cmp b 0)], h)) rfl rfl ?_
    refine sm_go_if (t := 31) (q := .eq) (off := 21) rfl rfl (fun c1 => ?_) (fun c1 => ?_)
    · have c1 : b.toInt = 0 := (tp_z b).mp c1
      have ha : a ≠ 0 := fun z => by
        rw [z] at ha1
        have : (0 : Int64).toInt = 0 := rfl
        omega
      refine sm_go_st (i := .aload_n 0) (n := 1) (t := (32, [(7, .long b), (5, .long a), (9, .long c), (0, .ref 81), (1, .long u), (3, .long l)], [.ref 81], h)) rfl rfl ?_
      refine sm_go_st (i := .lload_n 1) (n := 1) (t := (33, [(7, .long b), (5, .long a), (9, .long c), (0, .ref 81), (1, .long u), (3, .long l)], [.long u, .ref 81], h)) rfl rfl ?_
      refine sm_go_st (i := .lload 5) (n := 2) (t := (35, [(7, .long b), (5, .long a), (9, .long c), (0, .ref 81), (1, .long u), (3, .long l)], [.long a, .long u, .ref 81], h)) rfl rfl ?_
      refine sm_go_ld (r := [.ref 81]) rfl ha ?_
      refine sm_go_pl (r := []) rfl rfl g1 (by omega) ?_
      refine sm_go_st (i := .aload_n 0) (n := 1) (t := (40, [(7, .long b), (5, .long a), (9, .long c), (0, .ref 81), (1, .long u), (3, .long l)], [.ref 81], (h.set 81 (.inr (3, fs.set 12 (.long (u / a))))))) rfl rfl ?_
      refine sm_go_st (i := .lload_n 3) (n := 1) (t := (41, [(7, .long b), (5, .long a), (9, .long c), (0, .ref 81), (1, .long u), (3, .long l)], [.long l, .ref 81], (h.set 81 (.inr (3, fs.set 12 (.long (u / a))))))) rfl rfl ?_
      refine sm_go_st (i := .lload 5) (n := 2) (t := (43, [(7, .long b), (5, .long a), (9, .long c), (0, .ref 81), (1, .long u), (3, .long l)], [.long a, .long l, .ref 81], (h.set 81 (.inr (3, fs.set 12 (.long (u / a))))))) rfl rfl ?_
      refine sm_go_ld (r := [.ref 81]) rfl ha ?_
      refine sm_go_pl (r := []) rfl rfl (sm_set_s g1) (by rw [List.length_set]; omega) ?_
      exact sm_go_rt (o := none) (i := .return_) (n := 1) rfl ⟨rfl, Or.inr (Or.inr ⟨rfl, rfl, rfl, rfl⟩)⟩ (hQ (u / a) (l / a) _ (by rw [List.set_set]))
    have c1 : ¬ b.toInt = 0 := fun z => c1 ((tp_z b).mpr z)
    have hb : b ≠ 0 := fun z => c1 (by rw [z]; rfl)
    refine sm_go_st (i := .lload 5) (n := 2) (t := (15, [(7, .long b), (5, .long a), (9, .long c), (0, .ref 81), (1, .long u), (3, .long l)], [.long a], h)) rfl rfl ?_
    refine sm_go_st (i := .lload 7) (n := 2) (t := (17, [(7, .long b), (5, .long a), (9, .long c), (0, .ref 81), (1, .long u), (3, .long l)], [.long b, .long a], h)) rfl rfl ?_
    refine sm_go_lr (r := []) rfl hb ?_
    refine sm_go_st (i := .lstore 9) (n := 2) (t := (20, [(9, .long (a - a / b * b)), (7, .long b), (5, .long a), (0, .ref 81), (1, .long u), (3, .long l)], [], h)) rfl rfl ?_
    refine sm_go_st (i := .lload 7) (n := 2) (t := (22, [(9, .long (a - a / b * b)), (7, .long b), (5, .long a), (0, .ref 81), (1, .long u), (3, .long l)], [.long b], h)) rfl rfl ?_
    refine sm_go_st (i := .lstore 5) (n := 2) (t := (24, [(5, .long b), (9, .long (a - a / b * b)), (7, .long b), (0, .ref 81), (1, .long u), (3, .long l)], [], h)) rfl rfl ?_
    refine sm_go_st (i := .lload 9) (n := 2) (t := (26, [(5, .long b), (9, .long (a - a / b * b)), (7, .long b), (0, .ref 81), (1, .long u), (3, .long l)], [.long (a - a / b * b)], h)) rfl rfl ?_
    refine sm_go_st (i := .lstore 7) (n := 2) (t := (28, [(7, .long (a - a / b * b)), (5, .long b), (9, .long (a - a / b * b)), (0, .ref 81), (1, .long u), (3, .long l)], [], h)) rfl rfl ?_
    refine sm_go_st (i := .goto (-22)) (n := 3) (t := (6, [(7, .long (a - a / b * b)), (5, .long b), (9, .long (a - a / b * b)), (0, .ref 81), (1, .long u), (3, .long l)], [], h)) rfl rfl ?_
    have k := tp_r (a := a) (b := b) a1 (by omega)
    exact ih b _ _ (by omega) (by omega) (by omega) (by omega)
set_option maxHeartbeats 1000000 in
theorem tp_ok {Psi : List va_E → Prop} (hP : ∀ (h : List va_E) (a : Nat) (e : va_E), a ∉ ai_pc → Psi h → Psi (h.set a e)) {d : Nat} {vs : List aw_V} (hl : 14 ≤ vs.length) (h12 : vs[12]? = some (.inr (true, ar_t64))) (h13 : vs[13]? = some (.inr (true, ar_t64))) : ak_ok Psi (sm_Ex 200 sm_ML sm_B (d + 1)) (tp_c vs) := by
  refine sm_hand (B := tp_B) (show (186 : Nat) < 200 by decide) rfl (show (5 : Nat) ≤ sm_ML 186 by decide +kernel) ?_
  intro ws h hv hh hPs
  match ws, hv with
  | [v0, v1, v2], hv =>
    obtain ⟨e0, e1, e2, -⟩ := hv
    have e0 : v0 = .ref 81 := e0
    have e1 : ∃ x : Int64, v1 = .long x ∧ ar_in x.toInt [(0, 1099511627776)] := e1
    have e2 : ∃ x : Int64, v2 = .long x ∧ ar_in x.toInt [(1, 1099511627776)] := e2
    obtain ⟨u, rfl, hu⟩ := e1
    obtain ⟨l, rfl, hl1⟩ := e2
    subst e0
    have hu := ar_1 hu
    have hl1 := ar_1 hl1
    obtain ⟨e, g1, fs, rfl, hll, hfs⟩ := hh (81, .inl (3, vs)) List.mem_cons_self
    refine sm_go_st (i := .lload_n 1) (n := 1) (t := (1, [(0, .ref 81), (1, .long u), (3, .long l)], [.long u], h)) rfl rfl ?_
    refine sm_go_st (i := .lstore 5) (n := 2) (t := (3, [(5, .long u), (0, .ref 81), (1, .long u), (3, .long l)], [], h)) rfl rfl ?_
    refine sm_go_st (i := .lload_n 3) (n := 1) (t := (4, [(5, .long u), (0, .ref 81), (1, .long u), (3, .long l)], [.long l], h)) rfl rfl ?_
    refine sm_go_st (i := .lstore 7) (n := 2) (t := (6, [(7, .long l), (5, .long u), (0, .ref 81), (1, .long u), (3, .long l)], [], h)) rfl rfl ?_
    refine sm_go_st (i := .lload 7) (n := 2) (t := (8, [(7, .long l), (5, .long u), (0, .ref 81), (1, .long u), (3, .long l)], [.long l], h)) rfl rfl ?_
    refine sm_go_st (i := .lconst 0) (n := 1) (t := (9, [(7, .long l), (5, .long u), (0, .ref 81), (1, .long u), (3, .long l)], [.long 0, .long l], h)) rfl rfl ?_
    refine sm_go_st (i := .lcmp) (n := 1) (t := (10, [(7, .long l), (5, .long u), (0, .ref 81), (1, .long u), (3, .long l)], [.int (lg_cmp l 0)], h)) rfl rfl ?_
    refine sm_go_if (t := 31) (q := .eq) (off := 21) rfl rfl (fun c1 => ?_) (fun c1 => ?_)
    · exact absurd ((tp_z l).mp c1) (by omega)
    have c1 : ¬ l.toInt = 0 := fun z => c1 ((tp_z l).mpr z)
    have hb : l ≠ 0 := fun z => c1 (by rw [z]; rfl)
    refine sm_go_st (i := .lload 5) (n := 2) (t := (15, [(7, .long l), (5, .long u), (0, .ref 81), (1, .long u), (3, .long l)], [.long u], h)) rfl rfl ?_
    refine sm_go_st (i := .lload 7) (n := 2) (t := (17, [(7, .long l), (5, .long u), (0, .ref 81), (1, .long u), (3, .long l)], [.long l, .long u], h)) rfl rfl ?_
    refine sm_go_lr (r := []) rfl hb ?_
    refine sm_go_st (i := .lstore 9) (n := 2) (t := (20, [(9, .long (u - u / l * l)), (7, .long l), (5, .long u), (0, .ref 81), (1, .long u), (3, .long l)], [], h)) rfl rfl ?_
    refine sm_go_st (i := .lload 7) (n := 2) (t := (22, [(9, .long (u - u / l * l)), (7, .long l), (5, .long u), (0, .ref 81), (1, .long u), (3, .long l)], [.long l], h)) rfl rfl ?_
    refine sm_go_st (i := .lstore 5) (n := 2) (t := (24, [(5, .long l), (9, .long (u - u / l * l)), (7, .long l), (0, .ref 81), (1, .long u), (3, .long l)], [], h)) rfl rfl ?_
    refine sm_go_st (i := .lload 9) (n := 2) (t := (26, [(5, .long l), (9, .long (u - u / l * l)), (7, .long l), (0, .ref 81), (1, .long u), (3, .long l)], [.long (u - u / l * l)], h)) rfl rfl ?_
    refine sm_go_st (i := .lstore 7) (n := 2) (t := (28, [(7, .long (u - u / l * l)), (5, .long l), (9, .long (u - u / l * l)), (0, .ref 81), (1, .long u), (3, .long l)], [], h)) rfl rfl ?_
    refine sm_go_st (i := .goto (-22)) (n := 3) (t := (6, [(7, .long (u - u / l * l)), (5, .long l), (9, .long (u - u / l * l)), (0, .ref 81), (1, .long u), (3, .long l)], [], h)) rfl rfl ?_
    have k := tp_r (a := u) (b := l) hu.1 hl1.1
    refine tp_loop g1 (by omega) ?_ (l.toInt.toNat + 1) l _ _ (by omega) (by omega) (by omega) (by omega)
    intro x y h' hh'
    subst hh'
    refine ⟨hP _ _ _ (by decide) hPs, fun b hb => List.getElem?_set_ne (fun z => hb (by rw [← z]; exact List.mem_cons_self)), _, List.mem_cons_self, trivial, trivial, fun q hq => ?_⟩
    rw [List.mem_singleton] at hq
    subst hq
    refine ⟨_, sm_set_s g1, _, rfl, by rw [List.length_set, List.length_set]; exact hll, fun k v w hk hw => ?_⟩
    by_cases k13 : k = 13
    · subst k13
      rw [List.getElem?_set_self (by rw [List.length_set]; omega)] at hw
      rw [h13] at hk
      cases hk
      cases hw
      exact ⟨y, rfl, ar_in64 y⟩
    rw [List.getElem?_set_ne (fun z => k13 z.symm)] at hw
    by_cases k12 : k = 12
    · subst k12
      rw [List.getElem?_set_self (by omega)] at hw
      rw [h12] at hk
      cases hk
      cases hw
      exact ⟨x, rfl, ar_in64 x⟩
    rw [List.getElem?_set_ne (fun z => k12 z.symm)] at hw
    exact hfs k v w hk hw
  | [], hv => exact hv.elim
  | [_], hv => exact hv.2.elim
  | [_, _], hv => exact hv.2.2.elim
  | _ :: _ :: _ :: _ :: _, hv => exact hv.2.2.2.elim
