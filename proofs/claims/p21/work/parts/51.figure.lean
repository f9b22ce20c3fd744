/-! The reference's in and figure by hand. -/
def in_B : sm_P := (fun pc => sm_ch sm_t105 pc, sm_Kn 3 6 none, fun x => sm_lk sm_ca3 x, some .boolean)
theorem in_run {d : Nat} (a b c : Int64) (h : List va_E) : ∃ r : Int32, sm_Ex 200 sm_ML sm_B (d + 1) 105 [.long a, .long b, .long c] h (some (.int r)) h ∧ (¬ r.toInt = 0 → b.toInt ≤ a.toInt ∧ a.toInt ≤ c.toInt) := by
  have run : sm_Go in_B (sm_Ex 200 sm_ML sm_B d) (fun o h' => h' = h ∧ ∃ r : Int32, o = some (.int r) ∧ (¬ r.toInt = 0 → b.toInt ≤ a.toInt ∧ a.toInt ≤ c.toInt)) 0 [(0, .long a), (2, .long b), (4, .long c)] [] h := by
    have no : sm_Go in_B (sm_Ex 200 sm_ML sm_B d) (fun o h' => h' = h ∧ ∃ r : Int32, o = some (.int r) ∧ (¬ r.toInt = 0 → b.toInt ≤ a.toInt ∧ a.toInt ≤ c.toInt)) 17 [(0, .long a), (2, .long b), (4, .long c)] [] h := by
      refine sm_go_st (i := .iconst 0) (n := 1) (t := (18, [(0, .long a), (2, .long b), (4, .long c)], [.int 0], h)) rfl rfl ?_
      exact sm_go_rt (o := some (.int 0)) (i := .ireturn) (n := 1) rfl ⟨rfl, Or.inl ⟨rfl, 0, rfl, rfl, Or.inr ⟨rfl, Or.inl rfl⟩⟩⟩ ⟨rfl, 0, rfl, fun z => absurd (show (0 : Int32).toInt = 0 from rfl) z⟩
    refine sm_go_st (i := .lload_n 0) (n := 1) (t := (1, [(0, .long a), (2, .long b), (4, .long c)], [.long a], h)) rfl rfl ?_
    refine sm_go_st (i := .lload_n 2) (n := 1) (t := (2, [(0, .long a), (2, .long b), (4, .long c)], [.long b, .long a], h)) rfl rfl ?_
    refine sm_go_st (i := .lcmp) (n := 1) (t := (3, [(0, .long a), (2, .long b), (4, .long c)], [.int (lg_cmp a b)], h)) rfl rfl ?_
    refine sm_go_if (t := 17) (q := .lt) (off := 14) rfl rfl (fun _ => no) (fun c1 => ?_)
    have c1 : ¬ a.toInt < b.toInt := fun z => c1 ((ar_smcmp .lt (lg_cmp a b) 0).mp ((aw_lcmp .lt a b).mpr z))
    refine sm_go_st (i := .lload_n 0) (n := 1) (t := (7, [(0, .long a), (2, .long b), (4, .long c)], [.long a], h)) rfl rfl ?_
    refine sm_go_st (i := .lload 4) (n := 2) (t := (9, [(0, .long a), (2, .long b), (4, .long c)], [.long c, .long a], h)) rfl rfl ?_
    refine sm_go_st (i := .lcmp) (n := 1) (t := (10, [(0, .long a), (2, .long b), (4, .long c)], [.int (lg_cmp a c)], h)) rfl rfl ?_
    refine sm_go_if (t := 17) (q := .gt) (off := 7) rfl rfl (fun _ => no) (fun c2 => ?_)
    have c2 : ¬ c.toInt < a.toInt := fun z => c2 ((ar_smcmp .gt (lg_cmp a c) 0).mp ((aw_lcmp .gt a c).mpr z))
    refine sm_go_st (i := .iconst 1) (n := 1) (t := (14, [(0, .long a), (2, .long b), (4, .long c)], [.int 1], h)) rfl rfl ?_
    refine sm_go_st (i := .goto 4) (n := 3) (t := (18, [(0, .long a), (2, .long b), (4, .long c)], [.int 1], h)) rfl rfl ?_
    exact sm_go_rt (o := some (.int 1)) (i := .ireturn) (n := 1) rfl ⟨rfl, Or.inl ⟨rfl, 1, rfl, rfl, Or.inr ⟨rfl, Or.inr rfl⟩⟩⟩ ⟨rfl, 1, rfl, fun _ => ⟨by omega, by omega⟩⟩
  obtain ⟨f, o, h', hr, rfl, r, rfl, hrr⟩ := run
  exact ⟨r, ⟨by decide, show (6 : Nat) ≤ sm_ML 105 by decide +kernel, f, hr⟩, hrr⟩
theorem fg_sub {x : Int32} (h : -2147483647 ≤ x.toInt) : (x - 1).toInt = x.toInt - 1 := by
  rw [Int32.toInt_sub]
  have := x.toInt_lt
  show (x.toInt - 1).bmod (2 ^ 32) = _
  exact Int.bmod_eq_of_le (by omega) (by omega)
