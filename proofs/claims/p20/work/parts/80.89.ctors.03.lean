theorem si_d3 : ∀ u ∈ si_t3, ∀ q ∈ u.2, decode prog_5_method_1_code q.1 = .ok q.2 := by decide +kernel
def si_stop (k : Nat) : Nat := match k with
  | 0 => 33
  | 1 => 90
  | 2 => 211
  | _ => 210
def si_tb (k : Nat) : List (Nat × List (Nat × Instr × Nat)) := match k with
  | 0 => si_t0
  | 1 => si_t1
  | 2 => si_t2
  | _ => si_t3
theorem si_dec : ∀ (k : Nat) (pc : Nat) (i : Instr) (n : Nat), sm_ch (si_tb k) pc = some (i, n) → decode (si_CC k) pc = .ok (i, n)
  | 0, pc, i, n, h => by
    obtain ⟨u, hu, hm⟩ := sm_ch_s h
    exact si_d0 u hu (pc, i, n) hm
  | 1, pc, i, n, h => by
    obtain ⟨u, hu, hm⟩ := sm_ch_s h
    exact si_d1 u hu (pc, i, n) hm
  | 2, pc, i, n, h => by
    obtain ⟨u, hu, hm⟩ := sm_ch_s h
    exact si_d2 u hu (pc, i, n) hm
  | k + 3, pc, i, n, h => by
    obtain ⟨u, hu, hm⟩ := sm_ch_s h
    exact si_d3 u hu (pc, i, n) hm
def si_nw (o x : Nat) : Option (Nat × List Value) := match o, x with
  | 2, 26 => some (1, si_df 1)
  | 2, 39 => some (0, si_df 0)
  | 4, 7 => some (2, si_df 2)
  | 4, 10 => some (3, si_df 3)
  | _, _ => none
def si_mn (o x : Nat) : Option Nat := match o, x with
  | 2, 13 => some 2
  | 2, 21 => some 3
  | _, _ => none
def si_an (o x : Nat) : Bool := match o, x with
  | 2, 39 => true
  | _, _ => false
def si_sp (o x : Nat) : Option (Option Nat) := match o, x with
  | 0, 3 => some none
  | 1, 3 => some none
  | 2, 1 => some none
  | 3, 1 => some none
  | 2, 28 => some (some 1)
  | 2, 41 => some (some 0)
  | 4, 9 => some (some 2)
  | 4, 12 => some (some 3)
  | _, _ => none
