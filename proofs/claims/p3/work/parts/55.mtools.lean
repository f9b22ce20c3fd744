/-! The hand-walked contracts of the reference, as they are met in the printed ones. -/
section MTOOLS
variable {Psi : List va_E → Prop} {d p : Nat} {vs : List aw_V} {re re' rl rm : ar_R} {lo hi : Int} {E2 : List (List ar_R × Option aw_V × aw_H)}
theorem fg_k (hP : ∀ (h : List va_E) (a : Nat) (e : va_E), a ∉ ai_pc → Psi h → Psi (h.set a e)) (v10 : vs[10]? = some (.inl 90)) (v16 : vs[16]? = some (.inr (false, [(0, 180)]))) (v17 : vs[17]? = some (.inr (false, [((p : Int), (p : Int))]))) (v18 : vs[18]? = some (.inr (false, re))) (b : (decide ((p : Int) ≤ (ar_h re).1) && (decide ((ar_h re).2 ≤ 60) && (ar_sub (ar_ge re ((p : Int) + 1)) re' && (decide (lo ≤ (ar_h rl).1) && (decide (-1000 ≤ (ar_h rl).1) && (decide ((ar_h rl).2 ≤ 1000) && (decide ((ar_h rm).2 ≤ hi) && (decide (-1000 ≤ (ar_h rm).1) && decide ((ar_h rm).2 ≤ 1000))))))))) = true) (hE : (∃ x, ar_in x re ∧ (p : Int) + 1 ≤ x) → lo ≤ hi → fg_e vs p lo hi re' ∈ E2) : ak_ok Psi (sm_Ex 200 sm_ML sm_B (d + 2)) (fg_c vs rl rm E2) := by
  obtain ⟨b1, b⟩ := sm_an b
  obtain ⟨b2, b⟩ := sm_an b
  obtain ⟨b3, b⟩ := sm_an b
  obtain ⟨b4, b⟩ := sm_an b
  obtain ⟨b5, b⟩ := sm_an b
  obtain ⟨b6, b⟩ := sm_an b
  obtain ⟨b7, b⟩ := sm_an b
  obtain ⟨b8, b9⟩ := sm_an b
  have b1 := of_decide_eq_true b1
  have b2 := of_decide_eq_true b2
  have b4 := of_decide_eq_true b4
  have b5 := of_decide_eq_true b5
  have b6 := of_decide_eq_true b6
  have b7 := of_decide_eq_true b7
  have b8 := of_decide_eq_true b8
  have b9 := of_decide_eq_true b9
  refine fg_ok hP v10 v16 v17 v18 (fun x hx => ?_) (fun x hx hp => ar_sub_s b3 (ar_ge_s hx hp)) (fun x hx => ?_) (fun x hx => ?_) hE
  · have := ar_h_s hx
    omega
  · have := ar_h_s hx
    omega
  · have := ar_h_s hx
    omega
/-- no second end: nothing is left to read, or no figure would do -/
theorem fg_0 (b : (decide ((ar_h re).2 ≤ (p : Int)) || decide (hi < lo)) = true) : (∃ x, ar_in x re ∧ (p : Int) + 1 ≤ x) → lo ≤ hi → fg_e vs p lo hi re' ∈ E2 := by
  intro hx hl
  obtain ⟨x, h1, h2⟩ := hx
  have k := ar_h_s h1
  rcases (Bool.or_eq_true _ _).mp b with b | b
  · have b := of_decide_eq_true b
    omega
  · have b := of_decide_eq_true b
    omega
theorem sk_k (hP : ∀ (h : List va_E) (a : Nat) (e : va_E), a ∉ ai_pc → Psi h → Psi (h.set a e)) {js : List Nat} {m : Nat} (v10 : vs[10]? = some (.inl 90)) (v16 : vs[16]? = some (.inr (false, [(0, 180)]))) (v17 : vs[17]? = some (.inr (false, [((p : Int), (p : Int))]))) (v18 : vs[18]? = some (.inr (false, re))) (b : (decide ((ar_h re).2 ≤ (m : Int)) && (decide (m ≤ 60) && (decide (p ≤ m) && (List.range (m + 1)).all fun j => decide (j < p) || decide (j ∈ js)))) = true) : ak_ok Psi (sm_Ex 200 sm_ML sm_B (d + 2)) (sk_c vs js) := by
  obtain ⟨b1, b⟩ := sm_an b
  obtain ⟨b2, b⟩ := sm_an b
  obtain ⟨b3, b4⟩ := sm_an b
  have b1 := of_decide_eq_true b1
  have b2 := of_decide_eq_true b2
  have b3 := of_decide_eq_true b3
  refine sk_ok hP (hi := (m : Int)) v10 v16 v17 v18 (fun x hx => ?_) (by omega) (fun j h1 h2 => ?_)
  · have := ar_h_s hx
    omega
  · have k := List.all_eq_true.mp b4 j (List.mem_range.mpr (by omega))
    rcases (Bool.or_eq_true _ _).mp k with k | k
    · have k := of_decide_eq_true k
      omega
    · exact of_decide_eq_true k
end MTOOLS
