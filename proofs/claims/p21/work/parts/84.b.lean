def lf (M : fl_M) (j : Nat) : Int := (M 96 j).toInt
theorem dw_le {a b : Int} {N : Nat} (h1 : a < b) (h2 : b ≤ ((N + 1 : Nat) : Int)) : a ≤ (N : Int) := by omega
theorem dw_neg {l : Nat → Int} {T : Int} (h : T < 0) (N : Nat) : dw_m l T ≤ (N : Int) := by
  unfold dw_m
  rw [if_pos h]
  omega
theorem dw_s1 {R M M' : fl_M} {T : Int} {k : Nat} (hT : T = (k : Int)) (h4 : k < 4) (hD : DI R M T) (h8 : (M 96 k).toInt ≤ 8) (hf : fD R M') (hu : ∀ j, j < 4 → (M' 96 j).toInt = if j = k then (M 96 k).toInt + 1 else (M 96 j).toInt) : DI R M' T ∧ dw_m (lf M') T < dw_m (lf M) T := by
  subst hT
  refine ⟨⟨hf, fun j hj => ?_, fun j hj => ?_⟩, dw_m1 h4 hu⟩
  · have := hD.2.1 j hj
    have := hD.2.1 k h4
    rw [hu j hj]
    split <;> omega
  · rw [hu j (by omega), if_neg (by omega)]
    exact hD.2.2 j hj
theorem dw_s2 {R M M' : fl_M} {T T' : Int} {k : Nat} (hT : T = (k : Int)) (hT' : T' = T + 1) (h4 : k + 1 < 4) (hD : DI R M T) (h8 : (M 96 k).toInt ≤ 8) (hf : fD R M') (hu : ∀ j, j < 4 → (M' 96 j).toInt = if j = k + 1 then 0 else (M 96 j).toInt) : DI R M' T' ∧ dw_m (lf M') T' < dw_m (lf M) T := by
  have e : T' = ((k + 1 : Nat) : Int) := by omega
  subst hT
  rw [e]
  refine ⟨⟨hf, fun j hj => ?_, fun j hj => ?_⟩, dw_m2 h4 hu⟩
  · have := hD.2.1 j hj
    rw [hu j hj]
    split <;> omega
  · rw [hu j (by omega), if_neg (by omega)]
    by_cases hj2 : j = k
    · rw [hj2]; exact h8
    · exact hD.2.2 j (by omega)
theorem dw_s3 {R M M' : fl_M} {T T' : Int} {k : Nat} (hT : T = ((k + 1 : Nat) : Int)) (hT' : T' = (k : Int)) (h4 : k + 1 < 4) (hD : DI R M T) (hf : fD R M') (hu : ∀ j, j < 4 → (M' 96 j).toInt = if j = k then (M 96 k).toInt + 1 else (M 96 j).toInt) : DI R M' T' ∧ dw_m (lf M') T' < dw_m (lf M) T := by
  have h8 := hD.2.2 k (by omega)
  have h9 := (hD.2.1 (k + 1) h4).2
  subst hT
  subst hT'
  refine ⟨⟨hf, fun j hj => ?_, fun j hj => ?_⟩, dw_m3 h4 h9 hu⟩
  · have := hD.2.1 j hj
    have := hD.2.1 k (by omega)
    rw [hu j hj]
    split <;> omega
  · rw [hu j (by omega), if_neg (by omega)]
    exact hD.2.2 j (by omega)
theorem dw_j {j : Nat} {x : Int} (a : (j : Int) < x) (b : x < 0) : False := by omega
theorem dw_p1 {tu : Int32} (h0 : 0 ≤ tu.toInt) (h4 : tu.toInt < 4) : (tu + (-1)).toInt = tu.toInt - 1 := by
  have em : (-1 : Int32).toInt = -1 := rfl
  rw [fi_add (by rw [em]; omega) (by rw [em]; omega), em]
  rfl
theorem dw_p2 {tu tp tt : Int32} (ep : tp.toInt = tu.toInt - 1) (h0 : 0 ≤ tu.toInt) (h1 : tu.toInt < tt.toInt) (t4 : tt.toInt ≤ 4) : -1 ≤ tp.toInt ∧ tp.toInt < tt.toInt ∧ (0 ≤ tp.toInt → tu.toInt = ((tp.toNatClampNeg + 1 : Nat) : Int) ∧ tp.toInt = (tp.toNatClampNeg : Int) ∧ tp.toNatClampNeg + 1 < 4 ∧ (tp.toNatClampNeg : Int) < tu.toInt) := by
  have cp := fi_cl tp
  have cu := fi_cl tu
  exact ⟨by omega, by omega, fun _ => ⟨by omega, by omega, by omega, by omega⟩⟩
