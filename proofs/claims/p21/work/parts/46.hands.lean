/-! What was walked by hand, gathered: all contracts of the class hold. -/
theorem ko_perm {Psi : List va_E → Prop} {X : sm_X} {k : Nat} {A : List aw_V} {H H' : aw_H} {W : List Nat} {E : List (List ar_R × Option aw_V × aw_H)} (hs : ∀ q ∈ H, q ∈ H') (hc : ak_ok Psi X (k, A, H, W, E)) : ak_ok Psi X (k, A, H', W, E) :=
  fun vs h hv hh hp => hc vs h hv (fun q hq => hh q (hs q hq)) hp
theorem ko_sw {q r : Nat × aw_A} : ∀ x ∈ [q, r], x ∈ [r, q] := by
  intro x hx
  simp only [List.mem_cons, List.not_mem_nil, or_false] at hx ⊢
  exact hx.symm
theorem ko_d2 : ak_ok ps_h (sm_Ex 200 sm_ML sm_B 1) kcc2 :=
  ko_perm (H := [(47, dt_o 47 [(-1, 40)]), (42, dt_o 42 [(0, 40)])]) ko_sw (dt_ok (d := 0) (t := 47) (o := 42) (rt := [(-1, 40)]) (by decide) (by decide) (by decide) (by decide) (by decide))
theorem ko_d3 : ak_ok ps_h (sm_Ex 200 sm_ML sm_B 1) kcc3 :=
  dt_ok (d := 0) (t := 42) (o := 47) (rt := [(0, 40)]) (by decide) (by decide) (by decide) (by decide) (by decide)
theorem ko_d4 : ak_ok ps_h (sm_Ex 200 sm_ML sm_B 1) kcc4 :=
  ko_perm (H := [(51, dt_o 51 [(-1, 40)]), (42, dt_o 42 [(0, 40)])]) ko_sw (dt_ok (d := 0) (t := 51) (o := 42) (rt := [(-1, 40)]) (by decide) (by decide) (by decide) (by decide) (by decide))
theorem ko_d5 : ak_ok ps_h (sm_Ex 200 sm_ML sm_B 1) kcc5 :=
  dt_ok (d := 0) (t := 42) (o := 51) (rt := [(0, 40)]) (by decide) (by decide) (by decide) (by decide) (by decide)
theorem ko_d6 : ak_ok ps_h (sm_Ex 200 sm_ML sm_B 1) kcc6 :=
  ko_perm (H := [(55, dt_o 55 [(-1, 40)]), (42, dt_o 42 [(0, 40)])]) ko_sw (dt_ok (d := 0) (t := 55) (o := 42) (rt := [(-1, 40)]) (by decide) (by decide) (by decide) (by decide) (by decide))
theorem ko_d7 : ak_ok ps_h (sm_Ex 200 sm_ML sm_B 1) kcc7 :=
  dt_ok (d := 0) (t := 42) (o := 55) (rt := [(0, 40)]) (by decide) (by decide) (by decide) (by decide) (by decide)
theorem ko_a0 : ak_ok ps_h (sm_Ex 200 sm_ML sm_B 1) kcc0 :=
  da_ok (d := 0) [(0, 0), (2, 3)] ar_t32 (fun x y hx _ e => by
    subst e
    obtain ⟨q, hq, h1, h2⟩ := hx
    simp only [List.mem_cons, List.not_mem_nil, or_false] at hq
    rcases hq with rfl | rfl
    · exact absurd h2 (by decide)
    · exact absurd h1 (by decide))
theorem ko_a1 : ak_ok ps_h (sm_Ex 200 sm_ML sm_B 1) kcc1 :=
  da_ok (d := 0) [(1, 1)] [(0, 7)] (fun x y _ hy _ => ar_1 hy)
theorem ko_h : ko_H ps_h := ⟨ko_a0, ko_a1, ko_d2, ko_d3, ko_d4, ko_d5, ko_d6, ko_d7, dg_ok, cp_ok⟩

