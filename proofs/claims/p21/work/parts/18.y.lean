/-! Fault: what reading leaves alone; both sides answer alike. -/
/-- the class' aside alone -/
def az (M X : fl_M) : Prop := ∀ c, (c < 24 ∨ 32 < c) → X c = M c
/-- what the reference reads with, alone -/
def fz (M X : fl_M) : Prop := (∀ c, (c ≠ 81 ∧ c ≠ 92 ∧ c ≠ 93 ∧ c ≠ 94) → X c = M c) ∧ ∀ j, (j ≠ 16 ∧ j ≠ 17 ∧ j ≠ 18 ∧ j ≠ 19 ∧ j ≠ 22) → X 81 j = M 81 j
section AZ
variable {M X : fl_M}
theorem az_i {p : Prop} [Decidable p] {A B : fl_M} (h1 : az M A) (h2 : az M B) : az M (if p then A else B) := by
  split
  · exact h1
  · exact h2
theorem az_u (h : az M X) {a j : Nat} {v : Int32} (ha : 24 ≤ a ∧ a ≤ 32) : az M (fl_u X a j v) := fun c hc => (fl_un (by omega)).trans (h c hc)
theorem az_ln (h : az M X) {a : Nat} {n p : Int32} : az M (ln_M X a n p) := by
  unfold ln_M
  repeat' (first | with_reducible exact h | with_reducible apply az_i | with_reducible refine az_u ?_ (by decide))
theorem az_mo (h : az M X) {a : Nat} {n p : Int32} : az M (mo_M X a n p) := by
  unfold mo_M
  repeat' (first | with_reducible exact h | with_reducible apply az_i | with_reducible refine az_u ?_ (by decide))
theorem az_cp {a : Nat} {n : Int32} : ∀ (f : Nat) (p : Int32) (X : fl_M), az M X → az M (cpar a n f p X).2 := by
  intro f
  induction f with
  | zero =>
    intro p X h
    unfold cpar
    exact h
  | succ f ih =>
    intro p X h
    unfold cpar
    (repeat' split) <;> first | with_reducible exact ih _ _ h | with_reducible exact ih _ _ (az_ln h) | with_reducible exact ih _ _ (az_mo h) | exact h | exact az_ln h | exact az_mo h
theorem az_ra (M : fl_M) (t : Int32) : az M (ra_M M t) := by
  have h0 : az M (fl_u (fl_u M 24 0 0) 24 1 0) := az_u (az_u (fun _ _ => rfl) (by decide)) (by decide)
  unfold ra_M
  repeat' (first | with_reducible exact h0 | with_reducible exact az_cp _ _ _ h0 | with_reducible apply az_i)
theorem fz_i {p : Prop} [Decidable p] {A B : fl_M} (h1 : fz M A) (h2 : fz M B) : fz M (if p then A else B) := by
  split
  · exact h1
  · exact h2
theorem fz_p (h : fz M X) {j : Nat} {v : Int32} (hj : j = 16 ∨ j = 17 ∨ j = 18 ∨ j = 19 ∨ j = 22) : fz M (fl_u X 81 j v) := ⟨fun c hc => (fl_un hc.1).trans (h.1 c hc), fun i hi => (fl_uo (Or.inr (by omega))).trans (h.2 i hi)⟩
theorem fz_ce (h : fz M X) {a j : Nat} {v : Int32} (ha : a = 92 ∨ a = 93 ∨ a = 94) : fz M (fl_u X a j v) := ⟨fun c hc => (fl_un (by omega)).trans (h.1 c hc), fun i hi => (fl_uo (Or.inl (by omega))).trans (h.2 i hi)⟩
theorem fz_rsk : ∀ (f : Nat) (X : fl_M), fz M X → fz M (rsk f X) := by
  intro f
  induction f with
  | zero => intro X h; exact h
  | succ f ih =>
    intro X h
    unfold rsk
    (repeat' split) <;> first | with_reducible exact ih _ (fz_p h (by decide)) | exact h
theorem fz_hd (h : fz M X) : fz M (hd_M X) := by
  have h1 := fz_rsk 60 X h
  unfold hd_M
  repeat' (first | with_reducible exact h1 | with_reducible apply fz_i | with_reducible refine fz_p ?_ (by decide))
theorem fz_rl (h : fz M X) : fz M (rl_M X) := by
  unfold rl_M
  repeat' (first | with_reducible exact h | with_reducible apply fz_i | with_reducible refine fz_p ?_ (by decide) | with_reducible refine fz_ce ?_ (by decide))
theorem fz_rm (h : fz M X) : fz M (rm_M X) := by
  unfold rm_M
  repeat' (first | with_reducible exact h | with_reducible apply fz_i | with_reducible refine fz_p ?_ (by decide) | with_reducible refine fz_ce ?_ (by decide))
theorem fz_rp : ∀ (f : Nat) (v : Int32) (X : fl_M), fz M X → fz M (rpar f v X).2 := by
  intro f
  induction f with
  | zero =>
    intro v X h
    unfold rpar
    exact h
  | succ f ih =>
    intro v X h
    unfold rpar
    (repeat' split) <;> first | with_reducible exact ih _ _ (fz_rl h) | with_reducible exact ih _ _ (fz_rsk 60 _ (fz_rl h)) | with_reducible exact ih _ _ (fz_rm h) | with_reducible exact ih _ _ (fz_rsk 60 _ (fz_rm h)) | exact h
theorem fz_fo (M : fl_M) (t : Int32) : fz M (fo_M M t) := by
  have h0 : fz M (fl_u (fl_u (fl_u (fl_u (fl_u M 81 16 (60 * t)) 81 17 0) 81 18 (M 89 t.toNatClampNeg)) 81 19 0) 81 22 0) := fz_p (fz_p (fz_p (fz_p (fz_p ⟨fun _ _ => rfl, fun _ _ => rfl⟩ (by decide)) (by decide)) (by decide)) (by decide)) (by decide)
  unfold fo_M
  repeat' (first | with_reducible exact fz_rp _ _ _ (fz_hd h0) | with_reducible exact fz_rp _ _ _ (fz_rsk 60 _ (fz_hd h0)) | with_reducible apply fz_i)
end AZ
section FA
variable {C R : fl_M}
theorem t2_z {C' R' : fl_M} (h : t2 C R) (hC : az C C') (hR : fz R R') : t2 C' R' := by
  obtain ⟨ht, d1, d2, d3⟩ := h
  refine ⟨tt_c ht (fun c hc => hC c (by omega)) (hR.2 1 (by decide)) (hR.2 4 (by decide)) (fun k hk => hR.1 k (by omega)) (fun j _ => by rw [hR.1 82 (by decide)]), ?_, ?_, fun f hf => ?_⟩
  · rw [hC 0 (by omega), hR.2 11 (by decide)]; exact d1
  · rw [hC 0 (by omega), hR.2 14 (by decide)]; exact d2
  · rw [hC 80 (by omega), hR.1 91 (by decide)]; exact d3 f hf
theorem fa_p (h : t2 C R) (hf : f2 C R) (hK : C 999 = sm_kl) (t : Int32) : v_14 t C = v_119 t R ∧ t2 (m_14 t C) (m_119 t R) := by
  unfold v_14 v_119 m_14 m_119
  by_cases hA : (t < 0) ∨ (¬ (t < 4))
  · simp only [if_pos hA, if_neg (fun z => ft_A3.mp z hA)]
    exact ⟨trivial, h⟩
  · obtain ⟨r1, r2, r3⟩ := ft_R4 hA
    obtain ⟨t1, gl, gu, t2'⟩ := hf.2 _ r3
    simp only [if_neg hA, if_pos (ft_A3.mpr hA)]
    rw [← t1]
    by_cases hB : C 9 t.toNatClampNeg = -1
    · simp only [if_pos hB, if_pos ((ft_B gl).mpr hB)]
      exact ⟨trivial, t2_no h 1 (f := 1) (by decide)⟩
    · simp only [if_neg hB, if_neg (fun z => hB ((ft_B gl).mp z))]
      exact ⟨ra_fo hf hK r1 r2 hB, t2_z h (az_ra C t) (fz_fo R t)⟩
end FA
