/-! Reading and taking over, within bounds. -/
theorem fi_7 : (7 : Int32).toInt = 7 := rfl
/-- the class' aside while it reads: what is read with stays, places are lines' numbers -/
def cq (M X : fl_M) : Prop := cI X ∧ X 32 = M 32 ∧ ∀ j : Nat, j < 4 → 0 ≤ (X 31 j).toInt ∧ (X 31 j).toInt ≤ 7
section CQ
variable {M X : fl_M}
theorem cq_ln (h : cq M X) {a : Nat} {n p : Int32} : cq M (ln_M X a n p) := by
  refine ⟨cI_ln h.1, ?_⟩
  obtain ⟨-, h1, h2⟩ := h
  unfold ln_M
  (repeat' split) <;> first | with_reducible exact ⟨h1, h2⟩ | exact ⟨by rw [fl_un (by decide), fl_un (by decide), fl_un (by decide)]; exact h1, fun j hj => by rw [fl_un (by decide), fl_un (by decide), fl_un (by decide)]; exact h2 j hj⟩
theorem cq_m (h : cq M X) {u w k x : Int32} {i : Nat} (u0 : 0 ≤ u.toInt) (u1 : u.toInt ≤ 7) : (fl_u (fl_u (fl_u (fl_u X 29 i k) 31 i u) 30 i w) 24 1 x) 32 = M 32 ∧ ∀ j : Nat, j < 4 → 0 ≤ ((fl_u (fl_u (fl_u (fl_u X 29 i k) 31 i u) 30 i w) 24 1 x) 31 j).toInt ∧ ((fl_u (fl_u (fl_u (fl_u X 29 i k) 31 i u) 30 i w) 24 1 x) 31 j).toInt ≤ 7 := by
  refine ⟨by rw [fl_un (by decide), fl_un (by decide), fl_un (by decide), fl_un (by decide)]; exact h.2.1, fun j hj => ?_⟩
  rw [fl_un (by decide), fl_un (by decide)]
  by_cases e : j = i
  · subst e
    rw [fl_us]
    exact ⟨u0, u1⟩
  · rw [fl_uo (Or.inr e), fl_un (by decide)]
    exact h.2.2 j hj
theorem cq_mo (h : cq M X) {a : Nat} (ha : 11 ≤ a ∧ a ≤ 14) {n p : Int32} : cq M (mo_M X a n p) := by
  refine ⟨cI_mo h.1, ?_⟩
  have hx := h.1.1
  have e1 : ¬ X 24 0 = 0 → (X 24 0 - 1).toInt = (X 24 0).toInt - 1 := fun _ => by rw [fi_sub (by rw [fi_i1]; omega) (by rw [fi_i1]; omega), fi_i1]
  unfold mo_M
  simp only [fl_un (show a ≠ 29 by omega), fl_un (show a ≠ 31 by omega)]
  split
  · exact h.2
  split
  · exact h.2
  rename_i c0
  have e1 := e1 c0
  split
  · split
    · rename_i f1
      have f1 := fg_b f1
      split
      · rw [fi_i0, e1] at f1
        exact cq_m h f1.1 (by omega)
      · exact h.2
    · exact h.2
  · exact h.2
theorem cq_cp {a : Nat} (ha : 11 ≤ a ∧ a ≤ 14) {n : Int32} : ∀ (f : Nat) (p : Int32) (X : fl_M), cq M X → cq M (cpar a n f p X).2 := by
  intro f
  induction f with
  | zero =>
    intro p X h
    unfold cpar
    exact h
  | succ f ih =>
    intro p X h
    unfold cpar
    (repeat' split) <;> (try dsimp only) <;> first | with_reducible exact ih _ _ h | with_reducible exact ih _ _ (cq_ln h) | with_reducible exact ih _ _ (cq_mo h ha) | with_reducible exact h | with_reducible exact cq_ln h | with_reducible exact cq_mo h ha
theorem cq_ra {C : fl_M} {t : Int32} (hK : C 999 = sm_kl) (h0 : 0 ≤ t.toInt) (h3 : t.toInt ≤ 3) (hr : ∀ j : Nat, j < 4 → 0 ≤ (C 31 j).toInt ∧ (C 31 j).toInt ≤ 7) : cq C (ra_M C t) := by
  have ct := fi_cl t
  have hz : cq C (fl_u (fl_u C 24 0 0) 24 1 0) := ⟨cI_0 hK, by rw [fl_un (by decide), fl_un (by decide)], fun j hj => by rw [fl_un (by decide), fl_un (by decide)]; exact hr j hj⟩
  unfold ra_M
  rw [fl_ar10]
  (repeat' split) <;> first | exact hz | exact cq_cp (by omega) _ _ _ hz
end CQ
/-- the reference while it reads: bounds, places are lines' numbers -/
def rz (X : fl_M) : Prop := rI X ∧ ∀ j : Nat, (j = 1 ∨ j = 4 ∨ j = 7 ∨ j = 10) → 0 ≤ (X 94 j).toInt ∧ (X 94 j).toInt ≤ 7
theorem rsk_94 : ∀ (f : Nat) (X : fl_M), rsk f X 94 = X 94 := by
  intro f
  induction f with
  | zero => intro X; rfl
  | succ f ih =>
    intro X
    unfold rsk
    split
    · split
      · rw [ih, fl_un (by decide)]
      · rfl
    · rfl
theorem rg_bd {M : fl_M} {hi : Int32} (h : rg M 0 hi = true) (h0 : 0 ≤ hi.toInt) (h9 : hi.toInt ≤ 9) : 0 ≤ (rv M).toInt ∧ (rv M).toInt ≤ hi.toInt := by
  obtain ⟨-, h2⟩ := sm_an h
  obtain ⟨h2, h3⟩ := sm_an h2
  have a : ¬ rh M < 48 + 0 := fun z => by rw [decide_eq_true z] at h2; cases h2
  have b : ¬ 48 + hi < rh M := fun z => by rw [decide_eq_true z] at h3; cases h3
  rw [fi_l] at a b
  have e0 : (48 + 0 : Int32).toInt = 48 := rfl
  have e1 : (48 + hi).toInt = 48 + hi.toInt := by rw [fi_add (by rw [fi_i48]; omega) (by rw [fi_i48]; omega), fi_i48]
  unfold rv
  rw [fi_sub (by rw [fi_i48]; omega) (by rw [fi_i48]; omega), fi_i48]
  omega
section RZ
variable {M X : fl_M}
theorem rz_rsk (h : rz X) {f : Nat} : rz (rsk f X) := ⟨rI_rsk h.1, fun j hj => by rw [rsk_94]; exact h.2 j hj⟩
theorem rz_rl (h : rz X) (hQ : (X 81 17).toInt < (X 81 18).toInt) : rz (rl_M X) := by
  refine ⟨rI_rl h.1 hQ, ?_⟩
  have e : rl_M X 94 = X 94 := by
    unfold rl_M
    (repeat' split) <;> first | rfl | (repeat rw [fl_un (by decide)])
  rw [e]
  exact h.2
theorem rz_m (h : rz X) {m k v w a b c x : Int32} (m0 : 0 ≤ m.toInt) (m4 : m.toInt < 4) (v0 : 0 ≤ v.toInt) (v7 : v.toInt ≤ 7) : ∀ j : Nat, (j = 1 ∨ j = 4 ∨ j = 7 ∨ j = 10) → 0 ≤ ((fl_u (fl_u (fl_u (fl_u (fl_u (fl_u (fl_u X 81 17 a) 81 17 b) 81 17 c) 94 ((3 * m).toNatClampNeg) k) 94 (((3 * m) + 1).toNatClampNeg) v) 94 (((3 * m) + 2).toNatClampNeg) w) 81 22 x) 94 j).toInt ∧ ((fl_u (fl_u (fl_u (fl_u (fl_u (fl_u (fl_u X 81 17 a) 81 17 b) 81 17 c) 94 ((3 * m).toNatClampNeg) k) 94 (((3 * m) + 1).toNatClampNeg) v) 94 (((3 * m) + 2).toNatClampNeg) w) 81 22 x) 94 j).toInt ≤ 7 := by
  intro j hj
  have e3 : (3 * m).toInt = 3 * m.toInt := by rw [fi_mul (by rw [fi_i3]; omega) (by rw [fi_i3]; omega), fi_i3]
  have e31 : ((3 * m) + 1).toInt = 3 * m.toInt + 1 := by rw [fi_p1 (by omega), e3]
  have e32 : ((3 * m) + 2).toInt = 3 * m.toInt + 2 := by rw [fi_add (by rw [fj_2]; omega) (by rw [fj_2]; omega), e3, fj_2]
  have f3 := fi_cl (3 * m)
  have f31 := fi_cl ((3 * m) + 1)
  have f32 := fi_cl ((3 * m) + 2)
  rw [fl_un (by decide), fl_uo (Or.inr (by omega))]
  by_cases e : j = ((3 * m) + 1).toNatClampNeg
  · rw [e, fl_us]
    exact ⟨v0, v7⟩
  · rw [fl_uo (Or.inr e), fl_uo (Or.inr (by omega)), fl_un (by decide), fl_un (by decide), fl_un (by decide)]
    exact h.2 j hj
theorem rz_rm (h : rz X) (hQ : (X 81 17).toInt < (X 81 18).toInt) : rz (rm_M X) := by
  refine ⟨rI_rm h.1 hQ, ?_⟩
  have hL := h.1.2.2.1
  have hm := h.1.2.2.2
  have keep : ∀ Z : fl_M, Z 94 = X 94 → ∀ j : Nat, (j = 1 ∨ j = 4 ∨ j = 7 ∨ j = 10) → 0 ≤ (Z 94 j).toInt ∧ (Z 94 j).toInt ≤ 7 := fun Z hZ j hj => by rw [hZ]; exact h.2 j hj
  unfold rm_M
  split
  · exact h.2
  split
  · exact h.2
  rename_i c4
  have c4 := fi_ne c4
  rw [fi_i4] at c4
  split
  · exact h.2
  rename_i c0
  have c0 := fi_ne c0
  rw [fi_i0] at c0
  have e1 : (X 81 19 - 1).toInt = (X 81 19).toInt - 1 := by rw [fi_sub (by rw [fi_i1]; omega) (by rw [fi_i1]; omega), fi_i1]
  split
  · rename_i g1
    have g := rg_bd g1 (by omega) (by omega)
    split
    · exact rz_m h hm.1 (by omega) g.1 (by omega)
    · exact keep _ (by rw [fl_un (by decide), fl_un (by decide)])
  · exact keep _ (by rw [fl_un (by decide)])
theorem rz_rp : ∀ (f : Nat) (v : Int32) (X : fl_M), rz X → rz (rpar f v X).2 := by
  intro f
  induction f with
  | zero =>
    intro v X h
    unfold rpar
    exact h
  | succ f ih =>
    intro v X h
    unfold rpar
    split
    · exact h
    split
    · rename_i hq
      have hq := fi_l.mp hq
      split
      · split
        · exact ih _ _ (rz_rl h hq)
        · exact ih _ _ (rz_rsk (rz_rl h hq))
      · split
        · exact ih _ _ (rz_rm h hq)
        · exact ih _ _ (rz_rsk (rz_rm h hq))
    · exact h
theorem rz_hd (h : rz X) : rz (hd_M X) := by
  refine ⟨rI_hd h.1, ?_⟩
  have e : hd_M X 94 = X 94 := by
    unfold hd_M
    (repeat' split) <;> rw [fl_un (by decide), rsk_94]
  rw [e]
  exact h.2
theorem rz_fo {t : Int32} (h0 : 0 ≤ t.toInt) (h3 : t.toInt ≤ 3) (hn0 : 0 ≤ (M 89 t.toNatClampNeg).toInt) (hn : (M 89 t.toNatClampNeg).toInt ≤ 60) (hr : ∀ j : Nat, (j = 1 ∨ j = 4 ∨ j = 7 ∨ j = 10) → 0 ≤ (M 94 j).toInt ∧ (M 94 j).toInt ≤ 7) : rz (fo_M M t) := by
  have et : (60 * t).toInt = 60 * t.toInt := by rw [fi_mul (by rw [fi_i60]; omega) (by rw [fi_i60]; omega), fi_i60]
  have hi : rz (fl_u (fl_u (fl_u (fl_u (fl_u M 81 16 (60 * t)) 81 17 0) 81 18 (M 89 t.toNatClampNeg)) 81 19 0) 81 22 0) := by
    refine ⟨⟨⟨show 0 ≤ (60 * t).toInt by omega, show (60 * t).toInt ≤ 180 by omega⟩, ⟨show 0 ≤ (0 : Int32).toInt by decide, show (0 : Int32).toInt ≤ (M 89 t.toNatClampNeg).toInt by rw [fi_i0]; exact hn0, hn⟩, ⟨show 0 ≤ (0 : Int32).toInt by decide, show (0 : Int32).toInt ≤ 8 by decide⟩, ⟨show 0 ≤ (0 : Int32).toInt by decide, show (0 : Int32).toInt ≤ 4 by decide⟩⟩, fun j hj => ?_⟩
    rw [fl_un (by decide), fl_un (by decide), fl_un (by decide), fl_un (by decide), fl_un (by decide)]
    exact hr j hj
  have h2 := rz_hd hi
  unfold fo_M
  (repeat' split) <;> first | with_reducible exact rz_rp _ _ _ h2 | with_reducible exact rz_rp _ _ _ (rz_rsk h2)
end RZ
