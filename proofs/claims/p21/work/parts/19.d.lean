/-! Look: the counting, year by year. -/
def nc (C R : fl_M) (k : Int) (m : Nat) : Prop := ∀ y l, y < 20 → l < 8 → C (60 + y) l = R 95 (8 * (1 + y) + l) ∧ 0 ≤ (C (60 + y) l).toInt ∧ (C (60 + y) l).toInt ≤ k + 1 ∧ (m ≤ y → (C (60 + y) l).toInt ≤ k)
/-- what is counted with, over a base that moves -/
def lw (i : Nat) (C R A B : fl_M) (P : fl_M → fl_M → Prop) : Prop := ∃ C' R' : fl_M, tt C' R' ∧ (∀ c, (c < 60 ∨ 79 < c) → C' c = C c) ∧ (∀ c, c ≠ 95 → R' c = R c) ∧ fC C' A ∧ fK i R' B ∧ P C' R'
theorem ly_1 {C R a b : fl_M} {i : Nat} {k : Int} (h0 : 0 ≤ k) (h6 : k ≤ 6) {i1 : Int32} (i0 : 0 ≤ i1.toInt) (ei : i1.toNatClampNeg = i) {m : Nat} (hm : m < 20) (ht : tr 24 3776 a b) (hi : i < (a 24 1).toNatClampNeg) (h : lw i C R a b (fun X Y => nc X Y k m)) :
    tr 24 3776 (ls_74_23 i1 m a) (ls_175_66 i1 m b) ∧ i < (ls_74_23 i1 m a 24 1).toNatClampNeg ∧ lw i C R (ls_74_23 i1 m a) (ls_175_66 i1 m b) (fun X Y => nc X Y k (m + 1)) := by
  obtain ⟨C', R', t1, oC, oR, f1, f2', n1⟩ := h
  have g := aw_y (F := fK i R') (R := R') (fo_K i R') (C := C') ⟨ht, f1, f2'⟩
  unfold ls_74_23 ls_175_66
  rw [yr_1]
  obtain ⟨A, hA⟩ : ∃ A : fl_M, A = m_46 0 24 a := ⟨_, rfl⟩
  obtain ⟨B, hB⟩ : ∃ B : fl_M, B = m_150 3776 0 b := ⟨_, rfl⟩
  rw [← hA, ← hB] at g ⊢
  obtain ⟨gt, gC, gK⟩ := g
  have k1 : A 24 1 = a 24 1 := by
    rw [gt.1.2.1, gK.1 81 (by decide) (by decide), ← f2'.1 81 (by decide) (by decide), ← ht.1.2.1]
  have n8 := tr_n gt
  rw [k1] at n8
  obtain ⟨p1, p2, p3⟩ := gt.2.2.2.2.2.1 i (by rw [k1]; exact hi)
  have p1 : A 32 i = B 82 (3796 + i) := p1
  have p2 : 0 ≤ (A 32 i).toInt := p2
  have p3 : (A 32 i).toInt < (A 24 0).toInt := p3
  have cI := fi_cl i1
  have cp := fi_cl (A 32 i)
  have c0 := fi_cl (A 24 0)
  have en := fi_at (m := m) (by omega)
  have e1 := fi_ti (m := 1 + m) (by omega)
  have eI : (3796 + i1).toNatClampNeg = 3796 + i := fj_nn (fj_pa (x := 3796) (y := i1) (a := 3796) (c := i) rfl (by omega) (by omega))
  have e8 : (8 * Int32.ofNat (1 + m)).toInt = ((8 * (1 + m) : Nat) : Int) := by
    rw [fi_mul (by rw [e1, fj_8]; omega) (by rw [e1, fj_8]; omega), e1, fj_8]
    omega
  have e9 := fj_nn (fj_pa (x := 8 * Int32.ofNat (1 + m)) (y := A 32 i) (c := (A 32 i).toNatClampNeg) e8 (by omega) (by omega))
  rw [ei, eI, ← p1, en, ka_59, e9, gC (60 + m) (by omega), gK.1 95 (by decide) (by decide)]
  obtain ⟨p, hp⟩ : ∃ p : Nat, p = (A 32 i).toNatClampNeg := ⟨_, rfl⟩
  have p8 : p < 8 := by omega
  rw [← hp]
  obtain ⟨q1, q2, q3, q4⟩ := n1 m p hm p8
  rw [← q1]
  have ew := fi_p1 (p := C' (60 + m) p) (by have := q4 (Nat.le_refl m); omega)
  have q4 := q4 (Nat.le_refl m)
  obtain ⟨w, hw⟩ : ∃ w : Int32, w = C' (60 + m) p + 1 := ⟨_, rfl⟩
  rw [← hw] at ew ⊢
  have tR : tr 24 3776 A (fl_u B 95 (8 * (1 + m) + p) w) := tr_rc gt (by rw [fl_un (by decide)]) (by rw [fl_un (by decide)]) (fun z hz => fl_un (by omega)) (fun z h1 h2 => by rw [fl_un (by decide)])
  refine ⟨tr_cc tR (fun z hz => fl_un (by omega)), by rw [fl_un (by omega), k1]; exact hi, fl_u C' (60 + m) p w, fl_u R' 95 (8 * (1 + m) + p) w, tt_c t1 (fun c hc => fl_un (by omega)) (by rw [fl_un (by decide)]) (by rw [fl_un (by decide)]) (fun z hz => fl_un (by omega)) (fun j _ => by rw [fl_un (by decide)]), fun c hc => (fl_un (by omega)).trans (oC c hc), fun c hc => (fl_un hc).trans (oR c hc), fun c hc => ?_, ⟨fun c h1 h2 => ?_, fun j hj => ?_, fun j hj => ?_⟩, fun y l hy hl => ?_⟩
  · funext j
    unfold fl_u
    rw [gC c hc]
  · funext j
    unfold fl_u
    rw [gK.1 c h1 h2]
  · rw [fl_un (by decide), fl_un (by decide)]
    exact gK.2.1 j hj
  · rw [fl_un (by decide), fl_un (by decide)]
    exact gK.2.2 j hj
  · by_cases e : y = m ∧ l = p
    · obtain ⟨rfl, rfl⟩ := e
      rw [fl_us, fl_us]
      exact ⟨rfl, by omega, by omega, fun z => absurd z (by omega)⟩
    · obtain ⟨x1, x2, x3, x4⟩ := n1 y l hy hl
      rw [fl_uo (by omega), fl_uo (Or.inr (by omega))]
      exact ⟨x1, x2, x3, fun z => x4 (by omega)⟩
/-- twenty years -/
theorem ly_20 {C R a b : fl_M} {i : Nat} {k : Int} (h0 : 0 ≤ k) (h6 : k ≤ 6) {i1 : Int32} (i0 : 0 ≤ i1.toInt) (ei : i1.toNatClampNeg = i) (ht : tr 24 3776 a b) (hi : i < (a 24 1).toNatClampNeg) (h : lw i C R a b (fun X Y => nb X Y k)) : lw i C R (lr_74_23 i1 a) (lr_175_66 i1 b) (fun X Y => nb X Y (k + 1)) := by
  have key := it_r (f := ls_74_23 i1) (g := ls_175_66 i1) (n := 20) (a := a) (b := b) (fun m x z => tr 24 3776 x z ∧ i < (x 24 1).toNatClampNeg ∧ lw i C R x z (fun X Y => nc X Y k m)) ⟨ht, hi, ?_⟩ (fun m x z hm hR => ly_1 h0 h6 i0 ei hm hR.1 hR.2.1 hR.2.2)
  · obtain ⟨-, -, C', R', t1, oC, oR, f1, f2', n1⟩ := key
    exact ⟨C', R', t1, oC, oR, f1, f2', fun y l hy hl => ⟨(n1 y l hy hl).1, (n1 y l hy hl).2.1, (n1 y l hy hl).2.2.1⟩⟩
  · obtain ⟨C', R', t1, oC, oR, f1, f2', n1⟩ := h
    exact ⟨C', R', t1, oC, oR, f1, f2', fun y l hy hl => ⟨(n1 y l hy hl).1, (n1 y l hy hl).2.1, by have := (n1 y l hy hl).2.2; omega, fun _ => (n1 y l hy hl).2.2⟩⟩
