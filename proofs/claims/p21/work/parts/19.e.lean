/-! Look: kind by kind; both sides answer alike. -/
section LK
variable {C R : fl_M}
theorem lz_11 {y : Nat} (hy : y < 20) (q : fl_M) : ∀ c j, lr_73_11 (Int32.ofNat y) q c j = if c = 60 + y ∧ j < 8 then 0 else q c j := by
  unfold lr_73_11 lq_73_11
  refine it_p (f := ls_73_11 (Int32.ofNat y)) (n := 8) (a := q) (fun m x => ∀ c j, x c j = if c = 60 + y ∧ j < m then 0 else q c j) (fun c j => by rw [if_neg (by omega)]) (fun m x hm hx c j => ?_)
  have en := fi_at (m := y) (by omega)
  have em := fi_at (m := m) (by omega)
  unfold ls_73_11
  rw [en, em, ka_59]
  unfold fl_u
  rw [hx]
  (repeat' split) <;> first | rfl | omega
theorem lz_2 (q : fl_M) : ∀ c j, lr_73_2 q c j = if (60 ≤ c ∧ c < 80) ∧ j < 8 then 0 else q c j := by
  unfold lr_73_2 lq_73_2
  refine it_p (f := ls_73_2) (n := 20) (a := q) (fun m x => ∀ c j, x c j = if (60 ≤ c ∧ c < 60 + m) ∧ j < 8 then 0 else q c j) (fun c j => by rw [if_neg (by omega)]) (fun m x hm hx c j => ?_)
  unfold ls_73_2
  rw [lz_11 hm, hx]
  (repeat' split) <;> first | rfl | omega
theorem lz_10 (q : fl_M) : ∀ c j, lr_175_10 q c j = if c = 95 ∧ j < 168 then 0 else q c j := by
  unfold lr_175_10 lq_175_10
  refine it_p (f := ls_175_10) (n := 168) (a := q) (fun m x => ∀ c j, x c j = if c = 95 ∧ j < m then 0 else q c j) (fun c j => by rw [if_neg (by omega)]) (fun m x hm hx c j => ?_)
  have em := fi_at (m := m) (by omega)
  unfold ls_175_10
  rw [em]
  unfold fl_u
  rw [hx]
  (repeat' split) <;> first | rfl | omega
/-- nothing is counted yet -/
theorem lw_0 {M Y : fl_M} (ht : tt C R) (h1 : fC C M) (h2 : fR R Y) (i : Nat) : lw i C R (lr_73_2 M) (lr_175_10 Y) (fun X Z => nb X Z 0) := by
  have eA := lz_2 M
  have eB := lz_10 Y
  refine ⟨fun c => if 60 ≤ c ∧ c ≤ 79 then lr_73_2 M c else C c, fun c => if c = 95 then lr_175_10 Y c else R c, ?_, fun c hc => if_neg (by omega), fun c hc => if_neg hc, fun c hc => ?_, ⟨fun c a1 a2 => ?_, fun j hj => ?_, fun j hj => ?_⟩, fun y l hy hl => ?_⟩
  · exact tt_c ht (fun c hc => if_neg (by omega)) (by rw [if_neg (by decide)]) (by rw [if_neg (by decide)]) (fun z hz => if_neg (by omega)) (fun j _ => by rw [if_neg (by decide)])
  · dsimp only
    by_cases h : 60 ≤ c ∧ c ≤ 79
    · rw [if_pos h]
    · rw [if_neg h, ← h1 c hc]
      funext j
      rw [eA, if_neg (by omega)]
  · dsimp only
    by_cases h : c = 95
    · rw [if_pos h]
    · rw [if_neg h, ← h2.1 c a1]
      funext j
      rw [eB, if_neg (by omega)]
  · dsimp only
    rw [if_neg (by decide), eB, if_neg (by omega), h2.1 85 (by decide)]
  · dsimp only
    rw [if_neg (by decide), eB, if_neg (by omega)]
    exact h2.2 j hj
  · dsimp only
    rw [if_pos ⟨by omega, by omega⟩, if_pos rfl, eA, eB, if_pos ⟨⟨by omega, by omega⟩, hl⟩, if_pos ⟨rfl, by omega⟩]
    exact ⟨rfl, by decide, by decide⟩
/-- six kinds -/
theorem lk_6 {a b : fl_M} {i1 s : Int32} (i0 : 0 ≤ i1.toInt) (i2 : i1.toNatClampNeg < (C 15 1).toNatClampNeg) (h : lw i1.toNatClampNeg C R a b (fun X Z => nb X Z 0)) : lw i1.toNatClampNeg C R (lr_73_42 i1 s a) (lr_175_35 i1 s b) (fun X Z => nb X Z 6) := by
  unfold lr_73_42 lr_175_35 lq_73_42 lq_175_35
  refine it_r (f := ls_73_42 i1 s) (g := ls_175_35 i1 s) (n := 6) (a := a) (b := b) (fun m x z => lw i1.toNatClampNeg C R x z (fun X Z => nb X Z (m : Int))) h (fun m x z hm hR => ?_)
  obtain ⟨C', R', t1, oC, oR, f1, f2', n1⟩ := hR
  unfold ls_73_42 ls_175_35
  by_cases c1 : ((s >>> ((Int32.ofNat m) &&& 31)) &&& 1) = 1
  · rw [if_pos c1, if_pos c1]
    have i2' : i1.toNatClampNeg < (C' 15 1).toNatClampNeg := by rw [oC 15 (by omega)]; exact i2
    obtain ⟨⟨g1, g2, g3⟩, k1⟩ := ak_0 t1 f1 i2' f2' (Int32.ofNat m)
    have q := ly_20 (C := C) (R := R) (k := (m : Int)) (by omega) (by omega) i0 rfl g1 (by rw [fl_un (by decide), k1]; exact i2') ⟨C', R', t1, oC, oR, g2, g3, n1⟩
    exact q
  · rw [if_neg c1, if_neg c1]
    exact ⟨C', R', t1, oC, oR, f1, f2', fun y l hy hl => ⟨(n1 y l hy hl).1, (n1 y l hy hl).2.1, by have := (n1 y l hy hl).2.2; omega⟩⟩
/-- the end of it -/
theorem lk_e {M Y : fl_M} (h : t2 C R) (h1 : fC C M) (h2 : fR R Y) {i s : Int32} (i0 : 0 ≤ i.toInt) (i2 : i.toNatClampNeg < (C 15 1).toNatClampNeg) :
    lr_72_46 0 7 (lr_73_42 i s (lr_73_2 M)) = lr_174_63 (-9) 99999 (fl_u (lr_175_35 i s (lr_175_10 Y)) 85 i.toNatClampNeg (Y 85 i.toNatClampNeg)) ∧ t2 (lr_73_42 i s (lr_73_2 M)) (fl_u (lr_175_35 i s (lr_175_10 Y)) 85 i.toNatClampNeg (Y 85 i.toNatClampNeg)) := by
  obtain ⟨C', R', t1, oC, oR, f1, f2', n1⟩ := lk_6 (s := s) i0 i2 (lw_0 h.1 h1 h2 i.toNatClampNeg)
  have eY : Y 85 i.toNatClampNeg = R' 85 i.toNatClampNeg := by rw [h2.1 85 (by decide), oR 85 (by decide)]
  have fr := fK_R f2'
  rw [← eY] at fr
  refine ⟨sk_e (k := 6) (fun y l hy hl => ?_) (by decide) (by decide), t2_c h (fun c hc => (f1 c (by omega)).trans (oC c (by omega))) (fun z hz => (fr.1 z (by omega)).trans (oR z (by omega))) (fun j hj => (fr.2 j hj).trans (congrFun (oR 82 (by decide)) j))⟩
  rw [f1 (60 + y) (by omega), fr.1 95 (by decide)]
  exact n1 y l hy hl
theorem lo_k (h : t2 C R) (hf : f2 C R) (i r : Int32) : v_72 i r C = v_174 i r R ∧ t2 (m_72 i r C) (m_174 i r R) := by
  obtain ⟨p1, p2, p3⟩ := rf_p h hf i r
  unfold v_72 v_174 m_72 m_174
  by_cases c0 : v_68 i r C = 0
  · obtain ⟨q1, q2, ⟨i0, i2⟩, ⟨r0, r5⟩, qa, qb⟩ := p3 c0
    rw [if_pos qa, if_pos qb] at p1
    rw [c0] at p1
    simp only [if_pos c0, if_pos qa, if_pos qb, if_pos p1.symm]
    rw [q1, q2]
    obtain ⟨k1, k2, k3⟩ := kb_e h.1 hf i0 i2 r0 r5
    rw [← k1]
    have kR := fK_R k3
    by_cases c1 : (lr_71_5 i r 0 C).1 = 0
    · simp only [if_pos c1]
      exact ⟨trivial, as_t2 h k2 kR⟩
    · simp only [if_neg c1]
      obtain ⟨w1, w2⟩ := lk_e (s := (lr_71_5 i r 0 C).1) h k2 kR i0 i2
      rw [← w1]
      exact ⟨rfl, t2_tell w2 rfl⟩
  · simp only [if_neg c0]
    have nz := c0
    rw [p1] at nz
    by_cases qa : (¬ (i < 0)) ∧ (¬ ((R 81 4) - 1 < i))
    · simp only [if_pos qa] at p1 p2 nz ⊢
      by_cases qb : (¬ (r < 0)) ∧ (¬ (5 < r))
      · simp only [if_pos qb] at p1 p2 nz ⊢
        simp only [if_neg nz]
        exact ⟨p1, p2⟩
      · simp only [if_neg qb] at p1 p2 ⊢
        exact ⟨p1, p2⟩
    · simp only [if_neg qa] at p1 p2 ⊢
      exact ⟨p1, p2⟩
end LK
