/-! What is told; lines, mice, marks. -/
/-- whether what is asked is told alike (it wants duel's numbers) -/
def qa : Prop := False
def td (C R : fl_M) : Prop := (qa → C 0 12 = R 81 11) ∧ C 0 11 = R 81 14 ∧ ∀ f, f < 6 → C 80 f = R 91 f
def t2 (C R : fl_M) : Prop := tt C R ∧ td C R
section T2
variable {C R : fl_M}
/-- an answer told -/
theorem t2_tell (h : t2 C R) {x y : Int32} (e : x = y) : t2 (fl_u C 0 12 x) (fl_u R 81 11 y) := by
  obtain ⟨ht, d1, d2, d3⟩ := h
  refine ⟨tt_c ht (fun c hc => fl_un (by omega)) (fl_uo (Or.inr (by decide))) (fl_uo (Or.inr (by decide))) (fun k hk => fl_un (by omega)) (fun j _ => by rw [fl_un (by decide)]), ?_, ?_, fun f hf => ?_⟩
  · intro _
    rw [fl_us, fl_us, e]
  · rw [fl_uo (Or.inr (by decide)), fl_uo (Or.inr (by decide))]
    exact d2
  · rw [fl_un (by decide), fl_un (by decide)]
    exact d3 f hf
/-- a refusal -/
theorem t2_no (h : t2 C R) (v : Int32) {f : Nat} (hf : f < 6) : t2 (fl_u (fl_u C 0 11 v) 80 f (C 80 f + 1)) (fl_u (fl_u R 81 14 v) 91 f (R 91 f + 1)) := by
  obtain ⟨ht, d1, d2, d3⟩ := h
  refine ⟨tt_c ht (fun c hc => by rw [fl_un (by omega), fl_un (by omega)]) (by rw [fl_un (by decide), fl_uo (Or.inr (by decide))]) (by rw [fl_un (by decide), fl_uo (Or.inr (by decide))]) (fun k hk => by rw [fl_un (by omega), fl_un (by omega)]) (fun j _ => by rw [fl_un (by decide), fl_un (by decide)]), ?_, ?_, fun g hg => ?_⟩
  · rw [fl_un (c := 0) (a := 80) (by decide), fl_un (c := 81) (a := 91) (by decide), fl_uo (Or.inr (by decide)), fl_uo (Or.inr (by decide))]
    exact d1
  · rw [fl_un (c := 0) (a := 80) (by decide), fl_un (c := 81) (a := 91) (by decide), fl_us, fl_us]
  · by_cases hgf : g = f
    · subst hgf
      rw [fl_us, fl_us, d3 g hg]
    · rw [fl_uo (Or.inr hgf), fl_uo (Or.inr hgf), fl_un (by decide), fl_un (by decide)]
      exact d3 g hg
/-- what neither the registers nor what is told see -/
theorem t2_c {C' R' : fl_M} (h : t2 C R) (eC : ∀ c, (c = 0 ∨ c = 80 ∨ (15 ≤ c ∧ c ≤ 23) ∨ (42 ≤ c ∧ c ≤ 58)) → C' c = C c) (eR : ∀ k, (k = 81 ∨ (83 ≤ k ∧ k ≤ 86) ∨ k = 91) → R' k = R k) (e82 : ∀ j, j < 3776 → R' 82 j = R 82 j) : t2 C' R' := by
  obtain ⟨ht, d1, d2, d3⟩ := h
  refine ⟨tt_c ht (fun c hc => eC c (by omega)) (by rw [eR 81 (by omega)]) (by rw [eR 81 (by omega)]) (fun k hk => eR k (by omega)) e82, ?_, ?_, fun f hf => ?_⟩
  · rw [eC 0 (by omega), eR 81 (by omega)]; exact d1
  · rw [eC 0 (by omega), eR 81 (by omega)]; exact d2
  · rw [eC 80 (by omega), eR 91 (by omega)]; exact d3 f hf
end T2
section Q
variable {T b : Nat} {C R : fl_M} {bI : Int32}
theorem ea_eq (h : tr T b C R) (hb : tr_b bI b) : lr_61_4 0 T C = lr_163_4 bI 0 R := by
  unfold lr_61_4 lr_163_4 lq_61_4 lq_163_4
  rw [← h.1.1]
  have n8 := tr_n h
  refine it_c rfl (fun m q hm => ?_)
  have em := fi_ti (m := m) (by omega)
  have en := fi_at (m := m) (by omega)
  obtain ⟨-, d1, -⟩ := tr_l h hb (l := Int32.ofNat m) (by omega) (by rw [en]; exact hm)
  unfold ls_61_4 ls_163_4
  rw [d1]
theorem mt_eq (h : tr T 0 C R) (l : Int32) : lr_27_4 l 0 T C = lr_133_4 l 0 R := by
  unfold lr_27_4 lr_133_4 lq_27_4 lq_133_4
  rw [← h.1.2.1]
  have n8 := tr_n h
  refine it_c rfl (fun m q hm => ?_)
  have em := fi_ti (m := m) (by omega)
  have en := fi_at (m := m) (by omega)
  have w := (wa_eq h tr_b0 (i := Int32.ofNat m) (by omega) (by rw [en]; exact hm)).1
  unfold ls_27_4 ls_133_4
  rw [w, Int32.or_zero]
theorem lk_eq (h : tr T 0 C R) {i : Int32} (h0 : 0 ≤ i.toInt) (hi : i.toNatClampNeg < (C T 1).toNatClampNeg) : lr_38_4 i 0 T C = lr_145_4 i 0 R := by
  unfold lr_38_4 lr_145_4 lq_38_4 lq_145_4
  rw [← h.1.1]
  have n8 := tr_n h
  refine it_c rfl (fun m q hm => ?_)
  have em := fi_ti (m := m) (by omega)
  have en := fi_at (m := m) (by omega)
  have w := v136_eq h tr_b0 h0 hi (l := Int32.ofNat m) (by omega) (by rw [en]; exact hm)
  unfold ls_38_4 ls_145_4
  rw [w]
theorem lw_eq (h : tr T b C R) : lr_39_4 0 T C = lr_146_4 0 R := by
  unfold lr_39_4 lr_146_4 lq_39_4 lq_146_4
  rw [← h.1.1]
  have n8 := tr_n h
  refine it_c rfl (fun m q hm => ?_)
  have en := fi_at (m := m) (by omega)
  unfold ls_39_4 ls_146_4
  rw [en, (h.1.2.2.2.2.1 m hm).1]
  generalize R 83 m = w
  by_cases c : w < 4
  · rw [if_pos c, if_neg (fun z => by rw [fi_l, fi_i4] at c; rw [fi_l, fi_i3] at z; omega)]
  · rw [if_neg c, if_pos (by rw [fi_l, fi_i4] at c; rw [fi_l, fi_i3]; omega)]
theorem it_ap {α : Type} (f : Nat → α → α) (n m : Nat) (a : α) (h : ∀ k q, n ≤ k → k < n + m → f k q = q) : fx_it f (n + m) a = fx_it f n a := by
  induction m with
  | zero => rfl
  | succ m ih =>
    rw [← Nat.add_assoc, fx_it_s, h _ _ (by omega) (by omega)]
    exact ih (fun k q h1 h2 => h k q h1 (by omega))
theorem cs_eq (h : tr T 0 C R) : lr_41_4 0 T C = lr_147_4 0 R := by
  unfold lr_41_4 lr_147_4 lq_41_4 lq_147_4
  have n8 := tr_n h
  have e8 : 8 = (C T 0).toNatClampNeg + (8 - (C T 0).toNatClampNeg) := by omega
  rw [e8, it_ap (ls_147_4 R) _ _ _ (fun k q h1 h2 => ?_)]
  · refine it_c rfl (fun m q hm => ?_)
    have em := fi_ti (m := m) (by omega)
    have en := fi_at (m := m) (by omega)
    obtain ⟨-, -, d1, -⟩ := tr_l h tr_b0 (l := Int32.ofNat m) (by omega) (by rw [en]; exact hm)
    have e0 : (0 + 12 + Int32.ofNat m : Int32) = 12 + Int32.ofNat m := by rw [Int32.zero_add]
    rw [e0] at d1
    unfold ls_41_4 ls_147_4
    rw [d1]
  · have em := fi_ti (m := k) (by omega)
    have d6 := h.2.2.2.2.2.2 k h1 (by omega)
    rw [Nat.zero_add] at d6
    unfold ls_147_4
    rw [fj_nn (fj_pa (x := 12) (y := Int32.ofNat k) (a := 12) rfl em (by omega)), d6, Int32.add_zero]
theorem is_eq {K kind : Int32} (h : ¬ kind = 0) : ((kind = 0) ∨ ((K = kind) ∨ (((K = 4) ∧ ((kind = 2) ∨ ((K = 5) ∧ (kind = 3)))) ∨ ((¬ (K = 4)) ∧ ((K = 5) ∧ (kind = 3)))))) ↔ ((K = kind) ∨ (((kind = 2) ∧ ((K = 4) ∨ ((kind = 3) ∧ (K = 5)))) ∨ ((¬ (kind = 2)) ∧ ((kind = 3) ∧ (K = 5))))) := by
  simp only [fi_e, fi_i0, fj_2, fi_i3, fi_i4, fi_i5] at h ⊢
  omega
theorem th_eq (h : tr T b C R) {kind : Int32} (hk : ¬ kind = 0) : lr_95_4 kind 0 T C = lr_195_4 kind 0 R := by
  unfold lr_95_4 lr_195_4 lq_95_4 lq_195_4
  rw [← h.1.2.1]
  have n8 := tr_n h
  refine it_c rfl (fun m q hm => ?_)
  have en := fi_at (m := m) (by omega)
  unfold ls_95_4 ls_195_4
  rw [en, (h.1.2.2.2.2.2 m hm).1]
  have e := is_eq (K := R 85 m) hk
  by_cases c : (R 85 m = kind) ∨ (((kind = 2) ∧ ((R 85 m = 4) ∨ ((kind = 3) ∧ (R 85 m = 5)))) ∨ ((¬ (kind = 2)) ∧ ((kind = 3) ∧ (R 85 m = 5))))
  · rw [if_pos c, if_pos (e.mpr c)]
  · rw [if_neg c, if_neg (fun z => c (e.mp z))]
end Q
section PQ
variable {C R : fl_M}
theorem v26_eq (h : tt C R) {l wh : Int32} (l0 : 0 ≤ l.toInt) (l1 : l.toNatClampNeg < (C 15 0).toNatClampNeg) : v_26 l wh C = v_132 l wh R := by
  obtain ⟨l7, dL, dC, dW⟩ := tr_l h.1 tr_b0 l0 l1
  have e4 : (0 + 4 + l : Int32) = 4 + l := by rw [Int32.zero_add]
  have e12 : (0 + 12 + l : Int32) = 12 + l := by rw [Int32.zero_add]
  rw [e4] at dL
  rw [e12] at dC
  have dK := (h.1.1.2.2.2.2.1 _ l1).2
  have d4 : C 15 4 = R 82 3 := h.1.2.2.2.1
  have dM := mt_eq h.1 l
  unfold v_26 v_132
  rw [dL, dC, ← dW, ← dK, d4, dM]
theorem v34_eq (h : tt C R) {i wh : Int32} (i0 : 0 ≤ i.toInt) (i1 : i.toNatClampNeg < (C 15 1).toNatClampNeg) : v_34 i wh C = v_141 i wh R := by
  obtain ⟨i3, dP, dK, dT⟩ := tr_m h.1 tr_b0 i0 i1
  have e20 : (0 + 20 + i : Int32) = 20 + i := by rw [Int32.zero_add]
  rw [e20] at dP
  have dE := v35_eq h.1 i1
  have dW := (wa_eq h.1 tr_b0 i0 i1).1
  have dE' : v_35 (C 20 i.toNatClampNeg) (C 21 i.toNatClampNeg) = v_142 i R := dE
  unfold v_34 v_141
  rw [dP, dK, dT, dE', dW]
theorem li_p (h : t2 C R) (l wh : Int32) : v_24 l wh C = v_130 l wh R ∧ t2 (m_24 l wh C) (m_130 l wh R) := by
  obtain ⟨a0, a1, s1, s4, sd, d0, d4⟩ := tt_n h.1
  have hA := ln_A (x := C 15 0) (l := l) a0.1 (by omega)
  unfold v_24 v_130 m_24 m_130
  rw [← s1]
  by_cases c1 : (l < 0) ∨ (¬ (l < (C 15 0)))
  · simp only [if_pos c1, if_neg (fun z => hA.mp z c1)]
    exact ⟨trivial, h⟩
  · simp only [if_neg c1, if_pos (hA.mpr c1)]
    obtain ⟨l0, l1, l2⟩ := ln_R c1
    have e6 : (wh < 6) ↔ ¬ (5 < wh) := by rw [fi_l, fi_l, fi_i5, fi_i6]; omega
    by_cases c2 : wh < 0
    · simp only [if_pos c2, if_neg (fun z : (¬ (wh < 0)) ∧ (¬ (5 < wh)) => z.1 c2)]
      exact ⟨trivial, h⟩
    · by_cases c3 : wh < 6
      · simp only [if_neg c2, if_pos c3, if_pos (⟨c2, e6.mp c3⟩ : (¬ (wh < 0)) ∧ (¬ (5 < wh)))]
        exact ⟨trivial, t2_tell h (v26_eq h.1 l0 l2)⟩
      · simp only [if_neg c2, if_neg c3, if_neg (fun z : (¬ (wh < 0)) ∧ (¬ (5 < wh)) => c3 (e6.mpr z.2))]
        exact ⟨trivial, h⟩
theorem mo_p (h : t2 C R) (i wh : Int32) : v_32 i wh C = v_139 i wh R ∧ t2 (m_32 i wh C) (m_139 i wh R) := by
  obtain ⟨a0, a1, s1, s4, sd, d0, d4⟩ := tt_n h.1
  have hA := ln_A (x := C 15 1) (l := i) a1.1 (by omega)
  unfold v_32 v_139 m_32 m_139
  rw [← s4]
  by_cases c1 : (i < 0) ∨ (¬ (i < (C 15 1)))
  · simp only [if_pos c1, if_neg (fun z => hA.mp z c1)]
    exact ⟨trivial, h⟩
  · simp only [if_neg c1, if_pos (hA.mpr c1)]
    obtain ⟨l0, l1, l2⟩ := ln_R c1
    have e6 : (wh < 5) ↔ ¬ (4 < wh) := by rw [fi_l, fi_l, fi_i5, fi_i4]; omega
    by_cases c2 : wh < 0
    · simp only [if_pos c2, if_neg (fun z : (¬ (wh < 0)) ∧ (¬ (4 < wh)) => z.1 c2)]
      exact ⟨trivial, h⟩
    · by_cases c3 : wh < 5
      · simp only [if_neg c2, if_pos c3, if_pos (⟨c2, e6.mp c3⟩ : (¬ (wh < 0)) ∧ (¬ (4 < wh)))]
        exact ⟨trivial, t2_tell h (v34_eq h.1 l0 l2)⟩
      · simp only [if_neg c2, if_neg c3, if_neg (fun z : (¬ (wh < 0)) ∧ (¬ (4 < wh)) => c3 (e6.mpr z.2))]
        exact ⟨trivial, h⟩
theorem lk_p (h : t2 C R) (i w ch far : Int32) : v_56 i w ch far C = v_158 i w ch far R ∧ t2 (m_56 i w ch far C) (m_158 i w ch far R) := by
  obtain ⟨a0, a1, s1, s4, sd, d0, d4⟩ := tt_n h.1
  have hA := ln_A (x := C 15 1) (l := i) a1.1 (by omega)
  unfold v_56 v_158 m_56 m_158
  rw [← s4]
  by_cases c1 : (i < 0) ∨ (¬ (i < (C 15 1)))
  · simp only [if_pos c1, if_neg (fun z => hA.mp z c1)]
    exact ⟨trivial, h⟩
  · simp only [if_neg c1, if_pos (hA.mpr c1)]
    obtain ⟨l0, l1, l2⟩ := ln_R c1
    obtain ⟨-, -, dK, -⟩ := tr_m h.1.1 tr_b0 l0 l2
    by_cases c2 : w < 0
    · simp only [if_pos c2, if_neg (fun z : (¬ (w < 0)) ∧ (¬ (9 < w)) => z.1 c2)]
      exact ⟨trivial, h⟩
    · by_cases c3 : 9 < w
      · simp only [if_neg c2, if_pos c3, if_neg (fun z : (¬ (w < 0)) ∧ (¬ (9 < w)) => z.2 c3)]
        exact ⟨trivial, h⟩
      · simp only [if_neg c2, if_neg c3, if_pos (⟨c2, c3⟩ : (¬ (w < 0)) ∧ (¬ (9 < w)))]
        by_cases c4 : ch < 0
        · simp only [if_pos c4, if_neg (fun z : (¬ (ch < 0)) ∧ (¬ (20 < ch)) => z.1 c4)]
          exact ⟨trivial, h⟩
        · by_cases c5 : 20 < ch
          · simp only [if_neg c4, if_pos c5, if_neg (fun z : (¬ (ch < 0)) ∧ (¬ (20 < ch)) => z.2 c5)]
            exact ⟨trivial, h⟩
          · simp only [if_neg c4, if_neg c5, if_pos (⟨c4, c5⟩ : (¬ (ch < 0)) ∧ (¬ (20 < ch)))]
            by_cases c6 : far < 0
            · simp only [if_pos c6, if_neg (fun z : (¬ (far < 0)) ∧ (¬ (7 < far)) => z.1 c6)]
              exact ⟨trivial, h⟩
            · by_cases c7 : 7 < far
              · simp only [if_neg c6, if_pos c7, if_neg (fun z : (¬ (far < 0)) ∧ (¬ (7 < far)) => z.2 c7)]
                exact ⟨trivial, h⟩
              · simp only [if_neg c6, if_neg c7, if_pos (⟨c6, c7⟩ : (¬ (far < 0)) ∧ (¬ (7 < far)))]
                exact ⟨trivial, t2_tell h (by rw [v31_eq, dK])⟩
theorem mk_p (h : t2 C R) (i kind : Int32) : v_36 i kind C = v_143 i kind R ∧ t2 (m_36 i kind C) (m_143 i kind R) := by
  obtain ⟨a0, a1, s1, s4, sd, d0, d4⟩ := tt_n h.1
  have hA := ln_A (x := C 15 1) (l := i) a1.1 (by omega)
  unfold v_36 v_143 m_36 m_143
  rw [← s4]
  by_cases c1 : (i < 0) ∨ (¬ (i < (C 15 1)))
  · simp only [if_pos c1, if_neg (fun z => hA.mp z c1)]
    exact ⟨trivial, h⟩
  · simp only [if_neg c1, if_pos (hA.mpr c1)]
    obtain ⟨l0, l1, l2⟩ := ln_R c1
    obtain ⟨i3, dP, dK, dT⟩ := tr_m h.1.1 tr_b0 l0 l2
    have dK : R 85 i.toNatClampNeg = C 20 i.toNatClampNeg := dK
    have dT : R 86 i.toNatClampNeg = C 21 i.toNatClampNeg := dT
    have dE : v_35 (C 20 i.toNatClampNeg) (C 21 i.toNatClampNeg) = v_142 i R := v35_eq h.1.1 l2
    have e5 : ((¬ (kind < 1)) ∧ (¬ (5 < kind))) ↔ (0 < kind ∧ kind < 6) := by
      rw [fi_l, fi_l, fi_l, fi_l, fi_i0, fi_i1, fi_i5, fi_i6]
      omega
    by_cases c2 : 0 < kind
    · by_cases c3 : kind < 6
      · simp only [if_pos c2, if_pos c3, if_pos (e5.mpr ⟨c2, c3⟩)]
        have k0 : ¬ kind = 0 := fun z => by rw [z] at c2; exact absurd c2 (by decide)
        have e := is_eq (K := C 20 i.toNatClampNeg) k0
        rw [dK]
        by_cases c4 : (C 20 i.toNatClampNeg = kind) ∨ (((kind = 2) ∧ ((C 20 i.toNatClampNeg = 4) ∨ ((kind = 3) ∧ (C 20 i.toNatClampNeg = 5)))) ∨ ((¬ (kind = 2)) ∧ ((kind = 3) ∧ (C 20 i.toNatClampNeg = 5))))
        · simp only [if_pos c4, if_pos (e.mpr c4)]
          refine ⟨?_, h⟩
          rw [lk_eq h.1.1 l0 l2, lw_eq h.1.1, cs_eq h.1.1, dE, dT, show v_35 0 (C 21 i.toNatClampNeg) = C 21 i.toNatClampNeg by unfold v_35; rw [if_neg (by decide), if_neg (by decide), if_neg (by decide)]]
          have eH : v_40 i 15 C = (((R 82 ((4 + (R 82 ((20 + i).toNatClampNeg))).toNatClampNeg)) + (v_142 i R)) - 1) / (v_142 i R) := by
            have e20 : (0 + 20 + i : Int32) = 20 + i := by rw [Int32.zero_add]
            rw [e20] at dP
            obtain ⟨p1, p2, p3⟩ := h.1.1.2.2.2.2.2.1 _ l2
            obtain ⟨-, -, t1, t9⟩ := h.1.1.1.2.2.2.2.2 _ l2
            have bV := v142_b (R := R) (i := i) (by rw [dT]; exact t1) (by rw [dT]; exact t9)
            have cP := fi_cl (C (15 + 8) i.toNatClampNeg)
            have cN := fi_cl (C 15 0)
            obtain ⟨-, dL, -, -⟩ := tr_l h.1.1 tr_b0 (l := C (15 + 8) i.toNatClampNeg) p2 (by omega)
            have e4 : (0 + 4 + C (15 + 8) i.toNatClampNeg : Int32) = 4 + C (15 + 8) i.toNatClampNeg := by rw [Int32.zero_add]
            rw [e4] at dL
            unfold v_40
            rw [dP, dL, show v_35 (C (15 + 5) i.toNatClampNeg) (C (15 + 6) i.toNatClampNeg) = v_142 i R from dE, if_pos (by rw [fi_l, fi_i0]; omega)]
          rw [eH]
        · simp only [if_neg c4, if_neg (fun z => c4 (e.mp z))]
          exact ⟨trivial, t2_no h 3 (f := 3) (by decide)⟩
      · simp only [if_pos c2, if_neg c3, if_neg (fun z => c3 (e5.mp z).2)]
        exact ⟨trivial, h⟩
    · simp only [if_neg c2, if_neg (fun z => c2 (e5.mp z).1)]
      exact ⟨trivial, h⟩
end PQ
