/-! What state changes leave alone: what is told and asked. -/
theorem ite_c {p : Prop} [Decidable p] {A B M : fl_M} {c : Nat} (h1 : A c = M c) (h2 : B c = M c) : (if p then A else B) c = M c := by
  split
  · exact h1
  · exact h2
section OC
variable {M : fl_M} {c : Nat}
theorem oc_a (hc : c < 15 ∨ 58 < c) {wh li am : Int32} : m_45 wh li am 15 (m_44 wh li am 42 M) c = M c := by
  funext j
  exact (fr_45 (by omega)).trans (fr_44 (by omega))
theorem oc_42 (hc : c < 15 ∨ 58 < c) : m_42 M c = M c := by
  unfold m_42
  repeat' (first | with_reducible rfl | with_reducible exact oc_a hc | with_reducible apply ite_c)
theorem oc_47 (hc : c < 15 ∨ 58 < c) {l n : Int32} : m_47 l n M c = M c := by
  unfold m_47
  repeat' (first | with_reducible rfl | with_reducible exact oc_a hc | with_reducible apply ite_c)
theorem oc_48 (hc : c < 15 ∨ 58 < c) {l : Int32} : m_48 l M c = M c := by
  unfold m_48
  repeat' (first | with_reducible rfl | with_reducible exact oc_a hc | with_reducible apply ite_c)
theorem oc_49 (hc : c < 15 ∨ 58 < c) {l : Int32} : m_49 l M c = M c := by
  unfold m_49
  repeat' (first | with_reducible rfl | with_reducible exact oc_a hc | with_reducible apply ite_c)
theorem oc_ag (hc : c < 15 ∨ 58 < c) : lr_51_9 (lr_22_53 15 (lr_22_18 15 (fl_u (fl_u (fl_u M 15 2 0) 15 3 (-9)) 15 4 0))) c = M c := by
  have e : lr_51_9 (lr_22_53 15 (lr_22_18 15 (fl_u (fl_u (fl_u M 15 2 0) 15 3 (-9)) 15 4 0))) c = fl_u (fl_u (fl_u M 15 2 0) 15 3 (-9)) 15 4 0 c := by
    funext j
    exact ((fr_51_9 (by omega)).trans (fr_22_53 (by omega))).trans (fr_22_18 (by omega))
  rw [e, fl_un (by omega), fl_un (by omega), fl_un (by omega)]
theorem oc_50 (hc : c < 15 ∨ 58 < c) {n : Int32} : m_50 n M c = M c := by
  unfold m_50
  repeat' (first | with_reducible rfl | with_reducible exact (oc_ag hc).trans (fl_un (by omega)) | with_reducible apply ite_c)
theorem oc_cp (hc : c < 15 ∨ 58 < c) {D E : Nat} (hD : 42 ≤ D ∧ D ≤ 55) {v : Int32} : lr_54_10 D E (fl_u M D 0 v) c = M c := by
  have e : lr_54_10 D E (fl_u M D 0 v) c = fl_u M D 0 v c := by
    funext j
    exact fr_54_10 (by omega)
  rw [e, fl_un (by omega)]
theorem oc_52 (hc : c < 15 ∨ 58 < c) {k : Int32} : m_52 k M c = M c := by
  unfold m_52
  by_cases c1 : (k < 0) ∨ (¬ (k < 3))
  · rw [if_pos c1]
  · rw [if_neg c1]
    obtain ⟨k0, k2, k3⟩ := k3_R c1
    refine ite_c rfl ?_
    exact oc_cp hc (by rw [ka_46]; omega)
theorem oc_89 (hc : c < 15 ∨ 58 < c) {t : Int32} : m_89 t M c = M c := by
  unfold m_89
  repeat' (first | with_reducible exact oc_a hc | with_reducible apply ite_c)
theorem oc_88 (hc : c < 15 ∨ 58 < c) {n seed : Int32} : m_88 n seed M c = M c := by
  have hl : (lr_88_60 n seed.toInt64 M).2 c = M c := by
    unfold lr_88_60 lq_88_60
    refine it_k (fun q : Int64 × fl_M => q.2 c = M c) rfl (fun m q hq => ?_)
    unfold ls_88_60
    exact (oc_89 hc).trans hq
  unfold m_88
  repeat' (first | with_reducible rfl | with_reducible exact hl | with_reducible apply ite_c)
theorem or_k (hc : ¬ c = 82) {v : Int32} : fl_u (lr_149_2 M) 82 0 v c = M c := by
  rw [fl_un hc]
  funext j
  exact fw_149 hc
theorem or_148 (hc : ¬ c = 82) : m_148 M c = M c := by
  unfold m_148
  refine ite_c rfl (ite_c rfl ?_)
  have e : ∀ X : fl_M, m_150 0 0 X c = X c := fun X => by funext j; exact fw_150 hc
  rw [e]
  exact or_k hc
theorem or_151 (hc : ¬ c = 82) {l n : Int32} : m_151 l n M c = M c := by
  unfold m_151
  repeat' (first | with_reducible rfl | with_reducible exact (fl_un hc).trans (or_k hc) | with_reducible apply ite_c)
theorem or_152 (hc : ¬ c = 82) {l : Int32} : m_152 l M c = M c := by
  unfold m_152
  repeat' (first | with_reducible rfl | with_reducible exact (fl_un hc).trans (or_k hc) | with_reducible apply ite_c)
theorem or_153 (hc : ¬ c = 82) {l : Int32} : m_153 l M c = M c := by
  unfold m_153
  repeat' (first | with_reducible rfl | with_reducible exact (fl_un hc).trans (or_k hc) | with_reducible apply ite_c)
theorem fw_154 (g0 : ¬ c = 82) {i1 i2 : Int32} : lr_154_29 i1 i2 M c = M c := by
  unfold lr_154_29 lq_154_29
  have h := ix_k (f := ls_154_29 i1 i2) (n := 23) (a := M) (fun q : fl_M => q c = M c) (fun q : fl_M => q c = M c) rfl (fun m q hq => by
    unfold ls_154_29
    split
    · exact (fl_un g0).trans hq
    · exact hq)
  revert h
  cases fx_ix (ls_154_29 i1 i2) 23 M with
  | inl b => exact id
  | inr b => exact id
theorem or_154 (hc : ¬ c = 82) {n : Int32} : m_154 n M c = M c := by
  unfold m_154
  repeat' (first | with_reducible rfl | with_reducible exact (fl_un hc).trans (fw_154 hc) | with_reducible apply ite_c)
theorem or_156 (hc : ¬ c = 82) {a b : Int32} : lr_156_2 a b M c = M c := by
  funext j
  exact fw_156 hc
theorem or_155 (hc : ¬ c = 82) {k : Int32} : m_155 k M c = M c := by
  unfold m_155
  repeat' (first | with_reducible rfl | with_reducible exact or_156 hc | with_reducible apply ite_c)
theorem or_189 (hc : ¬ c = 82) {t : Int64} : m_189 t M c = M c := by
  have e : m_150 0 0 M c = M c := by funext j; exact fw_150 hc
  unfold m_189
  repeat' (first | with_reducible rfl | with_reducible exact fl_un hc | with_reducible exact e | with_reducible apply ite_c)
theorem or_188 (hc : ¬ c = 82) {n seed : Int32} : m_188 n seed M c = M c := by
  have hl : (lr_188_58 n seed.toInt64 M).2 c = M c := by
    unfold lr_188_58 lq_188_58
    refine it_k (fun q : Int64 × fl_M => q.2 c = M c) rfl (fun m q hq => ?_)
    unfold ls_188_58
    exact ((or_189 hc).trans (or_k hc)).trans hq
  unfold m_188
  repeat' (first | with_reducible rfl | with_reducible exact hl | with_reducible apply ite_c)
end OC
section TS
variable {C R : fl_M}
theorem td_f {C' R' : fl_M} (h : td C R) (eC : ∀ c, (c < 15 ∨ 58 < c) → C' c = C c) (eR : ∀ c, ¬ c = 82 → R' c = R c) : td C' R' := by
  obtain ⟨d1, d2, d3⟩ := h
  refine ⟨?_, ?_, fun f hf => ?_⟩
  · rw [eC 0 (by omega), eR 81 (by decide)]; exact d1
  · rw [eC 0 (by omega), eR 81 (by decide)]; exact d2
  · rw [eC 80 (by omega), eR 91 (by decide)]; exact d3 f hf
theorem yr_2 (h : t2 C R) : v_42 C = v_148 R ∧ t2 (m_42 C) (m_148 R) := ⟨(yr_p h.1).1, (yr_p h.1).2, td_f h.2 (fun _ => oc_42) (fun _ => or_148)⟩
theorem ch_2 (h : t2 C R) (l n : Int32) : v_47 l n C = v_151 l n R ∧ t2 (m_47 l n C) (m_151 l n R) := ⟨(ch_p h.1 l n).1, (ch_p h.1 l n).2, td_f h.2 (fun _ z => oc_47 z) (fun _ z => or_151 z)⟩
theorem ct_2 (h : t2 C R) (l : Int32) : v_48 l C = v_152 l R ∧ t2 (m_48 l C) (m_152 l R) := ⟨(ct_p h.1 l).1, (ct_p h.1 l).2, td_f h.2 (fun _ z => oc_48 z) (fun _ z => or_152 z)⟩
theorem wx_2 (h : t2 C R) (l : Int32) : v_49 l C = v_153 l R ∧ t2 (m_49 l C) (m_153 l R) := ⟨(wx_p h.1 l).1, (wx_p h.1 l).2, td_f h.2 (fun _ z => oc_49 z) (fun _ z => or_153 z)⟩
theorem un_2 (h : t2 C R) (n : Int32) : (¬ n = C 42 0 → v_50 n C = v_154 n R) ∧ t2 (m_50 n C) (m_154 n R) := ⟨(un_p h.1 n).1, (un_p h.1 n).2, td_f h.2 (fun _ z => oc_50 z) (fun _ z => or_154 z)⟩
theorem kp_2 (h : t2 C R) (k : Int32) : v_52 k C = v_155 k R ∧ t2 (m_52 k C) (m_155 k R) := ⟨(kp_p h.1 k).1, (kp_p h.1 k).2, td_f h.2 (fun _ z => oc_52 z) (fun _ z => or_155 z)⟩
theorem lo_2 (h : t2 C R) (n seed : Int32) : v_88 n seed C = v_188 n seed R ∧ t2 (m_88 n seed C) (m_188 n seed R) := ⟨(lo_p h.1 n seed).1, (lo_p h.1 n seed).2, td_f h.2 (fun _ z => oc_88 z) (fun _ z => or_188 z)⟩
theorem on_2 (h : t2 C R) (k : Int32) : v_55 k C = v_157 k R ∧ t2 (m_55 k C) (m_157 k R) := by
  obtain ⟨hv, ht⟩ := on_p h.1 k
  refine ⟨hv, ?_⟩
  revert ht
  unfold m_55 m_157
  by_cases c1 : (k < 0) ∨ (¬ (k < 3))
  · simp only [if_pos c1, if_neg (fun z => k3_A.mp z c1)]
    exact fun _ => h
  · simp only [if_neg c1, if_pos (k3_A.mpr c1)]
    obtain ⟨k0, k2, k3⟩ := k3_R c1
    have eb := kb_i k0 k2
    have ib : (944 * (1 + k) + 0 : Int32).toNatClampNeg = 944 + 944 * k.toNatClampNeg := by rw [Int32.add_zero]; exact fj_nn eb
    rw [ka_46, ib]
    obtain ⟨K1, K2, K3, K4⟩ := h.1.2.2.2 k.toNatClampNeg k3
    rw [← K1]
    by_cases c2 : C (47 + 4 * k.toNatClampNeg) 0 = (-1)
    · simp only [if_pos c2, if_pos ((ft_B K2).mpr c2)]
      exact fun _ => t2_no h 1 (f := 1) (by decide)
    · simp only [if_neg c2, if_neg (fun z => c2 ((ft_B K2).mp z))]
      exact fun ht => ⟨ht, td_f h.2 (fun c z => (oc_ag z).trans (oc_cp z (by omega))) (fun c z => or_156 z)⟩
end TS
