/-! Kept, and gone on from. -/
theorem ka_46 (j : Nat) : fl_ar 46 j = 47 + 4 * j := by
  unfold fl_ar
  rw [if_pos rfl]
theorem dt_eq {K O : Nat} {E : fl_M} (hd : K + 4 ≤ O ∨ O + 4 ≤ K) (h4 : (E K 0).toNatClampNeg ≤ 40) : ∀ c j, lr_54_10 K O E c j = if (K + 1 ≤ c ∧ c ≤ K + 3) ∧ j < (E K 0).toNatClampNeg then E (O + (c - K)) j else E c j := by
  unfold lr_54_10 lq_54_10
  refine it_p (f := ls_54_10 K O) (n := (E K 0).toNatClampNeg) (a := E) (fun m q => ∀ c j, q c j = if (K + 1 ≤ c ∧ c ≤ K + 3) ∧ j < m then E (O + (c - K)) j else E c j) (fun c j => by rw [if_neg (by omega)]) (fun m q hm hq c j => ?_)
  have en := fi_at (m := m) (by omega)
  unfold ls_54_10
  rw [en]
  have rO : ∀ k, 1 ≤ k → k ≤ 3 → q (O + k) m = E (O + k) m := fun k h1 h2 => by rw [hq, if_neg (by omega)]
  have a1 : ∀ (i : Nat) (v : Int32) (k : Nat), 1 ≤ k → k ≤ 3 → fl_u q (K + 1) i v (O + k) m = q (O + k) m := fun i v k h1 h2 => fl_uo (Or.inl (by omega))
  by_cases hj : j = m
  · subst hj
    by_cases hc : K + 1 ≤ c ∧ c ≤ K + 3
    · rw [if_pos ⟨hc, by omega⟩]
      have hk : c = K + 1 ∨ c = K + 2 ∨ c = K + 3 := by omega
      rcases hk with rfl | rfl | rfl
      · rw [fl_uo (Or.inl (by omega)), fl_uo (Or.inl (by omega)), fl_us, rO 1 (by omega) (by omega), show K + 1 - K = 1 by omega]
      · rw [fl_uo (Or.inl (by omega)), fl_us, fl_uo (Or.inl (by omega)), rO 2 (by omega) (by omega), show K + 2 - K = 2 by omega]
      · rw [fl_us, fl_uo (Or.inl (by omega)), fl_uo (Or.inl (by omega)), rO 3 (by omega) (by omega), show K + 3 - K = 3 by omega]
    · rw [if_neg (fun z => hc z.1), fl_uo (Or.inl (by omega)), fl_uo (Or.inl (by omega)), fl_uo (Or.inl (by omega)), hq, if_neg (fun z => hc z.1)]
  · rw [fl_uo (Or.inr hj), fl_uo (Or.inr hj), fl_uo (Or.inr hj), hq]
    by_cases hc : (K + 1 ≤ c ∧ c ≤ K + 3) ∧ j < m
    · rw [if_pos hc, if_pos ⟨hc.1, by omega⟩]
    · rw [if_neg hc, if_neg (by omega)]
theorem cr_eq {a b : Int32} {A B : Nat} {R : fl_M} (ha : a.toInt = A) (hb : b.toInt = B) (hA : A ≤ 3000) (hB : B ≤ 3000) (hd : B + 944 ≤ A ∨ A + 944 ≤ B) : ∀ c j, lr_156_2 a b R c j = if c = 82 ∧ B ≤ j ∧ j < B + 944 then R 82 (A + (j - B)) else R c j := by
  unfold lr_156_2 lq_156_2
  refine cp_it (fun m q hm _ => ?_) hd
  have em := fi_ti (m := m) (by omega)
  unfold ls_156_2
  rw [fj_nn (fj_pa hb em (by omega)), fj_nn (fj_pa ha em (by omega))]
theorem kb_i {k : Int32} (h0 : 0 ≤ k.toInt) (h2 : k.toInt ≤ 2) : (944 * (1 + k) : Int32).toInt = ((944 + 944 * k.toNatClampNeg : Nat) : Int) := by
  have e := fi_cl k
  have e1 : (1 + k).toInt = 1 + k.toInt := by rw [fi_add (by rw [fi_i1]; omega) (by rw [fi_i1]; omega), fi_i1]
  have e9 : (944 : Int32).toInt = 944 := rfl
  rw [fi_mul (by rw [e9, e1]; omega) (by rw [e9, e1]; omega), e9, e1]
  omega
theorem k3_A {k : Int32} : ((¬ (k < 0)) ∧ (¬ (2 < k))) ↔ ¬ ((k < 0) ∨ (¬ (k < 3))) := by
  rw [fi_l, fi_l, fi_l, fi_i0, fj_2, fi_i3]
  omega
theorem k3_R {k : Int32} (h : ¬ ((k < 0) ∨ (¬ (k < 3)))) : 0 ≤ k.toInt ∧ k.toInt ≤ 2 ∧ k.toNatClampNeg < 3 := by
  rw [fi_l, fi_l, fi_i0, fi_i3] at h
  rw [fi_cl]
  omega
theorem kp_p {C R : fl_M} (h : tt C R) (k : Int32) : v_52 k C = v_155 k R ∧ tt (m_52 k C) (m_155 k R) := by
  obtain ⟨a0, a1, s1, s4, sd, d0, d4⟩ := tt_n h
  have ed := fi_cl (C 42 0)
  unfold v_52 v_155 m_52 m_155
  rw [← s4]
  by_cases c1 : (k < 0) ∨ (¬ (k < 3))
  · simp only [if_pos c1, if_neg (fun z => k3_A.mp z c1)]
    exact ⟨trivial, h⟩
  · simp only [if_neg c1, if_pos (k3_A.mpr c1)]
    obtain ⟨k0, k2, k3⟩ := k3_R c1
    by_cases c2 : C 15 1 = 0
    · simp only [if_pos c2]
      exact ⟨trivial, h⟩
    · simp only [if_neg c2]
      have eR := cr_eq (R := R) (a := 0) (b := 944 * (1 + k)) (A := 0) rfl (kb_i k0 k2) (by omega) (by omega) (Or.inr (by omega))
      rw [ka_46]
      obtain ⟨E, hE⟩ : ∃ E : fl_M, E = fl_u C (47 + 4 * k.toNatClampNeg) 0 (C 42 0) := ⟨_, rfl⟩
      have eE : ∀ c, c ≠ 47 + 4 * k.toNatClampNeg → E c = C c := fun c hc => by rw [hE, fl_un hc]
      have eK : E (47 + 4 * k.toNatClampNeg) 0 = C 42 0 := by rw [hE, fl_us]
      have eC := dt_eq (K := 47 + 4 * k.toNatClampNeg) (O := 42) (E := E) (Or.inr (by omega)) (by rw [eK]; omega)
      rw [eK] at eC
      rw [← hE]
      have o42 : lr_54_10 (47 + 4 * k.toNatClampNeg) 42 E 42 0 = C 42 0 := by rw [eC, if_neg (by omega), eE 42 (by omega)]
      have oO : ∀ c, (c < 47 + 4 * k.toNatClampNeg ∨ 47 + 4 * k.toNatClampNeg + 4 ≤ c) → lr_54_10 (47 + 4 * k.toNatClampNeg) 42 E c = C c := fun c hc => by funext j; rw [eC, if_neg (by omega), eE c (by omega)]
      have oK : lr_54_10 (47 + 4 * k.toNatClampNeg) 42 E (47 + 4 * k.toNatClampNeg) 0 = C 42 0 := by rw [eC, if_neg (by omega), eK]
      have oD : ∀ d, 1 ≤ d → d ≤ 3 → ∀ j, j < (C 42 0).toNatClampNeg → lr_54_10 (47 + 4 * k.toNatClampNeg) 42 E (47 + 4 * k.toNatClampNeg + d) j = C (42 + d) j := fun d h1 h2 j hj => by
        rw [eC, if_pos ⟨⟨by omega, by omega⟩, hj⟩, show 42 + (47 + 4 * k.toNatClampNeg + d - (47 + 4 * k.toNatClampNeg)) = 42 + d by omega, eE _ (by omega)]
      have qO : ∀ c, c ≠ 82 → lr_156_2 0 (944 * (1 + k)) R c = R c := fun c hc => by funext j; rw [eR, if_neg (fun z => hc z.1)]
      have qL : ∀ j, j < 944 + 944 * k.toNatClampNeg ∨ 944 + 944 * k.toNatClampNeg + 944 ≤ j → lr_156_2 0 (944 * (1 + k)) R 82 j = R 82 j := fun j hj => by rw [eR, if_neg (by omega)]
      have qK : ∀ j, j < 944 → lr_156_2 0 (944 * (1 + k)) R 82 (944 + 944 * k.toNatClampNeg + j) = R 82 (0 + j) := fun j hj => by rw [eR, if_pos ⟨rfl, by omega, by omega⟩, show 944 + 944 * k.toNatClampNeg + j - (944 + 944 * k.toNatClampNeg) = j by omega]
      have x15 : lr_54_10 (47 + 4 * k.toNatClampNeg) 42 E 15 = C 15 := oO 15 (by omega)
      have x22 : lr_54_10 (47 + 4 * k.toNatClampNeg) 42 E 22 = C 22 := oO 22 (by omega)
      obtain ⟨t1, t2, t3, t4⟩ := h
      have h8 := tr_n t1
      have u1 : lr_156_2 0 (944 * (1 + k)) R 81 1 = R 81 1 := by rw [qO 81 (by decide)]
      have u4 : lr_156_2 0 (944 * (1 + k)) R 81 4 = R 81 4 := by rw [qO 81 (by decide)]
      have uR : ∀ z, (83 ≤ z ∧ z ≤ 86) → lr_156_2 0 (944 * (1 + k)) R z = R z := fun z hz => qO z (by omega)
      refine ⟨by rw [o42, qL 0 (by omega), sd], tr_rc (tr_cc t1 (fun z hz => oO _ (by omega))) u1 u4 uR (fun z h1 h2 => qL _ (by omega)), kh_mv t2 h8 u1 u4 uR (fun j hj => qL _ (by omega)) o42 (fun n _ => by rw [oO (42 + 1) (by omega), oO (42 + 2) (by omega), oO (42 + 3) (by omega)]; exact ⟨rfl, rfl, rfl⟩) (by rw [x15]) (by rw [x15]) x22, by rw [o42]; exact t3, fun q hq => ?_⟩
      by_cases hqk : q = k.toNatClampNeg
      · subst hqk
        exact kh_mv t2 h8 u1 u4 uR (fun j hj => qK j hj) oK (fun n hn => ⟨oD 1 (by omega) (by omega) n hn, oD 2 (by omega) (by omega) n hn, oD 3 (by omega) (by omega) n hn⟩) (by rw [x15]) (by rw [x15]) x22
      · exact kh_mv (t4 q hq) h8 u1 u4 uR (fun j hj => qL _ (by omega)) (by rw [oO _ (by omega)]) (fun n _ => by rw [oO _ (by omega), oO _ (by omega), oO _ (by omega)]; exact ⟨rfl, rfl, rfl⟩) (by rw [x15]) (by rw [x15]) x22
theorem on_p {C R : fl_M} (h : tt C R) (k : Int32) : v_55 k C = v_157 k R ∧ tt (m_55 k C) (m_157 k R) := by
  obtain ⟨a0, a1, s1, s4, sd, d0, d4⟩ := tt_n h
  unfold v_55 v_157 m_55 m_157
  by_cases c1 : (k < 0) ∨ (¬ (k < 3))
  · simp only [if_pos c1, if_neg (fun z => k3_A.mp z c1)]
    exact ⟨trivial, h⟩
  · simp only [if_neg c1, if_pos (k3_A.mpr c1)]
    obtain ⟨k0, k2, k3⟩ := k3_R c1
    have eb := kb_i k0 k2
    have ib : (944 * (1 + k) + 0 : Int32).toNatClampNeg = 944 + 944 * k.toNatClampNeg := by rw [Int32.add_zero]; exact fj_nn eb
    rw [ka_46, ib]
    have hk := h.2.2.2 k.toNatClampNeg k3
    obtain ⟨K1, K2, K3, K4⟩ := hk
    rw [← K1]
    by_cases c2 : C (47 + 4 * k.toNatClampNeg) 0 = (-1)
    · simp only [if_pos c2, if_pos ((ft_B K2).mpr c2)]
      refine ⟨trivial, tt_c h (fun c hc => by rw [fl_un (by omega), fl_un (by omega)]) (by rw [fl_un (by decide), fl_uo (Or.inr (by decide))]) (by rw [fl_un (by decide), fl_uo (Or.inr (by decide))]) (fun z hz => by rw [fl_un (by omega), fl_un (by omega)]) (fun j _ => by rw [fl_un (by decide), fl_un (by decide)])⟩
    · simp only [if_neg c2, if_neg (fun z => c2 ((ft_B K2).mp z))]
      have eK := fi_cl (C (47 + 4 * k.toNatClampNeg) 0)
      have kp0 : 0 ≤ (C (47 + 4 * k.toNatClampNeg) 0).toInt := by
        have z := fi_ne c2
        rw [fi_m1] at z
        omega
      obtain ⟨hw, hf⟩ := K4 kp0
      obtain ⟨t1, t2, t3, t4⟩ := h
      have h8 := tr_n t1
      have eR := cr_eq (R := R) (a := 944 * (1 + k)) (b := 0) (B := 0) eb rfl (by omega) (by omega) (Or.inl (by omega))
      obtain ⟨F, hF⟩ : ∃ F : fl_M, F = fl_u C 42 0 (C (47 + 4 * k.toNatClampNeg) 0) := ⟨_, rfl⟩
      have eF : ∀ c, c ≠ 42 → F c = C c := fun c hc => by rw [hF, fl_un hc]
      have eF0 : F 42 0 = C (47 + 4 * k.toNatClampNeg) 0 := by rw [hF, fl_us]
      have eC := dt_eq (K := 42) (O := 47 + 4 * k.toNatClampNeg) (E := F) (Or.inl (by omega)) (by rw [eF0]; omega)
      rw [eF0] at eC
      rw [← hF]
      obtain ⟨E, hE⟩ : ∃ E : fl_M, E = lr_54_10 42 (47 + 4 * k.toNatClampNeg) F := ⟨_, rfl⟩
      rw [← hE] at eC ⊢
      have oO : ∀ c, (c < 42 ∨ 46 ≤ c) → E c = C c := fun c hc => by funext j; rw [eC, if_neg (by omega), eF c (by omega)]
      have o42 : E 42 0 = C (47 + 4 * k.toNatClampNeg) 0 := by rw [eC, if_neg (by omega), eF0]
      have oD : ∀ d, 1 ≤ d → d ≤ 3 → ∀ j, j < (C (47 + 4 * k.toNatClampNeg) 0).toNatClampNeg → E (42 + d) j = C (47 + 4 * k.toNatClampNeg + d) j := fun d h1 h2 j hj => by
        rw [eC, if_pos ⟨⟨by omega, by omega⟩, hj⟩, show 47 + 4 * k.toNatClampNeg + (42 + d - 42) = 47 + 4 * k.toNatClampNeg + d by omega, eF _ (by omega)]
      have ebg : lr_22_53 15 (lr_22_18 15 (fl_u (fl_u (fl_u E 15 2 0) 15 3 (-9)) 15 4 0)) = bgn 15 E := rfl
      rw [ebg]
      have tE : tr_s 15 E R := (tr_cc t1 (fun k hk => oO _ (by omega))).1
      have fE : ch_f (hb (944 + 944 * k.toNatClampNeg) (C (47 + 4 * k.toNatClampNeg) 0).toNatClampNeg 0) E R := by
        unfold ch_f
        rw [oO 15 (by omega), oO 22 (by omega)]
        exact hf
      have b1 := bg_tr tE fE
      obtain ⟨g0, g1, g2, -⟩ := bg_eq (T := 15) (C := E) (by rw [oO 15 (by omega)]; exact h8.1) (by rw [oO 15 (by omega)]; exact h8.2)
      have x42 : bgn 15 E 42 = E 42 := g0 42 (by omega) (by omega) (by omega) (by omega)
      obtain ⟨r1, r2, r3, r4⟩ := ag_tr (D := 47 + 4 * k.toNatClampNeg) (b := 944 + 944 * k.toNatClampNeg) (sz := (C (47 + 4 * k.toNatClampNeg) 0).toNatClampNeg) (n := (C (47 + 4 * k.toNatClampNeg) 0).toNatClampNeg) (C := C) (R := R) (E := bgn 15 E) hw (by omega) (by omega) b1 (by rw [x42, o42]) (fun m hm => by rw [g0 43 (by omega) (by omega) (by omega) (by omega), g0 44 (by omega) (by omega) (by omega) (by omega), g0 45 (by omega) (by omega) (by omega) (by omega)]; exact ⟨oD 1 (by omega) (by omega) m hm, oD 2 (by omega) (by omega) m hm, oD 3 (by omega) (by omega) m hm⟩)
      have hbn : hb (944 + 944 * k.toNatClampNeg) (C (47 + 4 * k.toNatClampNeg) 0).toNatClampNeg (C (47 + 4 * k.toNatClampNeg) 0).toNatClampNeg = 944 + 944 * k.toNatClampNeg := if_neg (by omega)
      rw [hbn] at r1
      have f42 : lr_51_9 (bgn 15 E) 42 0 = C (47 + 4 * k.toNatClampNeg) 0 := by rw [r2 42 (by omega), x42, o42]
      have fE2 : ∀ c, 24 ≤ c → lr_51_9 (bgn 15 E) c = E c := fun c hc => by rw [r2 c (by omega), g0 c (by omega) (by omega) (by omega) (by omega)]
      have f0 : lr_51_9 (bgn 15 E) 15 0 = C 15 0 := by rw [r3 0 (Or.inl rfl), g1, oO 15 (by omega)]
      have f1 : lr_51_9 (bgn 15 E) 15 1 = C 15 1 := by rw [r3 1 (Or.inr rfl), g2, oO 15 (by omega)]
      have f22 : lr_51_9 (bgn 15 E) 22 = C 22 := by rw [r4, g0 22 (by omega) (by omega) (by omega) (by omega), oO 22 (by omega)]
      have qO : ∀ c, c ≠ 82 → lr_156_2 (944 * (1 + k)) 0 R c = R c := fun c hc => by funext j; rw [eR, if_neg (fun z => hc z.1)]
      have qL : ∀ j, 944 ≤ j → lr_156_2 (944 * (1 + k)) 0 R 82 j = R 82 j := fun j hj => by rw [eR, if_neg (by omega)]
      have qK : ∀ j, j < 944 → lr_156_2 (944 * (1 + k)) 0 R 82 (0 + j) = R 82 (944 + 944 * k.toNatClampNeg + j) := fun j hj => by rw [eR, if_pos ⟨rfl, by omega, by omega⟩, show 0 + j - 0 = j by omega]
      have u1 : lr_156_2 (944 * (1 + k)) 0 R 81 1 = R 81 1 := by rw [qO 81 (by decide)]
      have u4 : lr_156_2 (944 * (1 + k)) 0 R 81 4 = R 81 4 := by rw [qO 81 (by decide)]
      have uR : ∀ z, (83 ≤ z ∧ z ≤ 86) → lr_156_2 (944 * (1 + k)) 0 R z = R z := fun z hz => qO z (by omega)
      have q00 : lr_156_2 (944 * (1 + k)) 0 R 82 0 = C (47 + 4 * k.toNatClampNeg) 0 := by
        have z := qK 0 (by omega)
        rw [Nat.add_zero, Nat.add_zero] at z
        rw [z, K1]
      refine ⟨by rw [f42, q00], tr_rc r1 u1 u4 uR (fun z h1 h2 => qK z (by omega)), kh_mv ⟨K1, K2, K3, K4⟩ h8 u1 u4 uR (fun j hj => qK j hj) f42 (fun n hn => ?_) f0 f1 f22, by rw [f42]; exact kp0, fun q hq => ?_⟩
      · rw [fE2 (42 + 1) (by omega), fE2 (42 + 2) (by omega), fE2 (42 + 3) (by omega)]
        exact ⟨oD 1 (by omega) (by omega) n hn, oD 2 (by omega) (by omega) n hn, oD 3 (by omega) (by omega) n hn⟩
      · exact kh_mv (t4 q hq) h8 u1 u4 uR (fun j hj => qL _ (by omega)) (by rw [fE2 _ (by omega), oO _ (by omega)]) (fun n _ => by rw [fE2 _ (by omega), fE2 _ (by omega), fE2 _ (by omega), oO _ (by omega), oO _ (by omega), oO _ (by omega)]; exact ⟨rfl, rfl, rfl⟩) f0 f1 f22
