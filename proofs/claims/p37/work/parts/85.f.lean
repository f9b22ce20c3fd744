/-! Duel on both sides: answers and what it tells alike. -/
theorem dq_0 {R : fl_M} (J : fl_J) {a b n : Int32} (h : ¬ dw_B R a b n) : fl_C 180 [.ref 81, .int a, .int b, .int n] R J (some (.int (-1)), R, J) :=
  fl_Co (B := fB180) rfl rfl (ts_180_0 a b n R J (fun _ _ _ => rfl) (fun z1 z2 z3 z4 _ => absurd ⟨z1, z2, z3, z4⟩ h) (fun z1 z2 z3 z4 _ => absurd ⟨z1, z2, z3, z4⟩ h) (fun _ _ _ _ => rfl) (fun _ _ => rfl) (fun _ => rfl))
theorem dq_1 {R A : fl_M} {N : Nat} (J : fl_J) {a b n : Int32} (r1 : 0 ≤ (R 81 1).toInt ∧ (R 81 1).toInt ≤ 8) (r4 : 0 ≤ (R 81 4).toInt ∧ (R 81 4).toInt ≤ 4) (r9 : ∀ j, j < 4 → 0 ≤ (R 96 j).toInt ∧ (R 96 j).toInt ≤ 9) (hA : tr 24 3776 A (lr_160_2 R)) (hN : (A 24 0).toNatClampNeg = N) (h : dw_B R a b n) (r : Int32) (hr : r.toInt = gr a.toNatClampNeg b.toNatClampNeg N (2 * n.toNatClampNeg) (lr_160_2 R)) : ∃ X, fl_C 180 [.ref 81, .int a, .int b, .int n] R J (some (.int 1), X, J) ∧ fD R X ∧ X 81 11 = r := by
  have id : fD R R := ⟨fun _ _ => rfl, fun _ _ => rfl, fun _ _ => rfl⟩
  obtain ⟨b1, b2, b3, b4⟩ := h
  have hz := dw_z (X := R) r1 r4 (fun j hj => (r9 j hj).1) 0 (by decide)
  have z96 := hz.1 96 (by decide)
  have hf : fD R (fl_u (lr_161_2 1 (lr_181_7 0 (lr_160_2 R))) 97 4 (v_181 a b 0 R)) := fD_u (fD_R id hz) (Or.inr rfl)
  obtain ⟨T, T4, e1, e2⟩ := dv_2 b4.1 b4.2
  rw [← e2] at hr
  have eA : A 24 0 = R 81 1 := by rw [hA.1.1, fw_160 (by decide)]
  have cA := fi_cl (A 24 0)
  have ca := fi_cl a
  have cb := fi_cl b
  rw [eA] at cA
  have hN' := hN
  rw [eA] at hN
  have es : ((R 81 1) - 1).toInt = (R 81 1).toInt - 1 := by rw [fi_sub (by rw [fi_i1]; omega) (by rw [fi_i1]; omega), fi_i1]
  obtain ⟨a1, a2⟩ := b1
  obtain ⟨c1, c2⟩ := b2
  have a1' := a1
  have a2' := a2
  have c1' := c1
  have c2' := c2
  rw [fi_l, fi_i0] at a1' c1'
  rw [fi_l, es] at a2' c2'
  have la : a.toNatClampNeg < N := by omega
  have lb : b.toNatClampNeg < N := by omega
  cases T with
  | zero =>
    have c : ¬ 0 < 2 * n := by rw [e1]; decide
    have hv := ly_v (a := a) (b := b) (s := fun _ => 0) hA hN' id (T := 0) (by decide) (fun j hj => absurd hj (Nat.not_lt_zero j)) (by omega) (by omega) la lb
    refine ⟨_, fl_Co (B := fB180) rfl rfl (ts_180_0 a b n R J (fun _ _ z => absurd z b3) (fun _ _ _ _ z => absurd z c) (fun _ _ _ _ _ => ts_180_66 a b n (2 * n) 0 .null _ J (fun z => absurd z c) (fun z => absurd z c) (fun z => absurd z c) (fun z => absurd z c) (fun z => absurd z c) (fun _ => rfl)) (fun _ _ _ z => absurd b4 z) (fun _ z => absurd ⟨c1, c2⟩ z) (fun z => absurd ⟨a1, a2⟩ z)), fD_11 hf, ?_⟩
    rw [fl_us, fl_us]
    exact Int32.toInt_inj.mp (hv.trans hr.symm)
  | succ d =>
    have c : 0 < 2 * n := by rw [e1]; exact dqP (d + 1) (by omega) (by omega)
    have ev : (d + 1) % 2 = 0 := by omega
    obtain ⟨v, hv, hv2⟩ := dq182 (k := 0) (d := d) (by decide) (by omega) (fl_u (lr_161_2 1 (lr_181_7 0 (lr_160_2 R))) 97 4 (v_181 a b 0 R))
    have hv : m_182 0 (fl_u (lr_161_2 1 (lr_181_7 0 (lr_160_2 R))) 97 4 (v_181 a b 0 R)) = fl_u (fl_u (fl_u (lr_161_2 1 (lr_181_7 0 (lr_160_2 R))) 97 4 (v_181 a b 0 R)) 96 0 0) 97 0 v := hv
    have t0 := dqP (d + 1) (by omega) (by omega)
    have run : dqD R J r (dqS a b n (d + 1) 0 .null (fl_u (fl_u (fl_u (lr_161_2 1 (lr_181_7 0 (lr_160_2 R))) 97 4 (v_181 a b 0 R)) 96 0 0) 97 0 v) J) := by
      refine dqk hA hN' (by omega) (by omega) la lb r4 (T := d + 1) (by omega) ev r d 0 (by omega) (fun _ => 0) (fun _ => 0) (fun M' u6 hI i6 i7 => ?_) (N + 1) 0 .null _ (by omega) ⟨fD_u (fD_u hf (Or.inl rfl)) (Or.inr rfl), fun j hj => ?_, fun j hj => absurd hj (Nat.not_lt_zero j), fun j hj => absurd hj (Nat.not_lt_zero j)⟩ ?_ ?_
      · obtain ⟨gf_, -⟩ := hI
        have f81 : M' 81 1 = R 81 1 := gf_.2.1 1 (by decide)
        obtain ⟨n1, -, -, n4⟩ := dqN 0 (by decide)
        have lt : Int32.ofNat 0 + (-1) < 0 := by decide
        have c6 : M' 81 1 < M' 96 (Int32.ofNat 0).toNatClampNeg := by rw [n4, fi_l, f81]; omega
        refine ⟨_, fD_11 (fD_u gf_ (Or.inr rfl)), ?_, ts_180_66 a b n (Int32.ofNat (d + 1)) (Int32.ofNat 0) u6 M' J (fun _ z => absurd z n1) (fun _ _ _ _ => ts_180_66 a b n (Int32.ofNat (d + 1)) (Int32.ofNat 0 + (-1)) _ _ J (fun _ _ => rfl) (fun _ z => absurd lt z) (fun _ z => absurd lt z) (fun _ z => absurd lt z) (fun _ z => absurd lt z) (fun z => absurd t0 z)) (fun _ _ _ z => absurd lt z) (fun _ _ z => absurd c6 z) (fun _ _ z => absurd c6 z) (fun z => absurd t0 z)⟩
        rw [fl_us, fl_us, n4]
        exact Int32.toInt_inj.mp (i7.trans hr.symm)
      · rw [fl_un (by decide)]
        by_cases hj0 : j = 0
        · rw [hj0, fl_us]; decide
        · rw [fl_uo (Or.inr hj0), fl_un (by decide), z96]; exact r9 j hj
      · rw [fl_un (by decide), fl_us]; rfl
      · rw [fl_us, hv2]; rfl
    obtain ⟨X, x1, x2, x3⟩ := run
    refine ⟨X, fl_Co (B := fB180) rfl rfl (ts_180_0 a b n R J (fun _ _ z => absurd z b3) (fun _ _ _ _ _ => ?_) (fun _ _ _ _ z => absurd c z) (fun _ _ _ z => absurd b4 z) (fun _ z => absurd ⟨c1, c2⟩ z) (fun z => absurd ⟨a1, a2⟩ z)), x1, x2⟩
    rw [hv, e1]
    exact x3
theorem dv_x {x c r : Int32} (e : c = r) (h : 0 ≤ c.toInt ∧ c.toInt ≤ 8) : ¬ ((x < 0) ∨ (¬ (x < c))) ↔ ((¬ (x < 0)) ∧ (¬ (r - 1 < x))) := by
  subst e
  rw [fi_l, fi_l, fi_l, fi_i0, fi_sub (by rw [fi_i1]; omega) (by rw [fi_i1]; omega), fi_i1]
  omega
theorem dv_e {C R : fl_M} (e : C 15 0 = R 81 1) (h : 0 ≤ (C 15 0).toInt ∧ (C 15 0).toInt ≤ 8) (a b n : Int32) : dv_B C a b n ↔ dw_B R a b n := by
  unfold dv_B dw_B
  rw [dv_x e h, dv_x e h]
section PTE
variable {xs : Nat → Int32} {i : Nat}
theorem pt_31E : pt_ok pr_e 81 180 (la_vs xs i 3 1) := by
  intro h hT
  obtain ⟨⟨hI, hs, ht⟩, h2, hj⟩ := hT
  have hg := ft_gI hI hs
  obtain ⟨hp, hkw, m, hm5, hmw⟩ := hI
  obtain ⟨o1, h1, x1, x2, x3, x4, w1, rfl, -⟩ := kd31b h hkw hp
  have lo : ∀ a, 81 ≤ a → h1[a]? = h[a]? := fun a ha => x3 a (Or.inl ha)
  have hmw1 := mw_same hmw lo
  obtain ⟨o2, h3, y1, y2, y3, y4, w2, rfl, -⟩ := md31 m h1 hm5 hmw1 x2
  have hi : ∀ a, a < 81 → h3[a]? = h1[a]? := fun a ha => y3 a (Or.inl ha)
  have s1 := (fl_all 12 _ _ _ _ _ x1 hs).1
  obtain ⟨f11, l13, l14⟩ := fy_M hs s1 (fy_run _ _ _ _ _ _ rfl x1)
  obtain ⟨-, -, m1, hm1, g1⟩ := n_I s1 ⟨x2, x4, m, hm5, hmw1⟩
  have q4 := g1.2.2.1
  have l1 : ∀ a, 81 ≤ a → fm_i h1 a = fm_i h a := fun a ha => gm_i (lo a ha)
  have t1 : t2 (fm_i h) (fm_i h1) := t2_c h2 (fun _ _ => rfl) (fun k hk => l1 k (by omega)) (fun j _ => by rw [l1 82 (by decide)])
  have hA := as_0 t1.1 (a := fm_i h) (b := fm_i h1) (fun _ _ => rfl) ⟨fun _ _ => rfl, fun _ _ => rfl⟩
  have hk := (as_k t1.1 hA).1
  have ev := dv_e (C := fm_i h) (R := fm_i h1) t1.1.1.1.1 t1.1.1.1.2.2.1 (xs (i + 1)) (xs (i + 1 + 1)) (xs (i + 1 + 1 + 1))
  have key : (∃ (v : Int32) (X : fl_M), w1 = .int v ∧ fl_C 180 (.ref 81 :: la_vs xs i 3 1) (fm_i h1) (fm_l h1) (some (.int v), X, fm_l h1) ∧ fD (fm_i h1) X ∧ fm_i h1 0 12 = X 81 11) ∨ ∃ v : Int32, w1 = .int v ∧ fl_C 180 (.ref 81 :: la_vs xs i 3 1) (fm_i h1) (fm_l h1) (some (.int v), fm_i h1, fm_l h1) ∧ fm_i h1 0 12 = fm_i h 0 12 := by
    by_cases hv : dv_B (fm_i h) (xs (i + 1)) (xs (i + 1 + 1)) (xs (i + 1 + 1 + 1))
    · obtain ⟨r, M', hF, -, hr⟩ := dv_1 (fm_l h) hv hA.1 hk
      obtain ⟨-, b1, n1, -⟩ := fl_use x1 hs hF
      obtain ⟨X, hG, fd, e11⟩ := dq_1 (fm_l h1) g1.1 (by omega) g1.2.2.2.2.2.2.2.2.2.2.2.2.2 hA.1 (by rw [hk]) (ev.mp hv) r hr
      refine Or.inl ⟨1, X, Option.some.inj b1, hG, fd, ?_⟩
      have n1 : fm_i h1 = fl_u M' 0 12 r := n1
      rw [e11, n1, fl_us]
    · obtain ⟨-, b1, n1, -⟩ := fl_use x1 hs (dv_0 (fm_i h) (fm_l h) hv)
      have n1 : fm_i h1 = fm_i h := n1
      exact Or.inr ⟨-1, Option.some.inj b1, dq_0 _ (fun z => hv (ev.mpr z)), by rw [n1]⟩
  have key2 : ∃ (v : Int32) (X : fl_M), w1 = .int v ∧ fl_C 180 (.ref 81 :: la_vs xs i 3 1) (fm_i h1) (fm_l h1) (some (.int v), X, fm_l h1) ∧ fD (fm_i h1) X ∧ (qa → fm_i h1 0 12 = X 81 11) := by
    rcases key with ⟨v, X, k1, k2, k3, k4⟩ | ⟨v, k1, k2, k4⟩
    · exact ⟨v, X, k1, k2, k3, fun _ => k4⟩
    · exact ⟨v, _, k1, k2, ⟨fun _ _ => rfl, fun _ _ => rfl, fun _ _ => rfl⟩, fun z => by rw [k4, l1 81 (by decide)]; exact h2.2.1 z⟩
  obtain ⟨v, X, hw, hG, fd, hq⟩ := key2
  obtain ⟨s3, b2, n3, k3⟩ := fl_use y1 s1 hG
  have b2 : some w2 = some (Value.int v) := b2
  cases b2
  have m3 : fm_i h3 = X := n3
  have j3 : fm_l h3 = fm_l h1 := k3
  clear n3 k3
  subst m3
  have d1 : ∀ a, (a ∈ ([1, 2, 3, 4, 5, 6, 7, 8, 9, 10, 11, 12, 13, 14, 15, 16, 17, 18, 19, 20, 21, 22, 23, 42, 43, 44, 45, 46, 47, 48, 49, 50, 51, 52, 53, 54, 55, 56, 57, 58, 80] : List Nat)) → fm_i h3 a = fm_i h a := fun a ha => by
    have l : ∀ a ∈ ([1, 2, 3, 4, 5, 6, 7, 8, 9, 10, 11, 12, 13, 14, 15, 16, 17, 18, 19, 20, 21, 22, 23, 42, 43, 44, 45, 46, 47, 48, 49, 50, 51, 52, 53, 54, 55, 56, 57, 58, 80] : List Nat), a < 81 := by decide
    rw [gm_i (hi a (l a ha))]
    exact gm_i (x3 a (Or.inr ha))
  have d2 : ∀ c, (c ≠ 81 ∧ c ≠ 82 ∧ c ≠ 96 ∧ c ≠ 97) → 81 ≤ c → fm_i h3 c = fm_i h c := fun c hc h8 => (fd.1 c hc).trans (l1 c h8)
  have d3 : ∀ j, j ≠ 11 → fm_i h3 81 j = fm_i h 81 j := fun j hj => by rw [fd.2.1 j hj, l1 81 (by decide)]
  refine ⟨w1, h1, _, h3, x1, y1, ⟨v, hw, rfl⟩, s1, ⟨⟨y2, kw_same x4 hi, y4⟩, s3, ft_cong (fun a ha => ?_) ht⟩, t2_q h2 (fun c hc => d1 c ?_) ?_ (d1 80 (by decide)) (fun z => ?_) (d3 1 (by decide)) (d3 4 (by decide)) (d3 14 (by decide)) (fun k hk => d2 k (by omega) (by omega)) (d2 91 (by decide) (by decide)) (fun j hj => by rw [fd.2.2 j hj, l1 82 (by decide)]), ?_⟩
  · unfold ft_d at ha
    rcases Nat.lt_or_ge a 81 with h81 | h81
    · refine d1 a ?_
      simp only [List.mem_cons, List.not_mem_nil, or_false]
      omega
    · exact d2 a (by omega) h81
  · simp only [List.mem_cons, List.not_mem_nil, or_false]
    omega
  · rw [gm_i (hi 0 (by decide))]
    exact f11
  · rw [gm_i (hi 0 (by decide))]
    exact hq z
  · refine ⟨?_, ?_⟩
    · rw [j3, gm_l (lo 81 (by decide)), l13]
      exact hj.1
    · rw [j3, gm_l (lo 81 (by decide)), l14]
      exact hj.2
theorem pt_31 : pt_ok (pr_c false) 81 180 (la_vs xs i 3 1) := pt_ec pt_31E
theorem pt_35E : pt_ok pr_e 90 190 (la_vs xs i 0 1) := pt_k kd35 md35 (fun C R J J' h hj hf hg hg1 => ⟨_, _, _, _, _, _, cc_90 C J, cc_190 R J', ⟨_, rfl, congrArg Value.int (as_p trivial h).symm⟩, h, hj⟩) (hft_d (by decide) (by decide))
end PTE
