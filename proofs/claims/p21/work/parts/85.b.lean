/-! Both sides one after the other, tied. -/
theorem ex_le {d d' k : Nat} {vs : List Value} {h h' : List va_E} {o : Option Value} (hd : d ≤ d') (x : sm_Ex 200 sm_ML sm_B d k vs h o h') : sm_Ex 200 sm_ML sm_B d' k vs h o h' := by
  induction hd with
  | refl => exact x
  | step _ ih => exact sm_Ex_succ _ _ _ _ _ _ ih
theorem fm_same {h h' : List va_E} {a : Nat} (e : h'[a]? = h[a]?) : fm_i h' a = fm_i h a := by
  funext i
  unfold fm_i
  rw [e]
def lw_T (h : List va_E) : Prop := lw_I h ∧ fl_sh h ∧ ft (fm_i h)
theorem ft_rng {H : aw_H} {h : List va_E} (hh : fl_sh h) (hw : aw_h H h) {c n : Nat} {lo hi : Int} {m : Nat} (hc : (c, .inr (.inl (0, n, [(0, m, [(lo, hi)])], []))) ∈ H) : ∀ j, j < m + 1 → lo ≤ (fm_i h c j).toInt ∧ (fm_i h c j).toInt ≤ hi := by
  intro j hj
  obtain ⟨e, he, f, rfl, h1, -⟩ := hw _ hc
  have g := h1 _ (List.mem_singleton.mpr rfl) j (Nat.zero_le _) (show j ≤ m by omega)
  rw [fm_i_arr hh he]
  exact ar_1 g
theorem ft_gI {h : List va_E} (hI : lw_I h) (hh : fl_sh h) : ft_g (fm_i h) := by
  obtain ⟨hp, hk, m, hm, hw⟩ := hI
  have hG := ah_sub_s (mwm_G m hm) hw
  exact ⟨ft_rng hh hk (c := 1) (n := 6) (lo := -1) (hi := 40) (m := 5) (by unfold kw; simp), ft_rng hh hk (c := 9) (n := 4) (lo := -1) (hi := 60) (m := 3) (by unfold kw; simp), ft_rng hh hG (c := 87) (n := 6) (lo := -1) (hi := 40) (m := 5) (by unfold mwG mw; simp), ft_rng hh hG (c := 89) (n := 4) (lo := -1) (hi := 60) (m := 3) (by unfold mwG mw; simp), by funext i; exact if_pos rfl⟩
def pr_c (b : Bool) (w1 w2 : Value) : Prop := w1.category = (if b then 2 else 1) ∧ w2.category = (if b then 2 else 1)
def pr_e (w1 w2 : Value) : Prop := ∃ x : Int32, w1 = .int x ∧ w2 = .int x
/-! Both sides, call by call: the tie that goes along. -/
def TT (h : List va_E) : Prop := lw_T h ∧ t2 (fm_i h) (fm_i h) ∧ jd (fm_l h) (fm_l h)
def pr_l (w1 w2 : Value) : Prop := ∃ x : Int64, w1 = .long x ∧ w2 = .long x
def pt_ok (P : Value → Value → Prop) (kc km : Nat) (vs : List Value) : Prop := ∀ h, TT h → ∃ w1 h1 w2 h2, sm_Ex 200 sm_ML sm_B 12 kc (.ref 0 :: vs) h (some w1) h1 ∧ sm_Ex 200 sm_ML sm_B 12 km (.ref 81 :: vs) h1 (some w2) h2 ∧ P w1 w2 ∧ fl_sh h1 ∧ TT h2
theorem pt_ec {kc km : Nat} {vs : List Value} (h : pt_ok pr_e kc km vs) : pt_ok (pr_c false) kc km vs := by
  intro H hT
  obtain ⟨w1, h1, w2, h2, x1, x2, ⟨v, rfl, rfl⟩, x4, x5⟩ := h H hT
  exact ⟨_, h1, _, h2, x1, x2, ⟨rfl, rfl⟩, x4, x5⟩
theorem pt_lc {kc km : Nat} {vs : List Value} (h : pt_ok pr_l kc km vs) : pt_ok (pr_c true) kc km vs := by
  intro H hT
  obtain ⟨w1, h1, w2, h2, x1, x2, ⟨v, rfl, rfl⟩, x4, x5⟩ := h H hT
  exact ⟨_, h1, _, h2, x1, x2, ⟨rfl, rfl⟩, x4, x5⟩
theorem f2_of {M M1 : fl_M} (ht : ft M) (hg : ft_g M) (h1 : ∀ a, 81 ≤ a → M1 a = M a) : f2 M M1 := by
  refine ⟨fun j hj => ?_, fun j hj => ?_⟩
  · rw [h1 87 (by decide), h1 88 (by decide)]
    exact ⟨(ht.1 j hj).1, (hg.1 j hj).1, (hg.1 j hj).2, (ht.1 j hj).2⟩
  · rw [h1 89 (by decide), h1 90 (by decide)]
    exact ⟨(ht.2 j hj).1, (hg.2.1 j hj).1, (hg.2.1 j hj).2, (ht.2 j hj).2⟩
theorem t2_q {C R C' R' : fl_M} (h : t2 C R) (eC : ∀ c, ((15 ≤ c ∧ c ≤ 23) ∨ (42 ≤ c ∧ c ≤ 58)) → C' c = C c) (c11 : C' 0 11 = C 0 11) (c80 : C' 80 = C 80) (q : qa → C' 0 12 = R' 81 11) (r1 : R' 81 1 = R 81 1) (r4 : R' 81 4 = R 81 4) (r14 : R' 81 14 = R 81 14) (eR : ∀ k, (83 ≤ k ∧ k ≤ 86) → R' k = R k) (r91 : R' 91 = R 91) (e82 : ∀ j, j < 3776 → R' 82 j = R 82 j) : t2 C' R' :=
  ⟨tt_c h.1 eC r1 r4 eR e82, q, by rw [c11, r14]; exact h.2.2.1, fun f hf => by rw [c80, r91]; exact h.2.2.2 f hf⟩
theorem pt_k {b : Bool} {P : Value → Value → Prop} {kc km : Nat} {vs : List Value} {Sc Sm : List Nat} (hk : kd_ok b kc Sc (.ref 0 :: vs)) (hm : md_ok b km Sm (.ref 81 :: vs))
    (H : ∀ (C R : fl_M) (J J' : fl_J), t2 C R → jd J J' → f2 C R → ft_g C → ft_g R → ∃ (vc vr : Value) (mc mr : fl_M) (jc jr : fl_J), fl_C kc (.ref 0 :: vs) C J (some vc, mc, jc) ∧ fl_C km (.ref 81 :: vs) R J' (some vr, mr, jr) ∧ P vc vr ∧ t2 mc mr ∧ jd jc jr)
    (hft : ∀ (M M1 M2 : fl_M) (J J1 : fl_J), ft M → ft_g M → ft_g M1 → (∀ a, (81 ≤ a ∨ a ∈ Sc) → M1 a = M a) → (∀ a, (a < 81 ∨ a ∈ Sm) → M2 a = M1 a) → (∀ r, fl_C kc (.ref 0 :: vs) M J r → M1 = r.2.1) → (∀ r, fl_C km (.ref 81 :: vs) M1 J1 r → M2 = r.2.1) → ft M2) : pt_ok P kc km vs := by
  intro h hT
  obtain ⟨⟨hI, hs, ht⟩, h2, hj⟩ := hT
  have hg := ft_gI hI hs
  obtain ⟨hp, hkw, m, hm5, hmw⟩ := hI
  obtain ⟨o1, h1, x1, x2, x3, x4, w1, rfl, c1⟩ := hk h hkw hp
  have lo : ∀ a, 81 ≤ a → h1[a]? = h[a]? := fun a ha => x3 a (Or.inl ha)
  have hmw1 := mw_same hmw lo
  obtain ⟨o2, h3, y1, y2, y3, y4, w2, rfl, c2⟩ := hm m h1 hm5 hmw1 x2
  have hi : ∀ a, a < 81 → h3[a]? = h1[a]? := fun a ha => y3 a (Or.inl ha)
  have s1 := (fl_all 12 _ _ _ _ _ x1 hs).1
  have hg1 : ft_g (fm_i h1) := ft_gI ⟨x2, x4, m, hm5, hmw1⟩ s1
  have l1 : ∀ a, 81 ≤ a → fm_i h1 a = fm_i h a := fun a ha => gm_i (lo a ha)
  have t1 : t2 (fm_i h) (fm_i h1) := t2_c h2 (fun _ _ => rfl) (fun k hk => l1 k (by omega)) (fun j _ => by rw [l1 82 (by decide)])
  have j1 : jd (fm_l h) (fm_l h1) := ⟨by rw [gm_l (lo 81 (by decide))]; exact hj.1, by rw [gm_l (lo 81 (by decide))]; exact hj.2⟩
  obtain ⟨vc, vr, mc, mr, jc, jr, hF, hG, hP, p1, p2⟩ := H _ _ _ _ t1 j1 (f2_of ht hg l1) hg hg1
  obtain ⟨a1, a2, t3, j3, s3⟩ := pt_c x1 y1 hs lo hi h2 hj hF hG (fun _ _ _ => ⟨p1, p2⟩)
  cases a1
  cases a2
  exact ⟨_, h1, _, h3, x1, y1, hP, s1, ⟨⟨y2, kw_same x4 hi, y4⟩, s3, hft _ _ _ _ _ ht hg hg1 (fun a ha => gm_i (x3 a ha)) (fun a ha => gm_i (y3 a ha)) (fun r hr => (fl_use x1 hs hr).2.2.1) (fun r hr => (fl_use y1 s1 hr).2.2.1)⟩, t3, j3⟩
/-- rows and texts stay -/
theorem hft_d {kc km : Nat} {vs : List Value} {Sc Sm : List Nat} (sc : ∀ a ∈ ([1, 3, 4, 5, 6, 7, 8, 9, 11, 12, 13, 14] : List Nat), a ∈ Sc) (sm : ∀ a ∈ ([87, 88, 89, 90] : List Nat), a ∈ Sm) : ∀ (M M1 M2 : fl_M) (J J1 : fl_J), ft M → ft_g M → ft_g M1 → (∀ a, (81 ≤ a ∨ a ∈ Sc) → M1 a = M a) → (∀ a, (a < 81 ∨ a ∈ Sm) → M2 a = M1 a) → (∀ r, fl_C kc (.ref 0 :: vs) M J r → M1 = r.2.1) → (∀ r, fl_C km (.ref 81 :: vs) M1 J1 r → M2 = r.2.1) → ft M2 := by
  intro M M1 M2 J J1 ht _ _ lo hi _ _
  refine ft_cong (fun a ha => ?_) ht
  unfold ft_d at ha
  rcases Nat.lt_or_ge a 81 with h81 | h81
  · rw [hi a (Or.inl h81)]
    refine lo a (Or.inr (sc a ?_))
    simp only [List.mem_cons, List.not_mem_nil, or_false]
    omega
  · rw [hi a (Or.inr (sm a ?_))]
    · exact lo a (Or.inl h81)
    · simp only [List.mem_cons, List.not_mem_nil, or_false]
      omega
/-- rows and texts as both sides' own calls leave them -/
theorem hft_f {kc km : Nat} {vs : List Value} {Sc Sm : List Nat} {fa ga : fl_M → Int32} {fM gM : fl_M → fl_M} (hP : ft_P fa fM ga gM) (hF : ∀ (M : fl_M) (J : fl_J), ft_g M → fl_C kc (.ref 0 :: vs) M J (some (.int (fa M)), fM M, J)) (hG : ∀ (M : fl_M) (J : fl_J), ft_g M → fl_C km (.ref 81 :: vs) M J (some (.int (ga M)), gM M, J)) : ∀ (M M1 M2 : fl_M) (J J1 : fl_J), ft M → ft_g M → ft_g M1 → (∀ a, (81 ≤ a ∨ a ∈ Sc) → M1 a = M a) → (∀ a, (a < 81 ∨ a ∈ Sm) → M2 a = M1 a) → (∀ r, fl_C kc (.ref 0 :: vs) M J r → M1 = r.2.1) → (∀ r, fl_C km (.ref 81 :: vs) M1 J1 r → M2 = r.2.1) → ft M2 :=
  fun M M1 M2 J J1 ht hg hg1 lo hi e1 e2 => (hP M M1 M2 ht hg (e1 _ (hF M J hg)) (e2 _ (hG M1 J1 hg1)) (fun a ha => lo a (Or.inl ha)) (fun a ha => hi a (Or.inl ha))).2
theorem pt_f {kc km : Nat} {vs : List Value} {Sc Sm : List Nat} {fa ga : fl_M → Int32} {fM gM : fl_M → fl_M} (hk : kd_ok false kc Sc (.ref 0 :: vs)) (hm : md_ok false km Sm (.ref 81 :: vs)) (hP : ft_P fa fM ga gM) (hF : ∀ (M : fl_M) (J : fl_J), ft_g M → fl_C kc (.ref 0 :: vs) M J (some (.int (fa M)), fM M, J)) (hG : ∀ (M : fl_M) (J : fl_J), ft_g M → fl_C km (.ref 81 :: vs) M J (some (.int (ga M)), gM M, J)) (hR : ∀ C R : fl_M, t2 C R → f2 C R → t2 (fM C) (gM R)) : pt_ok pr_e kc km vs := by
  intro h hT
  obtain ⟨⟨hI, hs, ht⟩, h2, hj⟩ := hT
  have hg := ft_gI hI hs
  obtain ⟨hp, hkw, m, hm5, hmw⟩ := hI
  obtain ⟨o1, h1, x1, x2, x3, x4, w1, rfl, c1⟩ := hk h hkw hp
  have lo : ∀ a, 81 ≤ a → h1[a]? = h[a]? := fun a ha => x3 a (Or.inl ha)
  have hmw1 := mw_same hmw lo
  obtain ⟨o2, h3, y1, y2, y3, y4, w2, rfl, c2⟩ := hm m h1 hm5 hmw1 x2
  have hi : ∀ a, a < 81 → h3[a]? = h1[a]? := fun a ha => y3 a (Or.inl ha)
  have s1 := (fl_all 12 _ _ _ _ _ x1 hs).1
  have hg1 : ft_g (fm_i h1) := ft_gI ⟨x2, x4, m, hm5, hmw1⟩ s1
  have l1 : ∀ a, 81 ≤ a → fm_i h1 a = fm_i h a := fun a ha => gm_i (lo a ha)
  have t1 : t2 (fm_i h) (fm_i h1) := t2_c h2 (fun _ _ => rfl) (fun k hk => l1 k (by omega)) (fun j _ => by rw [l1 82 (by decide)])
  have j1 : jd (fm_l h) (fm_l h1) := ⟨by rw [gm_l (lo 81 (by decide))]; exact hj.1, by rw [gm_l (lo 81 (by decide))]; exact hj.2⟩
  obtain ⟨-, -, m1, -⟩ := fl_use x1 hs (hF _ _ hg)
  obtain ⟨-, -, m2, -⟩ := fl_use y1 s1 (hG _ _ hg1)
  obtain ⟨e, tf⟩ := hP (fm_i h) (fm_i h1) (fm_i h3) ht hg m1 m2 l1 (fun a ha => gm_i (hi a ha))
  obtain ⟨a1, a2, t3, j3, s3⟩ := pt_c x1 y1 hs lo hi h2 hj (hF _ _ hg) (hG _ _ hg1) (fun _ _ _ => ⟨hR _ _ t1 (f2_of ht hg l1), j1⟩)
  cases a1
  cases a2
  exact ⟨_, h1, _, h3, x1, y1, ⟨_, rfl, by rw [e]⟩, s1, ⟨⟨y2, kw_same x4 hi, y4⟩, s3, tf⟩, t3, j3⟩
/-! Fault, register, duel: the pairs that go their own way. -/
section PTS
variable {xs : Nat → Int32} {i : Nat}
theorem pt_rd {kc km : Nat} {t : Int32} {vc : Int32} {vr : fl_M → Int32} {mc : fl_M → fl_M} {mr : fl_M → fl_M} {h : List va_E} (hT : TT h)
    (wC : fw_C 12 kc [.ref 0, .int t] (fm_i h) (fm_l h)) (hF : fl_C kc [.ref 0, .int t] (fm_i h) (fm_l h) (some (.int vc), mc (fm_i h), fm_l h))
    (kC : kz (mc (fm_i h)) ∧ ∀ c, (c ≠ 0 ∧ c ≠ 80 ∧ (c < 15 ∨ 32 < c) ∧ c ≠ 42 ∧ c ≠ 47 ∧ c ≠ 51 ∧ c ≠ 55) → mc (fm_i h) c = fm_i h c)
    (wR : ∀ (R : fl_M) (J' : fl_J) (m : Nat), m < 5 → mz m R → fw_C 12 km [.ref 81, .int t] R J') (hG : ∀ (R : fl_M) (J' : fl_J), f2 (fm_i h) R → ft_g R → t2 (fm_i h) R → fl_C km [.ref 81, .int t] R J' (some (.int (vr R)), mr R, J') ∧ vc = vr R ∧ t2 (mc (fm_i h)) (mr R))
    (kR : ∀ (R : fl_M) (m : Nat), m < 5 → mz m R → t2 (mc (fm_i h)) (mr R) → (∃ m', m' < 5 ∧ mz m' (mr R)) ∧ ∀ c, ((c < 81 ∨ 94 < c) ∨ (87 ≤ c ∧ c ≤ 90)) → mr R c = R c) :
    ∃ w1 h1 w2 h2, sm_Ex 200 sm_ML sm_B 12 kc (.ref 0 :: [.int t]) h (some w1) h1 ∧ sm_Ex 200 sm_ML sm_B 12 km (.ref 81 :: [.int t]) h1 (some w2) h2 ∧ pr_e w1 w2 ∧ fl_sh h1 ∧ TT h2 := by
  obtain ⟨⟨hI, hs, ht⟩, h2, hj⟩ := hT
  have hg := ft_gI hI hs
  obtain ⟨k0, p0, m, hm5, g0⟩ := n_I hs hI
  obtain ⟨o1, h1, x1⟩ := wC h ⟨hs, rfl, rfl⟩
  obtain ⟨s1, b1, n1, k1⟩ := fl_use x1 hs hF
  have a1 : o1 = some (.int vc) := b1
  have m1 : fm_i h1 = mc (fm_i h) := n1
  have j1 : fm_l h1 = fm_l h := k1
  clear b1 n1 k1
  subst a1
  have l1 : ∀ c, 81 ≤ c → fm_i h1 c = fm_i h c := fun c hc => by rw [m1]; exact kC.2 c (by omega)
  have e1 : ∀ c, (c ≠ 0 ∧ c ≠ 80 ∧ (c < 15 ∨ 32 < c) ∧ c ≠ 42 ∧ c ≠ 47 ∧ c ≠ 51 ∧ c ≠ 55) → fm_i h1 c = fm_i h c := fun c hc => by rw [m1]; exact kC.2 c hc
  have g1 : mz m (fm_i h1) := mz_e g0 (fun j _ => by rw [l1 81 (by decide)]) (fun c hc => l1 c (by omega))
  have t1 : t2 (fm_i h) (fm_i h1) := t2_c h2 (fun _ _ => rfl) (fun k hk => l1 k (by omega)) (fun j _ => by rw [l1 82 (by decide)])
  have hg1 : ft_g (fm_i h1) := by
    unfold ft_g
    rw [e1 1 (by decide), e1 9 (by decide), l1 87 (by decide), l1 89 (by decide), l1 999 (by decide)]
    exact hg
  obtain ⟨o2, h3, y1⟩ := wR (fm_i h1) (fm_l h1) m hm5 g1 h1 ⟨s1, rfl, rfl⟩
  obtain ⟨hG, hv, p2⟩ := hG (fm_i h1) (fm_l h1) (f2_of ht hg l1) hg1 t1
  obtain ⟨s3, b2, n3, k3⟩ := fl_use y1 s1 hG
  have a2 : o2 = some (.int (vr (fm_i h1))) := b2
  have m3 : fm_i h3 = mr (fm_i h1) := n3
  have j3 : fm_l h3 = fm_l h1 := k3
  clear b2 n3 k3
  subst a2
  obtain ⟨⟨m', hm', g3⟩, e3⟩ := kR (fm_i h1) m hm5 g1 p2
  rw [← m3] at p2 g3 e3
  rw [← m1] at p2
  have lo3 : ∀ c, c < 81 → fm_i h3 c = fm_i h1 c := fun c hc => e3 c (Or.inl (Or.inl hc))
  refine ⟨_, h1, _, h3, x1, y1, ⟨vc, rfl, by rw [hv]⟩, s1, ⟨I_n s3 (kz_c (by rw [m1]; exact kC.1) lo3) hm' g3 (wo_pc p0 (fun c hc => (lo3 c (by omega)).trans (e1 c (by omega)))), s3, ft_cong (fun a ha => ?_) ht⟩, t2_c p2 (fun c hc => lo3 c (by omega)) (fun _ _ => rfl) (fun _ _ => rfl), ?_⟩
  · unfold ft_d at ha
    rcases Nat.lt_or_ge a 81 with h81 | h81
    · exact (lo3 a h81).trans (e1 a (by omega))
    · exact (e3 a (by omega)).trans (l1 a h81)
  · rw [j3, j1]
    exact hj
theorem pt_fault : pt_ok pr_e 14 119 (la_vs xs i 1 1) := fun h hT => by
  have hT0 := hT
  obtain ⟨⟨hI, hs, ht⟩, h2, hj⟩ := hT
  have hg := ft_gI hI hs
  have k0 := (n_I hs hI).1
  exact pt_rd (t := xs (i + 1)) (vr := v_119 (xs (i + 1))) (mc := m_14 (xs (i + 1))) (mr := m_119 (xs (i + 1))) hT0 (fw_14 8 _ _ _ (fun q hq => (hg.2.1 q hq).2) hg.2.2.2.2) (cc_14 _ _ _ (fun q hq => (hg.2.1 q hq).2) hg.2.2.2.2)
    ⟨(fa_C k0 hg.2.2.2.2).1, fun c hc => (fa_C k0 hg.2.2.2.2).2 c (by omega)⟩ (fun R J' m hm g => fw_119 6 R J' _ (fun q hq => (g.2.2.2.2.2.2.2.2.2.2.2.1 q hq).2))
    (fun R J' hf hgR t1 => ⟨cc_119 R J' _ (fun q hq => (hgR.2.2.2.1 q hq).2), (fa_p t1 hf hg.2.2.2.2 _).1, (fa_p t1 hf hg.2.2.2.2 _).2⟩)
    (fun R m hm g _ => ⟨⟨m, hm, (fa_R g).1⟩, fun c hc => (fa_R g).2 c (by omega)⟩)
theorem pt_register : pt_ok pr_e 21 129 (la_vs xs i 1 1) := fun h hT => by
  have hT0 := hT
  obtain ⟨⟨hI, hs, ht⟩, h2, hj⟩ := hT
  have hg := ft_gI hI hs
  have k0 := (n_I hs hI).1
  exact pt_rd (t := xs (i + 1)) (vr := v_129 (xs (i + 1))) (mc := m_21 (xs (i + 1))) (mr := m_129 (xs (i + 1))) hT0 (fw_21 8 _ _ _ (fun q hq => (hg.2.1 q hq).2) hg.2.2.2.2 (kz_31 k0)) (cc_21 _ _ _ (fun q hq => (hg.2.1 q hq).2) hg.2.2.2.2)
    (re_C k0 hg.2.2.2.2) (fun R J' m hm g => fw_129 6 R J' _ (fun q hq => (g.2.2.2.2.2.2.2.2.2.2.2.1 q hq).2) g.2.2.2.2.2.2.2.2.2.2.2.2.1)
    (fun R J' hf hgR t1 => ⟨cc_129 R J' _ (fun q hq => (hgR.2.2.2.1 q hq).2), (re_p t1 hf hg.2.2.2.2 _).1, (re_p t1 hf hg.2.2.2.2 _).2⟩)
    (fun R m hm g t3 => re_R hm g t3)
theorem kd31b : kd_ok false 81 [1, 2, 3, 4, 5, 6, 7, 8, 9, 10, 11, 12, 13, 14, 15, 16, 17, 18, 19, 20, 21, 22, 23, 42, 43, 44, 45, 46, 47, 48, 49, 50, 51, 52, 53, 54, 55, 56, 57, 58, 80] (.ref 0 :: la_vs xs i 3 1) := kd_c (c := kcc1053) (ko1053 ps_P ko_h) (by decide) (by decide +kernel) rfl
theorem pt_duel : pt_ok (pr_c false) 81 180 (la_vs xs i 3 1) := by
  intro h hT
  obtain ⟨⟨hI, hs, ht⟩, h2, hj⟩ := hT
  have hg := ft_gI hI hs
  obtain ⟨hp, hkw, m, hm5, hmw⟩ := hI
  obtain ⟨o1, h1, x1, x2, x3, x4, w1, rfl, c1⟩ := kd31b h hkw hp
  have lo : ∀ a, 81 ≤ a → h1[a]? = h[a]? := fun a ha => x3 a (Or.inl ha)
  have hmw1 := mw_same hmw lo
  obtain ⟨o2, h3, y1, y2, y3, y4, w2, rfl, c2⟩ := md31 m h1 hm5 hmw1 x2
  have hi : ∀ a, a < 81 → h3[a]? = h1[a]? := fun a ha => y3 a (Or.inl ha)
  have s1 := (fl_all 12 _ _ _ _ _ x1 hs).1
  obtain ⟨f11, l13, l14⟩ := fy_M hs s1 (fy_run _ _ _ _ _ _ rfl x1)
  obtain ⟨-, -, m1, hm1, g1⟩ := n_I s1 ⟨x2, x4, m, hm5, hmw1⟩
  have q4 := g1.2.2.1
  obtain ⟨v, X, hG, fd, -, -⟩ := dw_r (R := fm_i h1) (fm_l h1) (xs (i + 1)) (xs (i + 1 + 1)) (xs (i + 1 + 1 + 1)) g1.1 (by omega) g1.2.2.2.2.2.2.2.2.2.2.2.2.2
  obtain ⟨s3, b2, n3, k3⟩ := fl_use y1 s1 hG
  have m3 : fm_i h3 = X := n3
  have j3 : fm_l h3 = fm_l h1 := k3
  clear b2 n3 k3
  subst m3
  have l1 : ∀ a, 81 ≤ a → fm_i h1 a = fm_i h a := fun a ha => gm_i (lo a ha)
  have d1 : ∀ a, (a ∈ ([1, 2, 3, 4, 5, 6, 7, 8, 9, 10, 11, 12, 13, 14, 15, 16, 17, 18, 19, 20, 21, 22, 23, 42, 43, 44, 45, 46, 47, 48, 49, 50, 51, 52, 53, 54, 55, 56, 57, 58, 80] : List Nat)) → fm_i h3 a = fm_i h a := fun a ha => by
    have l : ∀ a ∈ ([1, 2, 3, 4, 5, 6, 7, 8, 9, 10, 11, 12, 13, 14, 15, 16, 17, 18, 19, 20, 21, 22, 23, 42, 43, 44, 45, 46, 47, 48, 49, 50, 51, 52, 53, 54, 55, 56, 57, 58, 80] : List Nat), a < 81 := by decide
    rw [gm_i (hi a (l a ha))]
    exact gm_i (x3 a (Or.inr ha))
  have d2 : ∀ c, (c ≠ 81 ∧ c ≠ 82 ∧ c ≠ 96 ∧ c ≠ 97) → 81 ≤ c → fm_i h3 c = fm_i h c := fun c hc h8 => (fd.1 c hc).trans (l1 c h8)
  have d3 : ∀ j, j ≠ 11 → fm_i h3 81 j = fm_i h 81 j := fun j hj => by rw [fd.2.1 j hj, l1 81 (by decide)]
  refine ⟨w1, h1, w2, h3, x1, y1, ⟨c1, c2⟩, s1, ⟨⟨y2, kw_same x4 hi, y4⟩, s3, ft_cong (fun a ha => ?_) ht⟩, t2_q h2 (fun c hc => d1 c ?_) ?_ (d1 80 (by decide)) (fun z => z.elim) (d3 1 (by decide)) (d3 4 (by decide)) (d3 14 (by decide)) (fun k hk => d2 k (by omega) (by omega)) (d2 91 (by decide) (by decide)) (fun j hj => by rw [fd.2.2 j hj, l1 82 (by decide)]), ?_⟩
  · unfold ft_d at ha
    rcases Nat.lt_or_ge a 81 with h81 | h81
    · refine d1 a ?_
      simp only [List.mem_cons, List.not_mem_nil, or_false]
      omega
    · exact d2 a (by omega) h81
  · simp only [List.mem_cons, List.not_mem_nil, or_false]
    omega
  · rw [gm_i (hi 0 (by decide))]
    exact f11
  · refine ⟨?_, ?_⟩
    · rw [j3, gm_l (lo 81 (by decide)), l13]
      exact hj.1
    · rw [j3, gm_l (lo 81 (by decide)), l14]
      exact hj.2
/-- the reference's chances, where the line is none -/
theorem cc_184b (M : fl_M) (J : fl_J) (l p : Int32) (hl : ¬ ((¬ (l < 0)) ∧ (¬ ((M 81 1) - 1 < l)))) : fl_C 184 [.ref 81, .int l, .int p] M J (some (.int (v_184 l p M)), m_184 l p M, j_184 l p M J) := by
  unfold v_184 m_184 j_184
  rw [if_neg hl, if_neg hl, if_neg hl]
  exact fl_Co (B := fB184) rfl rfl <|
    fl_td (s' := (2, [.ref 81, .int l, .int p, .null, .null, .null, .null, .null, .null, .null], [.int l, .ref 81], M, J)) (fl_n 2 rfl) <|
    fl_td (s' := (5, [.ref 81, .int l, .int p, .null, .null, .null, .null, .null, .null, .null], [.int (if (¬ (l < 0)) ∧ (¬ ((M 81 1) - 1 < l)) then 1 else 0)], M, J)) (fl_cv (o := some (.int (if (¬ (l < 0)) ∧ (¬ ((M 81 1) - 1 < l)) then 1 else 0))) rfl rfl rfl rfl (cc_131 M J l) rfl) <|
    fl_dnot (fl_if (t := 20) rfl rfl) fl_b0 (fun h1 => absurd h1 hl) (fun _ =>
     fl_td (s' := (21, [.ref 81, .int l, .int p, .null, .null, .null, .null, .null, .null, .null], [.int (-1)], M, J)) (fl_n 1 rfl) <|
     fl_rt rfl (fun _ => rfl) rfl)
theorem bt_C {C R : fl_M} (h : t2 C R) : 0 ≤ (((1 : Int32) <<< ((C 15 0) &&& 31)) - 1).toInt ∧ (((1 : Int32) <<< ((C 15 0) &&& 31)) - 1).toInt ≤ 255 := ⟨(bit_b h.1.1.1.2.2.1.1 h.1.1.1.2.2.1.2).1, (bit_b h.1.1.1.2.2.1.1 h.1.1.1.2.2.1.2).2.1⟩
theorem bt_R {C R : fl_M} (h : t2 C R) : 0 ≤ (((1 : Int32) <<< ((R 81 1) &&& 31)) - 1).toInt ∧ (((1 : Int32) <<< ((R 81 1) &&& 31)) - 1).toInt ≤ 255 := by
  have s := h.1.1.1.1
  have g := bt_C h
  rw [s] at g
  exact g
theorem od_R {C R : fl_M} (h : t2 C R) (J : fl_J) (l p : Int32) : fl_C 184 [.ref 81, .int l, .int p] R J (some (.int (v_184 l p R)), m_184 l p R, j_184 l p R J) := by
  by_cases hl : (¬ (l < 0)) ∧ (¬ ((R 81 1) - 1 < l))
  · have l0 := hl.1
    have l1 := hl.2
    have s := h.1.1.1.1
    have a := h.1.1.1.2.2.1
    have ec := fi_cl (C 15 0)
    have el := fi_cl l
    rw [fi_l, fi_i0] at l0
    rw [← s, fi_l, fi_sub (by rw [fi_i1]; omega) (by rw [fi_i1]; omega), fi_i1] at l1
    refine cc_184 R J l p (fun hp => ?_) (fun hp => ?_)
    · obtain ⟨e1, e2, e3, e4, -⟩ := od_e h.1 (l := l) (p := p) (by omega) (by omega) hp.1 hp.2
      rw [← e1]
      exact e3
    · obtain ⟨e1, e2, e3, e4, -⟩ := od_e h.1 (l := l) (p := p) (by omega) (by omega) hp.1 hp.2
      omega
  · exact cc_184b R J l p hl
theorem mi_R {C R : fl_M} (h : t2 C R) (J : fl_J) (p : Int32) : fl_C 187 [.ref 81, .int p] R J (some (.int (v_187 p R)), m_187 p R, j_187 p R J) := by
  refine cc_187 R J p (fun hp => ?_) (fun hp => ?_)
  · obtain ⟨e1, e2, e3, e4, -⟩ := mi_e h.1 (p := p) hp.1 hp.2
    rw [← e1]
    exact e3
  · obtain ⟨e1, e2, e3, e4, -⟩ := mi_e h.1 (p := p) hp.1 hp.2
    omega
theorem pt_0 : pt_ok pr_e 0 103 (la_vs xs i 2 1) := pt_f kd0 md0 (ft_rowP (xs (i + 1)) (xs (i + 2))) (fun M J g => cc_0 M J _ _) (fun M J g => cc_103 M J _ _) (fun C R h hf => ro_0 h hf _ _)
theorem pt_1 : pt_ok pr_e 3 108 (la_vs xs i 3 1) := pt_f kd1 md1 (ft_layP (xs (i + 1)) (xs (i + 2)) (xs (i + 3))) (fun M J g => cc_3 M J _ _ _) (fun M J g => cc_108 M J _ _ _) (fun C R h hf => ro_3 h hf _ _ _)
theorem pt_2 : pt_ok pr_e 6 111 (la_vs xs i 2 1) := pt_f kd2 md2 (ft_atP (xs (i + 1)) (xs (i + 2))) (fun M J g => cc_6 M J _ _) (fun M J g => cc_111 M J _ _) (fun C R h hf => ro_6 h hf _ _)
theorem pt_3 : pt_ok pr_e 7 112 (la_vs xs i 1 1) := pt_f kd3 md3 (ft_tearP (xs (i + 1))) (fun M J g => cc_7 M J _) (fun M J g => cc_112 M J _) (fun C R h hf => ro_7 h hf _)
theorem pt_4 : pt_ok pr_e 8 113 (la_vs xs i 5 1) := pt_f kd4 md4 (ft_copyP (xs (i + 1)) (xs (i + 2)) (xs (i + 3)) (xs (i + 4)) (xs (i + 5))) (fun M J g => cc_8 M J _ _ _ _ _) (fun M J g => cc_113 M J _ _ _ _ _ (fun q hq => (g.2.2.1 q hq).2)) (fun C R h hf => ro_8 h hf _ _ _ _ _)
theorem pt_5 : pt_ok pr_e 10 115 (la_vs xs i 1 1) := pt_f kd5 md5 (ft_meanP (xs (i + 1))) (fun M J g => cc_10 M J _) (fun M J g => cc_115 M J _ (fun q hq => (g.2.2.1 q hq).2)) (fun C R h hf => ro_10 h hf _)
theorem pt_6 : pt_ok pr_e 11 116 (la_vs xs i 2 1) := pt_f kd6 md6 (ft_textP (xs (i + 1)) (xs (i + 2))) (fun M J g => cc_11 M J _ _) (fun M J g => cc_116 M J _ _) (fun C R h hf => ro_11 h hf _ _)
theorem pt_7 : pt_ok pr_e 13 118 (la_vs xs i 3 1) := pt_f kd7 md7 (ft_putP (xs (i + 1)) (xs (i + 2)) (xs (i + 3))) (fun M J g => cc_13 M J _ _ _) (fun M J g => cc_118 M J _ _ _) (fun C R h hf => ro_13 h hf _ _ _)
theorem pt_8 : pt_ok pr_e 14 119 (la_vs xs i 1 1) := pt_fault
theorem pt_9 : pt_ok pr_e 21 129 (la_vs xs i 1 1) := pt_register
theorem pt_10 : pt_ok pr_e 24 130 (la_vs xs i 2 1) := pt_k kd10 md10 (fun C R J J' h hj hf hg hg1 => ⟨_, _, _, _, _, _, cc_24 C J _ _, cc_130 R J' _ _, ⟨_, rfl, congrArg Value.int (li_p h _ _).1.symm⟩, (li_p h _ _).2, hj⟩) (hft_d (by decide) (by decide))
theorem pt_11 : pt_ok pr_e 32 139 (la_vs xs i 2 1) := pt_k kd11 md11 (fun C R J J' h hj hf hg hg1 => ⟨_, _, _, _, _, _, cc_32 C J _ _, cc_139 R J' _ _, ⟨_, rfl, congrArg Value.int (mo_p h _ _).1.symm⟩, (mo_p h _ _).2, hj⟩) (hft_d (by decide) (by decide))
theorem pt_12 : pt_ok pr_e 36 143 (la_vs xs i 2 1) := pt_k kd12 md12 (fun C R J J' h hj hf hg hg1 => ⟨_, _, _, _, _, _, cc_36 C J _ _, cc_143 R J' _ _, ⟨_, rfl, congrArg Value.int (mk_p h _ _).1.symm⟩, (mk_p h _ _).2, hj⟩) (hft_d (by decide) (by decide))
theorem pt_13 : pt_ok pr_e 42 148 (la_vs xs i 0 1) := pt_k kd13 md13 (fun C R J J' h hj hf hg hg1 => ⟨_, _, _, _, _, _, cc_42 C J , cc_148 R J' , ⟨_, rfl, congrArg Value.int (yr_2 h).1.symm⟩, (yr_2 h).2, hj⟩) (hft_d (by decide) (by decide))
theorem pt_14 : pt_ok pr_e 47 151 (la_vs xs i 2 1) := pt_k kd14 md14 (fun C R J J' h hj hf hg hg1 => ⟨_, _, _, _, _, _, cc_47 C J _ _, cc_151 R J' _ _, ⟨_, rfl, congrArg Value.int (ch_2 h _ _).1.symm⟩, (ch_2 h _ _).2, hj⟩) (hft_d (by decide) (by decide))
theorem pt_15 : pt_ok pr_e 48 152 (la_vs xs i 1 1) := pt_k kd15 md15 (fun C R J J' h hj hf hg hg1 => ⟨_, _, _, _, _, _, cc_48 C J _, cc_152 R J' _, ⟨_, rfl, congrArg Value.int (ct_2 h _).1.symm⟩, (ct_2 h _).2, hj⟩) (hft_d (by decide) (by decide))
theorem pt_16 : pt_ok pr_e 49 153 (la_vs xs i 1 1) := pt_k kd16 md16 (fun C R J J' h hj hf hg hg1 => ⟨_, _, _, _, _, _, cc_49 C J _, cc_153 R J' _, ⟨_, rfl, congrArg Value.int (wx_2 h _).1.symm⟩, (wx_2 h _).2, hj⟩) (hft_d (by decide) (by decide))
theorem pt_18 : pt_ok pr_e 52 155 (la_vs xs i 1 1) := pt_k kd18 md18 (fun C R J J' h hj hf hg hg1 => ⟨_, _, _, _, _, _, cc_52 C J _, cc_155 R J' _, ⟨_, rfl, congrArg Value.int (kp_2 h _).1.symm⟩, (kp_2 h _).2, hj⟩) (hft_d (by decide) (by decide))
theorem pt_19 : pt_ok pr_e 55 157 (la_vs xs i 1 1) := pt_k kd19 md19 (fun C R J J' h hj hf hg hg1 => ⟨_, _, _, _, _, _, cc_55 C J _, cc_157 R J' _, ⟨_, rfl, congrArg Value.int (on_2 h _).1.symm⟩, (on_2 h _).2, hj⟩) (hft_d (by decide) (by decide))
theorem pt_20 : pt_ok pr_e 56 158 (la_vs xs i 4 1) := pt_k kd20 md20 (fun C R J J' h hj hf hg hg1 => ⟨_, _, _, _, _, _, cc_56 C J _ _ _ _, cc_158 R J' _ _ _ _, ⟨_, rfl, congrArg Value.int (lk_p h _ _ _ _).1.symm⟩, (lk_p h _ _ _ _).2, hj⟩) (hft_d (by decide) (by decide))
theorem pt_21 : pt_ok pr_e 57 159 (la_vs xs i 2 1) := pt_k kd21 md21 (fun C R J J' h hj hf hg hg1 => ⟨_, _, _, _, _, _, cc_57 C J _ _, cc_159 R J' _ _, ⟨_, rfl, congrArg Value.int (le_p h _ _).1.symm⟩, (le_p h _ _).2, hj⟩) (hft_d (by decide) (by decide))
theorem pt_22 : pt_ok pr_e 60 162 (la_vs xs i 1 1) := pt_k kd22 md22 (fun C R J J' h hj hf hg hg1 => ⟨_, _, _, _, _, _, cc_60 C J _, cc_162 R J' _, ⟨_, rfl, congrArg Value.int (et_p h _).1.symm⟩, (et_p h _).2, hj⟩) (hft_d (by decide) (by decide))
theorem pt_23 : pt_ok pr_e 62 164 (la_vs xs i 1 1) := pt_k kd23 md23 (fun C R J J' h hj hf hg hg1 => ⟨_, _, _, _, _, _, cc_62 C J _, cc_164 R J' _, ⟨_, rfl, congrArg Value.int (wn_p h _).1.symm⟩, (wn_p h _).2, hj⟩) (hft_d (by decide) (by decide))
theorem pt_24 : pt_ok pr_e 63 165 (la_vs xs i 2 1) := pt_k kd24 md24 (fun C R J J' h hj hf hg hg1 => ⟨_, _, _, _, _, _, cc_63 C J _ _, cc_165 R J' _ _, ⟨_, rfl, congrArg Value.int (sa_p h _ _).1.symm⟩, (sa_p h _ _).2, hj⟩) (hft_d (by decide) (by decide))
theorem pt_25 : pt_ok pr_e 65 167 (la_vs xs i 1 1) := pt_k kd25 md25 (fun C R J J' h hj hf hg hg1 => ⟨_, _, _, _, _, _, cc_65 C J _, cc_167 R J' _, ⟨_, rfl, congrArg Value.int (gu_p h _).1.symm⟩, (gu_p h _).2, hj⟩) (hft_d (by decide) (by decide))
theorem pt_26 : pt_ok pr_e 67 169 (la_vs xs i 2 1) := pt_k kd26 md26 (fun C R J J' h hj hf hg hg1 => ⟨_, _, _, _, _, _, cc_67 C J _ _, cc_169 R J' _ _, ⟨_, rfl, congrArg Value.int (pl_p h hf _ _).1.symm⟩, (pl_p h hf _ _).2, hj⟩) (hft_d (by decide) (by decide))
theorem pt_27 : pt_ok pr_e 70 172 (la_vs xs i 2 1) := pt_k kd27 md27 (fun C R J J' h hj hf hg hg1 => ⟨_, _, _, _, _, _, cc_70 C J _ _, cc_172 R J' _ _, ⟨_, rfl, congrArg Value.int (kn_p h hf _ _).1.symm⟩, (kn_p h hf _ _).2, hj⟩) (hft_d (by decide) (by decide))
theorem pt_28 : pt_ok pr_e 72 174 (la_vs xs i 2 1) := pt_k kd28 md28 (fun C R J J' h hj hf hg hg1 => ⟨_, _, _, _, _, _, cc_72 C J _ _, cc_174 R J' _ _, ⟨_, rfl, congrArg Value.int (lo_k h hf _ _).1.symm⟩, (lo_k h hf _ _).2, hj⟩) (hft_d (by decide) (by decide))
theorem pt_34 : pt_ok pr_e 88 188 (la_vs xs i 2 1) := pt_k kd34 md34 (fun C R J J' h hj hf hg hg1 => ⟨_, _, _, _, _, _, cc_88 C J _ _, cc_188 R J' _ _, ⟨_, rfl, congrArg Value.int (lo_2 h _ _).1.symm⟩, (lo_2 h _ _).2, hj⟩) (hft_d (by decide) (by decide))
theorem pt_17 : pt_ok (pr_c false) 50 154 (la_vs xs i 1 1) := by
  intro h hT
  obtain ⟨⟨hI, hs, ht⟩, h2, hj⟩ := hT
  obtain ⟨hp, hkw, m, hm5, hmw⟩ := hI
  obtain ⟨o1, h1, x1, x2, x3, x4, w1, rfl, -⟩ := kd17 h hkw hp
  have lo : ∀ a, 81 ≤ a → h1[a]? = h[a]? := fun a ha => x3 a (Or.inl ha)
  have hmw1 := mw_same hmw lo
  have s1 := (fl_all 12 _ _ _ _ _ x1 hs).1
  obtain ⟨k1, p1, m1, hm1, g1⟩ := n_I s1 ⟨x2, x4, m, hm5, hmw1⟩
  have l1 : ∀ a, 81 ≤ a → fm_i h1 a = fm_i h a := fun a ha => gm_i (lo a ha)
  have t1 : t2 (fm_i h) (fm_i h1) := t2_c h2 (fun _ _ => rfl) (fun k hk => l1 k (by omega)) (fun j _ => by rw [l1 82 (by decide)])
  obtain ⟨-, b1, n1, j1⟩ := fl_use x1 hs (cc_50 (fm_i h) (fm_l h) (xs (i + 1)))
  have m1c : fm_i h1 = m_50 (xs (i + 1)) (fm_i h) := n1
  have j1 : fm_l h1 = fm_l h := j1
  obtain ⟨o2, h3, y1⟩ := fwu_154 10 (fm_l h1) (xs (i + 1)) (fm_i h1) (un_40 g1.2.2.2.2.2.2.2.2.1).2 h1 ⟨s1, rfl, rfl⟩
  obtain ⟨s3, b2, n3, k3⟩ := fl_use y1 s1 (cc_154 (fm_i h1) (fm_l h1) (xs (i + 1)))
  have a2 : o2 = some (.int (v_154 (xs (i + 1)) (fm_i h1))) := b2
  have m3 : fm_i h3 = m_154 (xs (i + 1)) (fm_i h1) := n3
  have j3 : fm_l h3 = fm_l h1 := k3
  have b1 : some w1 = some (.int (v_50 (xs (i + 1)) (fm_i h))) := b1
  cases b1
  subst a2
  have e3 : ∀ c, c ≠ 82 → fm_i h3 c = fm_i h1 c := fun c hc => by rw [m3]; exact (un_sg g1.2.2.2.2.2.2.2.2.1).2 c hc
  have lo3 : ∀ c, c < 81 → fm_i h3 c = fm_i h1 c := fun c hc => e3 c (by omega)
  have p2 := (un_2 t1 (xs (i + 1))).2
  rw [← m3, ← m1c] at p2
  refine ⟨_, h1, _, h3, x1, y1, ⟨rfl, rfl⟩, s1, ⟨I_n s3 (kz_c k1 lo3) hm1 (by rw [m3]; exact un_mz g1) (wo_pc p1 (fun c hc => lo3 c (by omega))), s3, ft_cong (fun a ha => ?_) ht⟩, t2_c p2 (fun c hc => lo3 c (by omega)) (fun _ _ => rfl) (fun _ _ => rfl), ?_⟩
  · unfold ft_d at ha
    rcases Nat.lt_or_ge a 81 with h81 | h81
    · rw [lo3 a h81]
      refine gm_i (x3 a (Or.inr ?_))
      simp only [List.mem_cons, List.not_mem_nil, or_false]
      omega
    · rw [e3 a (by omega)]
      exact l1 a h81
  · rw [j3, j1]
    exact hj
theorem pt_29 : pt_ok pr_e 76 176 (la_vs xs i 1 1) := pt_k kd29 md29 (fun C R J J' h hj hf hg hg1 => ⟨_, _, _, _, _, _, cc_76 C J _, cc_176 R J' _ ⟨by have := (bt_R h).1; omega, by have := (bt_R h).2; omega⟩, ⟨_, rfl, congrArg Value.int (se_p h hj _).1.symm⟩, (se_p h hj _).2.1, (se_p h hj _).2.2⟩) (hft_d (by decide) (by decide))
theorem pt_30 : pt_ok pr_e 80 179 (la_vs xs i 1 1) := pt_k kd30 md30 (fun C R J J' h hj hf hg hg1 => ⟨_, _, _, _, _, _, cc_80 C J _ (bt_C h).1 (by have z := (bt_C h).2; have y := fi_cl (((1 : Int32) <<< ((C 15 0) &&& 31)) - 1); omega), cc_179 R J' _ (bt_R h).1 (by have z := (bt_R h).2; have y := fi_cl (((1 : Int32) <<< ((R 81 1) &&& 31)) - 1); omega), ⟨_, rfl, congrArg Value.int (su_p h _).1.symm⟩, (su_p h _).2, hj⟩) (hft_d (by decide) (by decide))
theorem pt_31 : pt_ok (pr_c false) 81 180 (la_vs xs i 3 1) := pt_duel
theorem pt_32 : pt_ok pr_e 83 184 (la_vs xs i 2 1) := pt_k kd32 md32 (fun C R J J' h hj hf hg hg1 => ⟨_, _, _, _, _, _, cc_83 C J _ _, od_R h J' _ _, ⟨_, rfl, congrArg Value.int (od_p h hj _ _).1.symm⟩, (od_p h hj _ _).2.1, (od_p h hj _ _).2.2⟩) (hft_d (by decide) (by decide))
theorem pt_33 : pt_ok pr_e 87 187 (la_vs xs i 1 1) := pt_k kd33 md33 (fun C R J J' h hj hf hg hg1 => ⟨_, _, _, _, _, _, cc_87 C J _, mi_R h J' _, ⟨_, rfl, congrArg Value.int (mi_p h hj _).1.symm⟩, (mi_p h hj _).2.1, (mi_p h hj _).2.2⟩) (hft_d (by decide) (by decide))
theorem pt_35 : pt_ok (pr_c false) 90 190 (la_vs xs i 0 1) := pt_k kd35 md35 (fun C R J J' h hj hf hg hg1 => ⟨_, _, _, _, _, _, cc_90 C J, cc_190 R J', ⟨rfl, rfl⟩, h, hj⟩) (hft_d (by decide) (by decide))
theorem pt_36 : pt_ok pr_l 91 191 (la_vs xs i 0 1) := pt_k kd36 md36 (fun C R J J' h hj hf hg hg1 => ⟨_, _, _, _, _, _, cc_91 C J, cc_191 R J', ⟨_, rfl, congrArg Value.long (up_p hj).symm⟩, h, hj⟩) (hft_d (by decide) (by decide))
theorem pt_37 : pt_ok pr_l 92 192 (la_vs xs i 0 1) := pt_k kd37 md37 (fun C R J J' h hj hf hg hg1 => ⟨_, _, _, _, _, _, cc_92 C J, cc_192 R J', ⟨_, rfl, congrArg Value.long (lw_p hj).symm⟩, h, hj⟩) (hft_d (by decide) (by decide))
theorem pt_38 : pt_ok pr_e 93 193 (la_vs xs i 1 1) := pt_k kd38 md38 (fun C R J J' h hj hf hg hg1 => ⟨_, _, _, _, _, _, cc_93 C J _, cc_193 R J' _, ⟨_, rfl, congrArg Value.int (cn_p h.1 hf _).symm⟩, h, hj⟩) (hft_d (by decide) (by decide))
theorem pt_39 : pt_ok pr_e 98 197 (la_vs xs i 0 1) := pt_k kd39 md39 (fun C R J J' h hj hf hg hg1 => ⟨_, _, _, _, _, _, cc_98 C J, cc_197 R J', ⟨_, rfl, congrArg Value.int (fn_p h).symm⟩, h, hj⟩) (hft_d (by decide) (by decide))
theorem pt_40 : pt_ok pr_e 99 198 (la_vs xs i 1 1) := pt_k kd40 md40 (fun C R J J' h hj hf hg hg1 => ⟨_, _, _, _, _, _, cc_99 C J _, cc_198 R J' _, ⟨_, rfl, congrArg Value.int (fi_p h _).symm⟩, h, hj⟩) (hft_d (by decide) (by decide))
theorem pt_41 : pt_ok pr_l 100 199 (la_vs xs i 0 1) := pt_k kd41 md41 (fun C R J J' h hj hf hg hg1 => ⟨_, _, _, _, _, _, cc_100 C J, cc_199 R J', ⟨_, rfl, congrArg Value.long (dg_p h hf).symm⟩, h, hj⟩) (hft_d (by decide) (by decide))
end PTS
