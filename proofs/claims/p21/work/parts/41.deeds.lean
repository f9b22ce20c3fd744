/-! Deeds by hand: the word that goes along (Psi), and add. -/
def ps_1 (b : Nat) (h : List va_E) : Prop := ∃ fw fl fa : Nat → Int32, h[b]? = some (.inl (0, 40, .inl fw)) ∧ h[b + 1]? = some (.inl (0, 40, .inl fl)) ∧ h[b + 2]? = some (.inl (0, 40, .inl fa)) ∧ ∀ d : Nat, d < 40 → (fw d).toInt = 1 → 0 ≤ (fl d).toInt ∧ (fl d).toInt ≤ 7
def ps_C : List Nat := [42, 47, 51, 55]
def ps_h (h : List va_E) : Prop := ∀ c ∈ ps_C, ps_1 (c + 1) h
theorem ps_1_set {b a : Nat} {h : List va_E} {e : va_E} (h0 : a ≠ b) (h1 : a ≠ b + 1) (h2 : a ≠ b + 2) (hp : ps_1 b h) : ps_1 b (h.set a e) := by
  obtain ⟨fw, fl, fa, g0, g1, g2, g3⟩ := hp
  exact ⟨fw, fl, fa, by rw [List.getElem?_set_ne h0]; exact g0, by rw [List.getElem?_set_ne h1]; exact g1, by rw [List.getElem?_set_ne h2]; exact g2, g3⟩
theorem ps_P : ∀ (h : List va_E) (a : Nat) (e : va_E), a ∉ ai_pc → ps_h h → ps_h (h.set a e) := by
  intro h a e ha hp
  have hne : ∀ b ∈ ai_pc, a ≠ b := fun b hb z => ha (z ▸ hb)
  intro c hc
  have h3 : ∀ c ∈ ps_C, c + 1 ∈ ai_pc ∧ c + 1 + 1 ∈ ai_pc ∧ c + 1 + 2 ∈ ai_pc := by decide
  obtain ⟨i1, i2, i3⟩ := h3 c hc
  exact ps_1_set (hne _ i1) (hne _ i2) (hne _ i3) (hp c hc)
theorem sm_set_s {h : List va_E} {a : Nat} {e e' : va_E} (he : h[a]? = some e) : (h.set a e')[a]? = some e' := by
  rw [List.getElem?_set_self (List.getElem?_eq_some_iff.mp he).1]
theorem sm_set_n {h : List va_E} {a b : Nat} {e : va_E} {x : Option va_E} (hab : a ≠ b) (he : h[b]? = x) : (h.set a e)[b]? = x := by
  rw [List.getElem?_set_ne hab]
  exact he
theorem sm_gn {h h1 : List va_E} {a b : Nat} {e : va_E} {x : Option va_E} (hg : h.set a e = h1) (hab : a ≠ b) (he : h[b]? = x) : h1[b]? = x := hg ▸ sm_set_n hab he
theorem upd_at (f : Nat → Int32) (n : Nat) (x : Int32) (d : Nat) : (upd f n x) d = if d = n then x else f d := rfl
def da_B : sm_P := (fun pc => sm_ch sm_t44 pc, sm_Kn 0 4 none, fun x => sm_lk sm_ca0 x, none)
def da_o : aw_A := .inl (0, [.inr (false, [(0, 40)]), .inl 43, .inl 44, .inl 45])
def da_c (wr lr : ar_R) : ak_C := (44, [.inl 42, .inr (false, wr), .inr (false, lr), .inr (false, ar_t32)], [(42, da_o)], [42, 43, 44, 45], [([], none, [(42, da_o), (43, .inr (.inr (.inr ()))), (44, .inr (.inr (.inr ()))), (45, .inr (.inr (.inr ())))])])
theorem da_end {wr lr : ar_R} {vs : List Value} {h : List va_E} {s : Int32} {e1 e2 e3 : va_E} (h0 : h[42]? = some (.inr (0, [.int s, .ref 43, .ref 44, .ref 45]))) (hs : 0 ≤ s.toInt ∧ s.toInt ≤ 40) (h1 : h[43]? = some e1) (h2 : h[44]? = some e2) (h3 : h[45]? = some e3) : ak_end (da_c wr lr) vs none h := by
  refine ⟨_, List.mem_cons_self, trivial, trivial, ?_⟩
  intro q hq
  simp only [List.mem_cons, List.not_mem_nil, or_false] at hq
  rcases hq with rfl | rfl | rfl | rfl
  · refine ⟨_, h0, _, rfl, rfl, ?_⟩
    intro k v w hk hw
    match k, hk, hw with
    | 0, hk, hw => cases hk; cases hw; exact ⟨s, rfl, ar_o hs.1 hs.2⟩
    | 1, hk, hw => cases hk; cases hw; rfl
    | 2, hk, hw => cases hk; cases hw; rfl
    | 3, hk, hw => cases hk; cases hw; rfl
    | k + 4, hk, hw => cases hk
  · exact ⟨_, h1, trivial⟩
  · exact ⟨_, h2, trivial⟩
  · exact ⟨_, h3, trivial⟩
theorem da_get {h : List va_E} (hh : aw_h [(42, da_o)] h) : ∃ s : Int32, h[42]? = some (.inr (0, [.int s, .ref 43, .ref 44, .ref 45])) ∧ 0 ≤ s.toInt ∧ s.toInt ≤ 40 := by
  obtain ⟨e, he, fs, rfl, hl, hf⟩ := hh _ List.mem_cons_self
  match fs, hl with
  | [a, b, c, d], _ =>
    obtain ⟨s, rfl, hs⟩ := hf 0 _ _ rfl rfl
    have hb : b = .ref 43 := hf 1 _ _ rfl rfl
    have hc : c = .ref 44 := hf 2 _ _ rfl rfl
    have hd : d = .ref 45 := hf 3 _ _ rfl rfl
    subst hb
    subst hc
    subst hd
    exact ⟨s, he, ar_1 hs⟩
set_option maxHeartbeats 2000000 in
theorem da_ok {d : Nat} (wr lr : ar_R) (hwl : ∀ x y : Int, ar_in x wr → ar_in y lr → x = 1 → 0 ≤ y ∧ y ≤ 7) : ak_ok ps_h (sm_Ex 200 sm_ML sm_B (d + 1)) (da_c wr lr) := by
  refine sm_hand (B := da_B) (show (44 : Nat) < 200 by decide) rfl (show (4 : Nat) ≤ sm_ML 44 by decide +kernel) ?_
  intro vs h hv hh hPs
  match vs, hv with
  | [v0, v1, v2, v3], hv =>
    obtain ⟨e0, e1, e2, e3, -⟩ := hv
    have e0 : v0 = .ref 42 := e0
    obtain ⟨w, rfl, hw⟩ := sm_vi e1
    obtain ⟨l, rfl, hl⟩ := sm_vi e2
    obtain ⟨am, rfl, -⟩ := sm_vi e3
    subst e0
    obtain ⟨s, he, hs⟩ := da_get hh
    obtain ⟨fw, fl, fa, p1, p2, p3, p4⟩ := hPs 42 (by decide)
    have frm : ∀ b : Nat, b ∉ [42, 43, 44, 45] → h[b]? = h[b]? := fun _ _ => rfl
    have done : ∀ (pc : Nat) (lv : sm_L), da_B.1 pc = some (.return_, 1) → sm_Go da_B (sm_Ex 200 sm_ML sm_B d) (fun o h' => ps_h h' ∧ (∀ a, a ∉ (da_c wr lr).2.2.2.1 → h'[a]? = h[a]?) ∧ ak_end (da_c wr lr) [.ref 42, .int w, .int l, .int am] o h') pc lv [] h := fun pc lv hi => sm_go_rt (o := none) hi ⟨rfl, Or.inr (Or.inr ⟨rfl, rfl, rfl, rfl⟩)⟩ ⟨hPs, frm, da_end he hs p1 p2 p3⟩
    refine sm_go_st (i := .aload_n 0) (n := 1) (t := (1, [(0, .ref 42), (1, .int w), (2, .int l), (3, .int am)], [.ref 42], h)) rfl rfl ?_
    refine sm_go_gf (r := []) (v := .int s) rfl rfl he rfl ?_
    refine sm_go_if (t := 56) (q := .lt) (off := 52) rfl rfl (fun _ => done 56 _ rfl) (fun c1 => ?_)
    refine sm_go_st (i := .aload_n 0) (n := 1) (t := (8, [(0, .ref 42), (1, .int w), (2, .int l), (3, .int am)], [.ref 42], h)) rfl rfl ?_
    refine sm_go_gf (r := []) (v := .int s) rfl rfl he rfl ?_
    refine sm_go_st (i := .bipush 40) (n := 2) (t := (13, [(0, .ref 42), (1, .int w), (2, .int l), (3, .int am)], [.int 40, .int s], h)) rfl rfl ?_
    refine sm_go_ic (t := 56) (q := .ge) (off := 43) rfl rfl (fun _ => done 56 _ rfl) (fun c2 => ?_)
    have c2 : ¬ (40 : Int32).toInt ≤ s.toInt := c2
    have c40 : (40 : Int32).toInt = 40 := rfl
    have hin : ¬ (s < 0 ∨ 40 ≤ s.toNatClampNeg) := aw_in6 (q := (s.toInt, s.toInt)) ⟨Int.le_refl _, Int.le_refl _⟩ hs.1 (by show s.toInt < ((40 : Nat) : Int); omega)
    have hix := aw_ix (i := s) hs.1
    refine sm_go_st (i := .aload_n 0) (n := 1) (t := (17, [(0, .ref 42), (1, .int w), (2, .int l), (3, .int am)], [.ref 42], h)) rfl rfl ?_
    refine sm_go_gf (r := []) (v := .ref 43) rfl rfl he rfl ?_
    refine sm_go_st (i := .aload_n 0) (n := 1) (t := (21, [(0, .ref 42), (1, .int w), (2, .int l), (3, .int am)], [.ref 42, .ref 43], h)) rfl rfl ?_
    refine sm_go_gf (r := [.ref 43]) (v := .int s) rfl rfl he rfl ?_
    refine sm_go_st (i := .iload_n 1) (n := 1) (t := (25, [(0, .ref 42), (1, .int w), (2, .int l), (3, .int am)], [.int w, .int s, .ref 43], h)) rfl rfl ?_
    refine sm_go_is (r := []) rfl p1 hin ?_
    generalize hg1 : h.set 43 (.inl (0, 40, .inl (upd fw s.toNatClampNeg w))) = h1
    have g1_42 := sm_gn hg1 (by decide) he
    have g1_43 : h1[43]? = some (.inl (0, 40, .inl (upd fw s.toNatClampNeg w))) := by rw [← hg1]; exact sm_set_s p1
    have g1_44 := sm_gn hg1 (by decide) p2
    have g1_45 := sm_gn hg1 (by decide) p3
    refine sm_go_st (i := .aload_n 0) (n := 1) (t := (27, [(0, .ref 42), (1, .int w), (2, .int l), (3, .int am)], [.ref 42], h1)) rfl rfl ?_
    refine sm_go_gf (r := []) (v := .ref 44) rfl rfl g1_42 rfl ?_
    refine sm_go_st (i := .aload_n 0) (n := 1) (t := (31, [(0, .ref 42), (1, .int w), (2, .int l), (3, .int am)], [.ref 42, .ref 44], h1)) rfl rfl ?_
    refine sm_go_gf (r := [.ref 44]) (v := .int s) rfl rfl g1_42 rfl ?_
    refine sm_go_st (i := .iload_n 2) (n := 1) (t := (35, [(0, .ref 42), (1, .int w), (2, .int l), (3, .int am)], [.int l, .int s, .ref 44], h1)) rfl rfl ?_
    refine sm_go_is (r := []) rfl g1_44 hin ?_
    generalize hg2 : h1.set 44 (.inl (0, 40, .inl (upd fl s.toNatClampNeg l))) = h2
    have g2_42 := sm_gn hg2 (by decide) g1_42
    have g2_43 := sm_gn hg2 (by decide) g1_43
    have g2_44 : h2[44]? = some (.inl (0, 40, .inl (upd fl s.toNatClampNeg l))) := by rw [← hg2]; exact sm_set_s g1_44
    have g2_45 := sm_gn hg2 (by decide) g1_45
    refine sm_go_st (i := .aload_n 0) (n := 1) (t := (37, [(0, .ref 42), (1, .int w), (2, .int l), (3, .int am)], [.ref 42], h2)) rfl rfl ?_
    refine sm_go_gf (r := []) (v := .ref 45) rfl rfl g2_42 rfl ?_
    refine sm_go_st (i := .aload_n 0) (n := 1) (t := (41, [(0, .ref 42), (1, .int w), (2, .int l), (3, .int am)], [.ref 42, .ref 45], h2)) rfl rfl ?_
    refine sm_go_gf (r := [.ref 45]) (v := .int s) rfl rfl g2_42 rfl ?_
    refine sm_go_st (i := .iload_n 3) (n := 1) (t := (45, [(0, .ref 42), (1, .int w), (2, .int l), (3, .int am)], [.int am, .int s, .ref 45], h2)) rfl rfl ?_
    refine sm_go_is (r := []) rfl g2_45 hin ?_
    generalize hg3 : h2.set 45 (.inl (0, 40, .inl (upd fa s.toNatClampNeg am))) = h3
    have g3_42 := sm_gn hg3 (by decide) g2_42
    have g3_43 := sm_gn hg3 (by decide) g2_43
    have g3_44 := sm_gn hg3 (by decide) g2_44
    have g3_45 : h3[45]? = some (.inl (0, 40, .inl (upd fa s.toNatClampNeg am))) := by rw [← hg3]; exact sm_set_s g2_45
    refine sm_go_st (i := .aload_n 0) (n := 1) (t := (47, [(0, .ref 42), (1, .int w), (2, .int l), (3, .int am)], [.ref 42], h3)) rfl rfl ?_
    refine sm_go_st (i := .dup) (n := 1) (t := (48, [(0, .ref 42), (1, .int w), (2, .int l), (3, .int am)], [.ref 42, .ref 42], h3)) rfl rfl ?_
    refine sm_go_gf (r := [.ref 42]) (v := .int s) rfl rfl g3_42 rfl ?_
    refine sm_go_st (i := .iconst 1) (n := 1) (t := (52, [(0, .ref 42), (1, .int w), (2, .int l), (3, .int am)], [.int 1, .int s, .ref 42], h3)) rfl rfl ?_
    refine sm_go_st (i := .iadd) (n := 1) (t := (53, [(0, .ref 42), (1, .int w), (2, .int l), (3, .int am)], [.int (s + 1), .ref 42], h3)) rfl rfl ?_
    refine sm_go_pf (r := []) rfl rfl g3_42 (Nat.le_of_ble_eq_true rfl) ?_
    generalize hg4 : h3.set 42 (.inr (0, ([.int s, .ref 43, .ref 44, .ref 45] : List Value).set 0 (.int (s + 1)))) = h4
    have g4_42 : h4[42]? = some (.inr (0, [.int (s + 1), .ref 43, .ref 44, .ref 45])) := by rw [← hg4]; exact sm_set_s g3_42
    have g4_43 := sm_gn hg4 (by decide) g3_43
    have g4_44 := sm_gn hg4 (by decide) g3_44
    have g4_45 := sm_gn hg4 (by decide) g3_45
    have hs1 : (s + 1).toInt = s.toInt + 1 := by
      rw [Int32.toInt_add, show (1 : Int32).toInt = 1 from rfl, Int.bmod_eq_of_le (by omega) (by omega)]
    refine sm_go_rt (o := none) (i := .return_) (n := 1) rfl ⟨rfl, Or.inr (Or.inr ⟨rfl, rfl, rfl, rfl⟩)⟩ ⟨?_, ?_, da_end g4_42 (by omega) g4_43 g4_44 g4_45⟩
    · have k : ∀ b : Nat, 42 ≠ b → 43 ≠ b → 44 ≠ b → 45 ≠ b → h4[b]? = h[b]? := fun b b0 b1 b2 b3 => by
        rw [← hg4, List.getElem?_set_ne b0, ← hg3, List.getElem?_set_ne b3, ← hg2, List.getElem?_set_ne b2, ← hg1, List.getElem?_set_ne b1]
      intro c hc
      rcases (show c = 42 ∨ 45 < c from (by decide : ∀ c ∈ ps_C, c = 42 ∨ 45 < c) c hc) with rfl | hb
      case inr =>
        obtain ⟨x1, x2, x3, y1, y2, y3, y4⟩ := hPs c hc
        exact ⟨x1, x2, x3, by rw [k (c + 1) (by omega) (by omega) (by omega) (by omega)]; exact y1, by rw [k (c + 1 + 1) (by omega) (by omega) (by omega) (by omega)]; exact y2, by rw [k (c + 1 + 2) (by omega) (by omega) (by omega) (by omega)]; exact y3, y4⟩
      refine ⟨_, _, _, g4_43, g4_44, g4_45, fun dd hd h1 => ?_⟩
      rw [upd_at] at h1 ⊢
      by_cases hdd : dd = s.toNatClampNeg
      · rw [if_pos hdd] at h1 ⊢
        exact hwl _ _ hw hl h1
      · rw [if_neg hdd] at h1 ⊢
        exact p4 dd hd h1
    · intro b hb
      have hb : b ∉ [42, 43, 44, 45] := hb
      simp only [List.mem_cons, List.not_mem_nil, or_false, not_or] at hb
      rw [← hg4, List.getElem?_set_ne (fun z => hb.1 z.symm), ← hg3, List.getElem?_set_ne (fun z => hb.2.2.2 z.symm), ← hg2, List.getElem?_set_ne (fun z => hb.2.2.1 z.symm), ← hg1, List.getElem?_set_ne (fun z => hb.2.1 z.symm)]
  | [], hv => exact hv.elim
  | [_], hv => exact hv.2.elim
  | [_, _], hv => exact hv.2.2.elim
  | [_, _, _], hv => exact hv.2.2.2.elim
  | _ :: _ :: _ :: _ :: _ :: _, hv => exact hv.2.2.2.2.elim
/-! takeFrom: a deeds' past taken over, place by place -/
def dt_B : sm_P := (fun pc => sm_ch sm_t54 pc, sm_Kn 0 3 none, fun x => sm_lk sm_ca0 x, none)
def dt_o (c : Nat) (r : ar_R) : aw_A := .inl (0, [.inr (false, r), .inl (c + 1), .inl (c + 2), .inl (c + 3)])
def dt_c (t o : Nat) (rt : ar_R) : ak_C := (54, [.inl t, .inl o], [(t, dt_o t rt), (o, dt_o o [(0, 40)])], [t, t + 1, t + 2, t + 3], [([], none, [(t, dt_o t [(0, 40)]), (t + 1, .inr (.inr (.inr ()))), (t + 2, .inr (.inr (.inr ()))), (t + 3, .inr (.inr (.inr ())))])])
theorem dt_get {c : Nat} {r : ar_R} {H : aw_H} {h : List va_E} (hm : (c, dt_o c r) ∈ H) (hh : aw_h H h) : ∃ s : Int32, h[c]? = some (.inr (0, [.int s, .ref (c + 1), .ref (c + 2), .ref (c + 3)])) ∧ ar_in s.toInt r := by
  obtain ⟨e, he, fs, rfl, hl, hf⟩ := hh _ hm
  match fs, hl with
  | [a, b, c', d], _ =>
    obtain ⟨s, rfl, hs⟩ := hf 0 _ _ rfl rfl
    have hb : b = .ref (c + 1) := hf 1 _ _ rfl rfl
    have hc : c' = .ref (c + 2) := hf 2 _ _ rfl rfl
    have hd : d = .ref (c + 3) := hf 3 _ _ rfl rfl
    subst hb
    subst hc
    subst hd
    exact ⟨s, he, hs⟩
theorem dt_end {t o : Nat} {rt : ar_R} {vs : List Value} {h : List va_E} {s : Int32} {e1 e2 e3 : va_E} (h0 : h[t]? = some (.inr (0, [.int s, .ref (t + 1), .ref (t + 2), .ref (t + 3)]))) (hs : 0 ≤ s.toInt ∧ s.toInt ≤ 40) (h1 : h[t + 1]? = some e1) (h2 : h[t + 2]? = some e2) (h3 : h[t + 3]? = some e3) : ak_end (dt_c t o rt) vs none h := by
  refine ⟨_, List.mem_cons_self, trivial, trivial, ?_⟩
  intro q hq
  simp only [List.mem_cons, List.not_mem_nil, or_false] at hq
  rcases hq with rfl | rfl | rfl | rfl
  · refine ⟨_, h0, _, rfl, rfl, ?_⟩
    intro k v w hk hw
    match k, hk, hw with
    | 0, hk, hw => cases hk; cases hw; exact ⟨s, rfl, ar_o hs.1 hs.2⟩
    | 1, hk, hw => cases hk; cases hw; rfl
    | 2, hk, hw => cases hk; cases hw; rfl
    | 3, hk, hw => cases hk; cases hw; rfl
    | k + 4, hk, hw => cases hk
  · exact ⟨_, h1, trivial⟩
  · exact ⟨_, h2, trivial⟩
  · exact ⟨_, h3, trivial⟩
/-- what the loop keeps -/
def dt_I (t o : Nat) (s : Int32) (h0 h : List va_E) : Prop := h[t]? = some (.inr (0, [.int s, .ref (t + 1), .ref (t + 2), .ref (t + 3)])) ∧ h[o]? = some (.inr (0, [.int s, .ref (o + 1), .ref (o + 2), .ref (o + 3)])) ∧ ps_1 (t + 1) h ∧ ps_1 (o + 1) h ∧ ∀ b : Nat, b ∉ [t, t + 1, t + 2, t + 3] → h[b]? = h0[b]?
set_option maxHeartbeats 4000000 in
theorem dt_loop {t o d : Nat} {rt : ar_R} {s : Int32} {h0 : List va_E} (hto : t + 4 ≤ o ∨ o + 4 ≤ t) (ho9 : o < 900) (hs : 0 ≤ s.toInt ∧ s.toInt ≤ 40) (hc : ∀ c ∈ ps_C, c = t ∨ t + 4 ≤ c ∨ c + 4 ≤ t) (hps : ps_h h0) : ∀ (n : Nat) (i : Int32) (h : List va_E), 0 ≤ i.toInt → i.toInt ≤ 40 → (40 - i.toInt).toNat < n → dt_I t o s h0 h → sm_Go dt_B (sm_Ex 200 sm_ML sm_B d) (fun o' h' => ps_h h' ∧ (∀ a, a ∉ (dt_c t o rt).2.2.2.1 → h'[a]? = h0[a]?) ∧ ak_end (dt_c t o rt) [.ref t, .ref o] o' h') 10 [(2, .int i), (0, .ref t), (1, .ref o)] [] h := by
  intro n
  induction n with
  | zero => intro i h _ _ h3; exact absurd h3 (Nat.not_lt_zero _)
  | succ n ih =>
    intro i h i1 i2 i3 hI
    obtain ⟨gt, go, ⟨fw, fl, fa, p1, p2, p3, p4⟩, ⟨ew, el, ea, r1, r2, r3, r4⟩, fr⟩ := hI
    refine sm_go_st (i := .iload_n 2) (n := 1) (t := (11, [(2, .int i), (0, .ref t), (1, .ref o)], [.int i], h)) rfl rfl ?_
    refine sm_go_st (i := .aload_n 0) (n := 1) (t := (12, [(2, .int i), (0, .ref t), (1, .ref o)], [.ref t, .int i], h)) rfl rfl ?_
    refine sm_go_gf (r := [.int i]) (v := .int s) rfl rfl gt rfl ?_
    refine sm_go_ic (t := 60) (q := .ge) (off := 45) rfl rfl (fun c1 => ?_) (fun c1 => ?_)
    · refine sm_go_rt (o := none) (i := .return_) (n := 1) rfl ⟨rfl, Or.inr (Or.inr ⟨rfl, rfl, rfl, rfl⟩)⟩ ⟨?_, fr, dt_end gt hs p1 p2 p3⟩
      intro c hcc
      rcases hc c hcc with rfl | hd
      · exact ⟨fw, fl, fa, p1, p2, p3, p4⟩
      · obtain ⟨x1, x2, x3, y1, y2, y3, y4⟩ := hps c hcc
        have k : ∀ b : Nat, c < b → b ≤ c + 3 → h[b]? = h0[b]? := fun b b1 b2 => fr b (by simp only [List.mem_cons, List.not_mem_nil, or_false, not_or]; omega)
        exact ⟨x1, x2, x3, by rw [k _ (by omega) (by omega)]; exact y1, by rw [k _ (by omega) (by omega)]; exact y2, by rw [k _ (by omega) (by omega)]; exact y3, y4⟩
    have c1 : ¬ s.toInt ≤ i.toInt := c1
    have hin : ¬ (i < 0 ∨ 40 ≤ i.toNatClampNeg) := aw_in6 (q := (i.toInt, i.toInt)) ⟨Int.le_refl _, Int.le_refl _⟩ i1 (by show i.toInt < ((40 : Nat) : Int); omega)
    have hix := aw_ix (i := i) i1
    refine sm_go_st (i := .aload_n 0) (n := 1) (t := (19, [(2, .int i), (0, .ref t), (1, .ref o)], [.ref t], h)) rfl rfl ?_
    refine sm_go_gf (r := []) (v := .ref (t + 1)) rfl rfl gt rfl ?_
    refine sm_go_st (i := .iload_n 2) (n := 1) (t := (23, [(2, .int i), (0, .ref t), (1, .ref o)], [.int i, .ref (t + 1)], h)) rfl rfl ?_
    refine sm_go_st (i := .aload_n 1) (n := 1) (t := (24, [(2, .int i), (0, .ref t), (1, .ref o)], [.ref o, .int i, .ref (t + 1)], h)) rfl rfl ?_
    refine sm_go_gf (r := [.int i, .ref (t + 1)]) (v := .ref (o + 1)) rfl rfl go rfl ?_
    refine sm_go_st (i := .iload_n 2) (n := 1) (t := (28, [(2, .int i), (0, .ref t), (1, .ref o)], [.int i, .ref (o + 1), .int i, .ref (t + 1)], h)) rfl rfl ?_
    refine sm_go_ia (r := [.int i, .ref (t + 1)]) rfl r1 (by omega) hin ?_
    refine sm_go_is (r := []) rfl p1 hin ?_
    generalize hg1 : h.set (t + 1) (.inl (0, 40, .inl (upd fw i.toNatClampNeg (ew i.toNatClampNeg)))) = h1
    have g1_t := sm_gn hg1 (by omega) gt
    have g1_o := sm_gn hg1 (by omega) go
    have g1_t1 : h1[t + 1]? = some (.inl (0, 40, .inl (upd fw i.toNatClampNeg (ew i.toNatClampNeg)))) := by rw [← hg1]; exact sm_set_s p1
    have g1_t2 := sm_gn hg1 (by omega) p2
    have g1_t3 := sm_gn hg1 (by omega) p3
    have g1_o1 := sm_gn hg1 (by omega) r1
    have g1_o2 := sm_gn hg1 (by omega) r2
    have g1_o3 := sm_gn hg1 (by omega) r3
    refine sm_go_st (i := .aload_n 0) (n := 1) (t := (31, [(2, .int i), (0, .ref t), (1, .ref o)], [.ref t], h1)) rfl rfl ?_
    refine sm_go_gf (r := []) (v := .ref (t + 2)) rfl rfl g1_t rfl ?_
    refine sm_go_st (i := .iload_n 2) (n := 1) (t := (35, [(2, .int i), (0, .ref t), (1, .ref o)], [.int i, .ref (t + 2)], h1)) rfl rfl ?_
    refine sm_go_st (i := .aload_n 1) (n := 1) (t := (36, [(2, .int i), (0, .ref t), (1, .ref o)], [.ref o, .int i, .ref (t + 2)], h1)) rfl rfl ?_
    refine sm_go_gf (r := [.int i, .ref (t + 2)]) (v := .ref (o + 2)) rfl rfl g1_o rfl ?_
    refine sm_go_st (i := .iload_n 2) (n := 1) (t := (40, [(2, .int i), (0, .ref t), (1, .ref o)], [.int i, .ref (o + 2), .int i, .ref (t + 2)], h1)) rfl rfl ?_
    refine sm_go_ia (r := [.int i, .ref (t + 2)]) rfl g1_o2 (by omega) hin ?_
    refine sm_go_is (r := []) rfl g1_t2 hin ?_
    generalize hg2 : h1.set (t + 2) (.inl (0, 40, .inl (upd fl i.toNatClampNeg (el i.toNatClampNeg)))) = h2
    have g2_t := sm_gn hg2 (by omega) g1_t
    have g2_o := sm_gn hg2 (by omega) g1_o
    have g2_t1 := sm_gn hg2 (by omega) g1_t1
    have g2_t2 : h2[t + 2]? = some (.inl (0, 40, .inl (upd fl i.toNatClampNeg (el i.toNatClampNeg)))) := by rw [← hg2]; exact sm_set_s g1_t2
    have g2_t3 := sm_gn hg2 (by omega) g1_t3
    have g2_o1 := sm_gn hg2 (by omega) g1_o1
    have g2_o2 := sm_gn hg2 (by omega) g1_o2
    have g2_o3 := sm_gn hg2 (by omega) g1_o3
    refine sm_go_st (i := .aload_n 0) (n := 1) (t := (43, [(2, .int i), (0, .ref t), (1, .ref o)], [.ref t], h2)) rfl rfl ?_
    refine sm_go_gf (r := []) (v := .ref (t + 3)) rfl rfl g2_t rfl ?_
    refine sm_go_st (i := .iload_n 2) (n := 1) (t := (47, [(2, .int i), (0, .ref t), (1, .ref o)], [.int i, .ref (t + 3)], h2)) rfl rfl ?_
    refine sm_go_st (i := .aload_n 1) (n := 1) (t := (48, [(2, .int i), (0, .ref t), (1, .ref o)], [.ref o, .int i, .ref (t + 3)], h2)) rfl rfl ?_
    refine sm_go_gf (r := [.int i, .ref (t + 3)]) (v := .ref (o + 3)) rfl rfl g2_o rfl ?_
    refine sm_go_st (i := .iload_n 2) (n := 1) (t := (52, [(2, .int i), (0, .ref t), (1, .ref o)], [.int i, .ref (o + 3), .int i, .ref (t + 3)], h2)) rfl rfl ?_
    refine sm_go_ia (r := [.int i, .ref (t + 3)]) rfl g2_o3 (by omega) hin ?_
    refine sm_go_is (r := []) rfl g2_t3 hin ?_
    generalize hg3 : h2.set (t + 3) (.inl (0, 40, .inl (upd fa i.toNatClampNeg (ea i.toNatClampNeg)))) = h3
    have g3_t := sm_gn hg3 (by omega) g2_t
    have g3_o := sm_gn hg3 (by omega) g2_o
    have g3_t1 := sm_gn hg3 (by omega) g2_t1
    have g3_t2 := sm_gn hg3 (by omega) g2_t2
    have g3_t3 : h3[t + 3]? = some (.inl (0, 40, .inl (upd fa i.toNatClampNeg (ea i.toNatClampNeg)))) := by rw [← hg3]; exact sm_set_s g2_t3
    have g3_o1 := sm_gn hg3 (by omega) g2_o1
    have g3_o2 := sm_gn hg3 (by omega) g2_o2
    have g3_o3 := sm_gn hg3 (by omega) g2_o3
    refine sm_go_st (i := .iinc 2 1) (n := 3) (t := (57, [(2, .int (i + 1)), (0, .ref t), (1, .ref o)], [], h3)) rfl rfl ?_
    refine sm_go_st (i := .goto (-47)) (n := 3) (t := (10, [(2, .int (i + 1)), (0, .ref t), (1, .ref o)], [], h3)) rfl rfl ?_
    have hi1 : (i + 1).toInt = i.toInt + 1 := by
      rw [Int32.toInt_add, show (1 : Int32).toInt = 1 from rfl, Int.bmod_eq_of_le (by omega) (by omega)]
    refine ih (i + 1) h3 (by omega) (by omega) (by omega) ⟨g3_t, g3_o, ⟨_, _, _, g3_t1, g3_t2, g3_t3, fun dd hd h1 => ?_⟩, ⟨_, _, _, g3_o1, g3_o2, g3_o3, r4⟩, fun b hb => ?_⟩
    · rw [upd_at] at h1 ⊢
      by_cases hdd : dd = i.toNatClampNeg
      · rw [if_pos hdd] at h1 ⊢
        exact r4 _ (by omega) h1
      · rw [if_neg hdd] at h1 ⊢
        exact p4 dd hd h1
    · have hb2 := hb
      simp only [List.mem_cons, List.not_mem_nil, or_false, not_or] at hb2
      rw [← hg3, List.getElem?_set_ne (fun z => hb2.2.2.2 z.symm), ← hg2, List.getElem?_set_ne (fun z => hb2.2.2.1 z.symm), ← hg1, List.getElem?_set_ne (fun z => hb2.2.1 z.symm)]
      exact fr b hb
set_option maxHeartbeats 2000000 in
theorem dt_ok {d t o : Nat} {rt : ar_R} (hto : t + 4 ≤ o ∨ o + 4 ≤ t) (ho9 : o < 900) (ht : t ∈ ps_C) (ho : o ∈ ps_C) (hc : ∀ c ∈ ps_C, c = t ∨ t + 4 ≤ c ∨ c + 4 ≤ t) : ak_ok ps_h (sm_Ex 200 sm_ML sm_B (d + 1)) (dt_c t o rt) := by
  refine sm_hand (B := dt_B) (by show (54 : Nat) < 200; decide) rfl (by show (2 : Nat) ≤ sm_ML 54; decide +kernel) ?_
  intro vs h hv hh hPs
  match vs, hv with
  | [v0, v1], hv =>
    obtain ⟨e0, e1, -⟩ := hv
    have e0 : v0 = .ref t := e0
    have e1 : v1 = .ref o := e1
    subst e0
    subst e1
    obtain ⟨st, gt, -⟩ := dt_get (c := t) (r := rt) List.mem_cons_self hh
    obtain ⟨s, go, hs⟩ := dt_get (c := o) (r := [(0, 40)]) (List.mem_cons_of_mem _ List.mem_cons_self) hh
    have hs := ar_1 hs
    refine sm_go_st (i := .aload_n 0) (n := 1) (t := (1, [(0, .ref t), (1, .ref o)], [.ref t], h)) rfl rfl ?_
    refine sm_go_st (i := .aload_n 1) (n := 1) (t := (2, [(0, .ref t), (1, .ref o)], [.ref o, .ref t], h)) rfl rfl ?_
    refine sm_go_gf (r := [.ref t]) (v := .int s) rfl rfl go rfl ?_
    refine sm_go_pf (r := []) rfl rfl gt (Nat.le_of_ble_eq_true rfl) ?_
    generalize hg1 : h.set t (.inr (0, ([.int st, .ref (t + 1), .ref (t + 2), .ref (t + 3)] : List Value).set 0 (.int s))) = h1
    have g1_t : h1[t]? = some (.inr (0, [.int s, .ref (t + 1), .ref (t + 2), .ref (t + 3)])) := by rw [← hg1]; exact sm_set_s gt
    have g1_o := sm_gn hg1 (by omega) go
    refine sm_go_st (i := .iconst 0) (n := 1) (t := (9, [(0, .ref t), (1, .ref o)], [.int 0], h1)) rfl rfl ?_
    refine sm_go_st (i := .istore_n 2) (n := 1) (t := (10, [(2, .int 0), (0, .ref t), (1, .ref o)], [], h1)) rfl rfl ?_
    refine dt_loop hto ho9 hs hc hPs 41 0 h1 (by decide) (by decide) (by decide) ⟨g1_t, g1_o, ?_, ?_, fun b hb => ?_⟩
    · rw [← hg1]
      exact ps_1_set (by omega) (by omega) (by omega) (hPs t ht)
    · rw [← hg1]
      exact ps_1_set (by omega) (by omega) (by omega) (hPs o ho)
    · rw [← hg1, List.getElem?_set_ne (fun z => hb (by rw [← z]; exact List.mem_cons_self))]
  | [], hv => exact hv.elim
  | [_], hv => exact hv.2.elim
  | _ :: _ :: _ :: _, hv => exact hv.2.2.elim

