/-! Methods walked by hand over the small machine: the tools. -/
def sm_Go (B : sm_P) (X : sm_X) (P : Option Value → List va_E → Prop) (pc : Nat) (lv : sm_L) (st : List Value) (h : List va_E) : Prop := ∃ f o h', sm_rn B X f pc lv st h o h' ∧ P o h'
section HAND
variable {B : sm_P} {X : sm_X} {P : Option Value → List va_E → Prop} {pc : Nat} {lv : sm_L} {st : List Value} {h : List va_E}
theorem sm_go_st {i : Instr} {n : Nat} {t : sm_T} (hi : B.1 pc = some (i, n)) (hs : sm_step B.2.1 i n pc lv st h = some t) (k : sm_Go B X P t.1 t.2.1 t.2.2.1 t.2.2.2) : sm_Go B X P pc lv st h := by
  obtain ⟨f, o, h', hr, hp⟩ := k
  exact ⟨f + 1, o, h', ⟨i, n, hi, Or.inr (Or.inl ⟨t, hs, hr⟩)⟩, hp⟩
theorem sm_go_rt {i : Instr} {n : Nat} {o : Option Value} (hi : B.1 pc = some (i, n)) (hr : sm_ret B.2.2.2 i n st o) (hp : P o h) : sm_Go B X P pc lv st h := ⟨1, o, h, ⟨i, n, hi, Or.inl ⟨hr, rfl⟩⟩, hp⟩
theorem sm_go_cl {i : Instr} {n k : Nat} {vs r : List Value} {o1 : Option Value} {h1 : List va_E} (hi : B.1 pc = some (i, n)) (hc : sm_cal B.2.2.1 i n st h k vs r) (hx : X k vs h o1 h1) (kk : sm_Go B X P (pc + 3) lv (o1.toList ++ r) h1) : sm_Go B X P pc lv st h := by
  obtain ⟨f, o, h', hr, hp⟩ := kk
  exact ⟨f + 1, o, h', ⟨i, n, hi, Or.inr (Or.inr ⟨k, vs, r, o1, h1, hc, hx, hr⟩)⟩, hp⟩
/-- a branch -/
theorem sm_go_ic {q : Jvm.ClassFile.Cond} {off : Int} {t : Nat} {x y : Int32} {r : List Value} (hi : B.1 pc = some (.if_icmp q off, 3)) (ht : sm_j pc off = some t) (k1 : ar_holds q x.toInt y.toInt → sm_Go B X P t lv r h) (k2 : ¬ ar_holds q x.toInt y.toInt → sm_Go B X P (pc + 3) lv r h) : sm_Go B X P pc lv (.int y :: .int x :: r) h := by
  refine sm_go_st (t := (if sm_cmp q x y = true then t else pc + 3, lv, r, h)) hi (show (sm_j pc off).bind _ = _ by rw [ht]; rfl) ?_
  have e := ar_smcmp q x y
  by_cases hc : sm_cmp q x y = true
  · show sm_Go B X P (if sm_cmp q x y = true then t else pc + 3) lv r h
    rw [if_pos hc]
    exact k1 (e.mp hc)
  · show sm_Go B X P (if sm_cmp q x y = true then t else pc + 3) lv r h
    rw [if_neg hc]
    exact k2 (fun z => hc (e.mpr z))
theorem sm_go_if {q : Jvm.ClassFile.Cond} {off : Int} {t : Nat} {x : Int32} {r : List Value} (hi : B.1 pc = some (.ifCond q off, 3)) (ht : sm_j pc off = some t) (k1 : ar_holds q x.toInt 0 → sm_Go B X P t lv r h) (k2 : ¬ ar_holds q x.toInt 0 → sm_Go B X P (pc + 3) lv r h) : sm_Go B X P pc lv (.int x :: r) h := by
  refine sm_go_st (t := (if sm_cmp q x 0 = true then t else pc + 3, lv, r, h)) hi (show (sm_j pc off).bind _ = _ by rw [ht]; rfl) ?_
  have e := ar_smcmp q x 0
  by_cases hc : sm_cmp q x 0 = true
  · show sm_Go B X P (if sm_cmp q x 0 = true then t else pc + 3) lv r h
    rw [if_pos hc]
    exact k1 (e.mp hc)
  · show sm_Go B X P (if sm_cmp q x 0 = true then t else pc + 3) lv r h
    rw [if_neg hc]
    exact k2 (fun z => hc (e.mpr z))
/-- a row's place read, written; a field read, written -/
theorem sm_go_ia {a n : Nat} {f : Nat → Int32} {i : Int32} {r : List Value} (hi : B.1 pc = some (.iaload, 1)) (he : h[a]? = some (.inl (0, n, .inl f))) (ha : a < 998) (hin : ¬ (i < 0 ∨ n ≤ i.toNatClampNeg)) (k : sm_Go B X P (pc + 1) lv (.int (f i.toNatClampNeg) :: r) h) : sm_Go B X P pc lv (.int i :: .ref a :: r) h := by
  refine sm_go_st (t := (pc + 1, lv, .int (f i.toNatClampNeg) :: r, h)) hi ?_ k
  show (if a = 999 then _ else if a = 998 then _ else _) = _
  rw [if_neg (by omega), if_neg (by omega), aw_ints_of he]
  show (if _ then _ else _) = _
  rw [if_neg hin]
theorem sm_go_is {a n : Nat} {f : Nat → Int32} {i x : Int32} {r : List Value} (hi : B.1 pc = some (.iastore, 1)) (he : h[a]? = some (.inl (0, n, .inl f))) (hin : ¬ (i < 0 ∨ n ≤ i.toNatClampNeg)) (k : sm_Go B X P (pc + 1) lv r (h.set a (.inl (0, n, .inl (upd f i.toNatClampNeg x))))) : sm_Go B X P pc lv (.int x :: .int i :: .ref a :: r) h := by
  refine sm_go_st (t := (pc + 1, lv, r, h.set a (.inl (0, n, .inl (upd f i.toNatClampNeg x))))) hi ?_ k
  show (sm_ints h a).bind _ = _
  rw [aw_ints_of he]
  show (if _ then _ else _) = _
  rw [if_neg hin]
theorem sm_go_gf {x ci k t a : Nat} {fs : List Value} {v : Value} {r : List Value} (hi : B.1 pc = some (.getfield x, 3)) (hf : B.2.1.1 x = some (ci, k, t)) (he : h[a]? = some (.inr (ci, fs))) (hv : fs[k]? = some v) (kk : sm_Go B X P (pc + 3) lv (v :: r) h) : sm_Go B X P pc lv (.ref a :: r) h := by
  refine sm_go_st (t := (pc + 3, lv, v :: r, h)) hi ?_ kk
  have ho : sm_obj h a ci = some fs := by unfold sm_obj; rw [he]; exact if_pos rfl
  show (B.2.1.1 x).bind _ = _
  rw [hf]
  show (sm_obj h a ci).bind _ = _
  rw [ho]
  show (fs[k]?).bind _ = _
  rw [hv]
  rfl
theorem sm_go_pf {x ci k a : Nat} {fs : List Value} {v : Int32} {r : List Value} (hi : B.1 pc = some (.putfield x, 3)) (hf : B.2.1.1 x = some (ci, k, 0)) (he : h[a]? = some (.inr (ci, fs))) (hl : k < fs.length) (kk : sm_Go B X P (pc + 3) lv r (h.set a (.inr (ci, fs.set k (.int v))))) : sm_Go B X P pc lv (.int v :: .ref a :: r) h := by
  refine sm_go_st (t := (pc + 3, lv, r, h.set a (.inr (ci, fs.set k (.int v))))) hi ?_ kk
  have ho : sm_obj h a ci = some fs := by unfold sm_obj; rw [he]; exact if_pos rfl
  show (B.2.1.1 x).bind _ = _
  rw [hf]
  show (if (0 : Nat) = 0 then (sm_obj h a ci).bind (fun fs => if k < fs.length then some (pc + 3, lv, r, h.set a (.inr (ci, fs.set k (.int v)))) else none) else none) = _
  rw [if_pos rfl, ho]
  show (if k < fs.length then _ else _) = _
  rw [if_pos hl]
end HAND
/-- a method by hand: what is to be shown -/
theorem sm_hand {Psi : List va_E → Prop} {c : ak_C} {B : sm_P} {d : Nat} (hk : c.1 < 200) (hB : sm_B c.1 = B) (hn : ai_n c.2.1 0 ≤ sm_ML c.1) (H : ∀ (vs : List Value) (h : List va_E), ak_as c.2.1 vs → aw_h c.2.2.1 h → Psi h → sm_Go B (sm_Ex 200 sm_ML sm_B d) (fun o h' => Psi h' ∧ (∀ a, a ∉ c.2.2.2.1 → h'[a]? = h[a]?) ∧ ak_end c vs o h') 0 (lv_args 0 vs) [] h) : ak_ok Psi (sm_Ex 200 sm_ML sm_B (d + 1)) c := by
  intro vs h hv hh hp
  obtain ⟨f, o, h', hr, h1, h2, h3⟩ := H vs h hv hh hp
  obtain ⟨n1, -⟩ := ai_n_s (i := 0) hv
  rw [← hB] at hr
  exact ⟨o, h', ⟨hk, by omega, f, hr⟩, h1, h2, h3⟩
theorem sm_vi {r : ar_R} {w : Value} (h : aw_m (.inr (false, r)) w) : ∃ x : Int32, w = .int x ∧ ar_in x.toInt r := h
theorem ar_1 {x a b : Int} (h : ar_in x [(a, b)]) : a ≤ x ∧ x ≤ b := by
  obtain ⟨q, hq, h1, h2⟩ := h
  rw [List.mem_singleton] at hq
  subst hq
  exact ⟨h1, h2⟩
theorem ar_o {x a b : Int} (h1 : a ≤ x) (h2 : x ≤ b) : ar_in x [(a, b)] := ⟨_, List.mem_cons_self, h1, h2⟩
/-- a checked method's contract -/
theorem ai_ok {Psi : List va_E → Prop} {cs : List ak_C} {c : ak_C} {B : sm_P} {wd : List Nat} {nL nf d fuel : Nat} {hd : List Nat} {fk : List (Nat × aw_G × Int × Nat)} {us : List (Nat × aw_S)} (hk : Nat.blt c.1 200 = true) (hB : sm_B c.1 = B) (hL : sm_ML c.1 = nL) (hP : ∀ (h : List va_E) (a : Nat) (e : va_E), a ∉ ai_pc → Psi h → Psi (h.set a e)) (hcs : ∀ c' ∈ cs, ak_ok Psi (sm_Ex 200 sm_ML sm_B d) c') (e : ai_chk cs c B wd nL nf hd fk fuel us = true) : ak_ok Psi (sm_Ex 200 sm_ML sm_B (d + 1)) c := by
  subst hB
  subst hL
  exact ai_chk_s (Nat.le_of_ble_eq_true hk) hcs hP e
theorem ak_nil {Psi : List va_E → Prop} {X : sm_X} : ∀ c' ∈ ([] : List ak_C), ak_ok Psi X c' := fun _ h => absurd h List.not_mem_nil
theorem ak_cons {Psi : List va_E → Prop} {X : sm_X} {c : ak_C} {cs : List ak_C} (h : ak_ok Psi X c) (hs : ∀ c' ∈ cs, ak_ok Psi X c') : ∀ c' ∈ c :: cs, ak_ok Psi X c' := List.forall_mem_cons.mpr ⟨h, hs⟩
/-! Deeds by hand: the word that goes along (Psi), and add. -/
def ps_1 (b : Nat) (h : List va_E) : Prop := ∃ fw fl fa : Nat → Int32, h[b]? = some (.inl (0, 40, .inl fw)) ∧ h[b + 1]? = some (.inl (0, 40, .inl fl)) ∧ h[b + 2]? = some (.inl (0, 40, .inl fa)) ∧ ∀ d : Nat, d < 40 → (fw d).toInt = 1 → 0 ≤ (fl d).toInt ∧ (fl d).toInt ≤ 7
def ps_C : List Nat := [42, 47, 51, 55]
def ps_h (h : List va_E) : Prop := ∀ c ∈ ps_C, ps_1 (c + 1) h
theorem ps_1_set {b a : Nat} {h : List va_E} {e : va_E} (h0 : a ≠ b) (h1 : a ≠ b + 1) (h2 : a ≠ b + 2) (hp : ps_1 b h) : ps_1 b (h.set a e) := by
  obtain ⟨fw, fl, fa, g0, g1, g2, g3⟩ := hp
  exact ⟨fw, fl, fa, by rw [List.getElem?_set_ne h0]; exact g0, by rw [List.getElem?_set_ne h1]; exact g1, by rw [List.getElem?_set_ne h2]; exact g2, g3⟩
theorem ps_P : ∀ (h : List va_E) (a : Nat) (e : va_E), a ∉ ai_pc → ps_h h → ps_h (h.set a e) := by
  intro h a e ha hp
  have hne : ∀ b ∈ ai_pc, a ≠ b := fun b hb z => ha (z ▸ hb)
  intro c hc
  have h3 : ∀ c ∈ ps_C, c + 1 ∈ ai_pc ∧ c + 1 + 1 ∈ ai_pc ∧ c + 1 + 2 ∈ ai_pc := by decide
  obtain ⟨i1, i2, i3⟩ := h3 c hc
  exact ps_1_set (hne _ i1) (hne _ i2) (hne _ i3) (hp c hc)
theorem sm_set_s {h : List va_E} {a : Nat} {e e' : va_E} (he : h[a]? = some e) : (h.set a e')[a]? = some e' := by
  rw [List.getElem?_set_self (List.getElem?_eq_some_iff.mp he).1]
theorem sm_set_n {h : List va_E} {a b : Nat} {e : va_E} {x : Option va_E} (hab : a ≠ b) (he : h[b]? = x) : (h.set a e)[b]? = x := by
  rw [List.getElem?_set_ne hab]
  exact he
theorem sm_gn {h h1 : List va_E} {a b : Nat} {e : va_E} {x : Option va_E} (hg : h.set a e = h1) (hab : a ≠ b) (he : h[b]? = x) : h1[b]? = x := hg ▸ sm_set_n hab he
theorem upd_at (f : Nat → Int32) (n : Nat) (x : Int32) (d : Nat) : (upd f n x) d = if d = n then x else f d := rfl
def da_B : sm_P := (fun pc => sm_ch sm_t44 pc, sm_Kn 0 4 none, fun x => sm_lk sm_ca0 x, none)
def da_o : aw_A := .inl (0, [.inr (false, [(0, 40)]), .inl 43, .inl 44, .inl 45])
def da_c (wr lr : ar_R) : ak_C := (44, [.inl 42, .inr (false, wr), .inr (false, lr), .inr (false, ar_t32)], [(42, da_o)], [42, 43, 44, 45], [([], none, [(42, da_o), (43, .inr (.inr (.inr ()))), (44, .inr (.inr (.inr ()))), (45, .inr (.inr (.inr ())))])])
theorem da_end {wr lr : ar_R} {vs : List Value} {h : List va_E} {s : Int32} {e1 e2 e3 : va_E} (h0 : h[42]? = some (.inr (0, [.int s, .ref 43, .ref 44, .ref 45]))) (hs : 0 ≤ s.toInt ∧ s.toInt ≤ 40) (h1 : h[43]? = some e1) (h2 : h[44]? = some e2) (h3 : h[45]? = some e3) : ak_end (da_c wr lr) vs none h := by
  refine ⟨_, List.mem_cons_self, trivial, trivial, ?_⟩
  intro q hq
  simp only [List.mem_cons, List.not_mem_nil, or_false] at hq
  rcases hq with rfl | rfl | rfl | rfl
  · refine ⟨_, h0, _, rfl, rfl, ?_⟩
    intro k v w hk hw
    match k, hk, hw with
    | 0, hk, hw => cases hk; cases hw; exact ⟨s, rfl, ar_o hs.1 hs.2⟩
    | 1, hk, hw => cases hk; cases hw; rfl
    | 2, hk, hw => cases hk; cases hw; rfl
    | 3, hk, hw => cases hk; cases hw; rfl
    | k + 4, hk, hw => cases hk
  · exact ⟨_, h1, trivial⟩
  · exact ⟨_, h2, trivial⟩
  · exact ⟨_, h3, trivial⟩
theorem da_get {h : List va_E} (hh : aw_h [(42, da_o)] h) : ∃ s : Int32, h[42]? = some (.inr (0, [.int s, .ref 43, .ref 44, .ref 45])) ∧ 0 ≤ s.toInt ∧ s.toInt ≤ 40 := by
  obtain ⟨e, he, fs, rfl, hl, hf⟩ := hh _ List.mem_cons_self
  match fs, hl with
  | [a, b, c, d], _ =>
    obtain ⟨s, rfl, hs⟩ := hf 0 _ _ rfl rfl
    have hb : b = .ref 43 := hf 1 _ _ rfl rfl
    have hc : c = .ref 44 := hf 2 _ _ rfl rfl
    have hd : d = .ref 45 := hf 3 _ _ rfl rfl
    subst hb
    subst hc
    subst hd
    exact ⟨s, he, ar_1 hs⟩
set_option maxHeartbeats 2000000 in
theorem da_ok {d : Nat} (wr lr : ar_R) (hwl : ∀ x y : Int, ar_in x wr → ar_in y lr → x = 1 → 0 ≤ y ∧ y ≤ 7) : ak_ok ps_h (sm_Ex 200 sm_ML sm_B (d + 1)) (da_c wr lr) := by
  refine sm_hand (B := da_B) (show (44 : Nat) < 200 by decide) rfl (show (4 : Nat) ≤ sm_ML 44 by decide +kernel) ?_
  intro vs h hv hh hPs
  match vs, hv with
  | [v0, v1, v2, v3], hv =>
    obtain ⟨e0, e1, e2, e3, -⟩ := hv
    have e0 : v0 = .ref 42 := e0
    obtain ⟨w, rfl, hw⟩ := sm_vi e1
    obtain ⟨l, rfl, hl⟩ := sm_vi e2
    obtain ⟨am, rfl, -⟩ := sm_vi e3
    subst e0
    obtain ⟨s, he, hs⟩ := da_get hh
    obtain ⟨fw, fl, fa, p1, p2, p3, p4⟩ := hPs 42 (by decide)
    have frm : ∀ b : Nat, b ∉ [42, 43, 44, 45] → h[b]? = h[b]? := fun _ _ => rfl
    have done : ∀ (pc : Nat) (lv : sm_L), da_B.1 pc = some (.return_, 1) → sm_Go da_B (sm_Ex 200 sm_ML sm_B d) (fun o h' => ps_h h' ∧ (∀ a, a ∉ (da_c wr lr).2.2.2.1 → h'[a]? = h[a]?) ∧ ak_end (da_c wr lr) [.ref 42, .int w, .int l, .int am] o h') pc lv [] h := fun pc lv hi => sm_go_rt (o := none) hi ⟨rfl, Or.inr (Or.inr ⟨rfl, rfl, rfl, rfl⟩)⟩ ⟨hPs, frm, da_end he hs p1 p2 p3⟩
    refine sm_go_st (i := .aload_n 0) (n := 1) (t := (1, [(0, .ref 42), (1, .int w), (2, .int l), (3, .int am)], [.ref 42], h)) rfl rfl ?_
    refine sm_go_gf (r := []) (v := .int s) rfl rfl he rfl ?_
    refine sm_go_if (t := 56) (q := .lt) (off := 52) rfl rfl (fun _ => done 56 _ rfl) (fun c1 => ?_)
    refine sm_go_st (i := .aload_n 0) (n := 1) (t := (8, [(0, .ref 42), (1, .int w), (2, .int l), (3, .int am)], [.ref 42], h)) rfl rfl ?_
    refine sm_go_gf (r := []) (v := .int s) rfl rfl he rfl ?_
    refine sm_go_st (i := .bipush 40) (n := 2) (t := (13, [(0, .ref 42), (1, .int w), (2, .int l), (3, .int am)], [.int 40, .int s], h)) rfl rfl ?_
    refine sm_go_ic (t := 56) (q := .ge) (off := 43) rfl rfl (fun _ => done 56 _ rfl) (fun c2 => ?_)
    have c2 : ¬ (40 : Int32).toInt ≤ s.toInt := c2
    have c40 : (40 : Int32).toInt = 40 := rfl
    have hin : ¬ (s < 0 ∨ 40 ≤ s.toNatClampNeg) := aw_in6 (q := (s.toInt, s.toInt)) ⟨Int.le_refl _, Int.le_refl _⟩ hs.1 (by show s.toInt < ((40 : Nat) : Int); omega)
    have hix := aw_ix (i := s) hs.1
    refine sm_go_st (i := .aload_n 0) (n := 1) (t := (17, [(0, .ref 42), (1, .int w), (2, .int l), (3, .int am)], [.ref 42], h)) rfl rfl ?_
    refine sm_go_gf (r := []) (v := .ref 43) rfl rfl he rfl ?_
    refine sm_go_st (i := .aload_n 0) (n := 1) (t := (21, [(0, .ref 42), (1, .int w), (2, .int l), (3, .int am)], [.ref 42, .ref 43], h)) rfl rfl ?_
    refine sm_go_gf (r := [.ref 43]) (v := .int s) rfl rfl he rfl ?_
    refine sm_go_st (i := .iload_n 1) (n := 1) (t := (25, [(0, .ref 42), (1, .int w), (2, .int l), (3, .int am)], [.int w, .int s, .ref 43], h)) rfl rfl ?_
    refine sm_go_is (r := []) rfl p1 hin ?_
    generalize hg1 : h.set 43 (.inl (0, 40, .inl (upd fw s.toNatClampNeg w))) = h1
    have g1_42 := sm_gn hg1 (by decide) he
    have g1_43 : h1[43]? = some (.inl (0, 40, .inl (upd fw s.toNatClampNeg w))) := by rw [← hg1]; exact sm_set_s p1
    have g1_44 := sm_gn hg1 (by decide) p2
    have g1_45 := sm_gn hg1 (by decide) p3
    refine sm_go_st (i := .aload_n 0) (n := 1) (t := (27, [(0, .ref 42), (1, .int w), (2, .int l), (3, .int am)], [.ref 42], h1)) rfl rfl ?_
    refine sm_go_gf (r := []) (v := .ref 44) rfl rfl g1_42 rfl ?_
    refine sm_go_st (i := .aload_n 0) (n := 1) (t := (31, [(0, .ref 42), (1, .int w), (2, .int l), (3, .int am)], [.ref 42, .ref 44], h1)) rfl rfl ?_
    refine sm_go_gf (r := [.ref 44]) (v := .int s) rfl rfl g1_42 rfl ?_
    refine sm_go_st (i := .iload_n 2) (n := 1) (t := (35, [(0, .ref 42), (1, .int w), (2, .int l), (3, .int am)], [.int l, .int s, .ref 44], h1)) rfl rfl ?_
    refine sm_go_is (r := []) rfl g1_44 hin ?_
    generalize hg2 : h1.set 44 (.inl (0, 40, .inl (upd fl s.toNatClampNeg l))) = h2
    have g2_42 := sm_gn hg2 (by decide) g1_42
    have g2_43 := sm_gn hg2 (by decide) g1_43
    have g2_44 : h2[44]? = some (.inl (0, 40, .inl (upd fl s.toNatClampNeg l))) := by rw [← hg2]; exact sm_set_s g1_44
    have g2_45 := sm_gn hg2 (by decide) g1_45
    refine sm_go_st (i := .aload_n 0) (n := 1) (t := (37, [(0, .ref 42), (1, .int w), (2, .int l), (3, .int am)], [.ref 42], h2)) rfl rfl ?_
    refine sm_go_gf (r := []) (v := .ref 45) rfl rfl g2_42 rfl ?_
    refine sm_go_st (i := .aload_n 0) (n := 1) (t := (41, [(0, .ref 42), (1, .int w), (2, .int l), (3, .int am)], [.ref 42, .ref 45], h2)) rfl rfl ?_
    refine sm_go_gf (r := [.ref 45]) (v := .int s) rfl rfl g2_42 rfl ?_
    refine sm_go_st (i := .iload_n 3) (n := 1) (t := (45, [(0, .ref 42), (1, .int w), (2, .int l), (3, .int am)], [.int am, .int s, .ref 45], h2)) rfl rfl ?_
    refine sm_go_is (r := []) rfl g2_45 hin ?_
    generalize hg3 : h2.set 45 (.inl (0, 40, .inl (upd fa s.toNatClampNeg am))) = h3
    have g3_42 := sm_gn hg3 (by decide) g2_42
    have g3_43 := sm_gn hg3 (by decide) g2_43
    have g3_44 := sm_gn hg3 (by decide) g2_44
    have g3_45 : h3[45]? = some (.inl (0, 40, .inl (upd fa s.toNatClampNeg am))) := by rw [← hg3]; exact sm_set_s g2_45
    refine sm_go_st (i := .aload_n 0) (n := 1) (t := (47, [(0, .ref 42), (1, .int w), (2, .int l), (3, .int am)], [.ref 42], h3)) rfl rfl ?_
    refine sm_go_st (i := .dup) (n := 1) (t := (48, [(0, .ref 42), (1, .int w), (2, .int l), (3, .int am)], [.ref 42, .ref 42], h3)) rfl rfl ?_
    refine sm_go_gf (r := [.ref 42]) (v := .int s) rfl rfl g3_42 rfl ?_
    refine sm_go_st (i := .iconst 1) (n := 1) (t := (52, [(0, .ref 42), (1, .int w), (2, .int l), (3, .int am)], [.int 1, .int s, .ref 42], h3)) rfl rfl ?_
    refine sm_go_st (i := .iadd) (n := 1) (t := (53, [(0, .ref 42), (1, .int w), (2, .int l), (3, .int am)], [.int (s + 1), .ref 42], h3)) rfl rfl ?_
    refine sm_go_pf (r := []) rfl rfl g3_42 (Nat.le_of_ble_eq_true rfl) ?_
    generalize hg4 : h3.set 42 (.inr (0, ([.int s, .ref 43, .ref 44, .ref 45] : List Value).set 0 (.int (s + 1)))) = h4
    have g4_42 : h4[42]? = some (.inr (0, [.int (s + 1), .ref 43, .ref 44, .ref 45])) := by rw [← hg4]; exact sm_set_s g3_42
    have g4_43 := sm_gn hg4 (by decide) g3_43
    have g4_44 := sm_gn hg4 (by decide) g3_44
    have g4_45 := sm_gn hg4 (by decide) g3_45
    have hs1 : (s + 1).toInt = s.toInt + 1 := by
      rw [Int32.toInt_add, show (1 : Int32).toInt = 1 from rfl, Int.bmod_eq_of_le (by omega) (by omega)]
    refine sm_go_rt (o := none) (i := .return_) (n := 1) rfl ⟨rfl, Or.inr (Or.inr ⟨rfl, rfl, rfl, rfl⟩)⟩ ⟨?_, ?_, da_end g4_42 (by omega) g4_43 g4_44 g4_45⟩
    · have k : ∀ b : Nat, 42 ≠ b → 43 ≠ b → 44 ≠ b → 45 ≠ b → h4[b]? = h[b]? := fun b b0 b1 b2 b3 => by
        rw [← hg4, List.getElem?_set_ne b0, ← hg3, List.getElem?_set_ne b3, ← hg2, List.getElem?_set_ne b2, ← hg1, List.getElem?_set_ne b1]
      intro c hc
      rcases (show c = 42 ∨ 45 < c from (by decide : ∀ c ∈ ps_C, c = 42 ∨ 45 < c) c hc) with rfl | hb
      case inr =>
        obtain ⟨x1, x2, x3, y1, y2, y3, y4⟩ := hPs c hc
        exact ⟨x1, x2, x3, by rw [k (c + 1) (by omega) (by omega) (by omega) (by omega)]; exact y1, by rw [k (c + 1 + 1) (by omega) (by omega) (by omega) (by omega)]; exact y2, by rw [k (c + 1 + 2) (by omega) (by omega) (by omega) (by omega)]; exact y3, y4⟩
      refine ⟨_, _, _, g4_43, g4_44, g4_45, fun dd hd h1 => ?_⟩
      rw [upd_at] at h1 ⊢
      by_cases hdd : dd = s.toNatClampNeg
      · rw [if_pos hdd] at h1 ⊢
        exact hwl _ _ hw hl h1
      · rw [if_neg hdd] at h1 ⊢
        exact p4 dd hd h1
    · intro b hb
      have hb : b ∉ [42, 43, 44, 45] := hb
      simp only [List.mem_cons, List.not_mem_nil, or_false, not_or] at hb
      rw [← hg4, List.getElem?_set_ne (fun z => hb.1 z.symm), ← hg3, List.getElem?_set_ne (fun z => hb.2.2.2 z.symm), ← hg2, List.getElem?_set_ne (fun z => hb.2.2.1 z.symm), ← hg1, List.getElem?_set_ne (fun z => hb.2.1 z.symm)]
  | [], hv => exact hv.elim
  | [_], hv => exact hv.2.elim
  | [_, _], hv => exact hv.2.2.elim
  | [_, _, _], hv => exact hv.2.2.2.elim
  | _ :: _ :: _ :: _ :: _ :: _, hv => exact hv.2.2.2.2.elim
/-! takeFrom: a deeds' past taken over, place by place -/
def dt_B : sm_P := (fun pc => sm_ch sm_t54 pc, sm_Kn 0 3 none, fun x => sm_lk sm_ca0 x, none)
def dt_o (c : Nat) (r : ar_R) : aw_A := .inl (0, [.inr (false, r), .inl (c + 1), .inl (c + 2), .inl (c + 3)])
def dt_c (t o : Nat) (rt : ar_R) : ak_C := (54, [.inl t, .inl o], [(t, dt_o t rt), (o, dt_o o [(0, 40)])], [t, t + 1, t + 2, t + 3], [([], none, [(t, dt_o t [(0, 40)]), (t + 1, .inr (.inr (.inr ()))), (t + 2, .inr (.inr (.inr ()))), (t + 3, .inr (.inr (.inr ())))])])
theorem dt_get {c : Nat} {r : ar_R} {H : aw_H} {h : List va_E} (hm : (c, dt_o c r) ∈ H) (hh : aw_h H h) : ∃ s : Int32, h[c]? = some (.inr (0, [.int s, .ref (c + 1), .ref (c + 2), .ref (c + 3)])) ∧ ar_in s.toInt r := by
  obtain ⟨e, he, fs, rfl, hl, hf⟩ := hh _ hm
  match fs, hl with
  | [a, b, c', d], _ =>
    obtain ⟨s, rfl, hs⟩ := hf 0 _ _ rfl rfl
    have hb : b = .ref (c + 1) := hf 1 _ _ rfl rfl
    have hc : c' = .ref (c + 2) := hf 2 _ _ rfl rfl
    have hd : d = .ref (c + 3) := hf 3 _ _ rfl rfl
    subst hb
    subst hc
    subst hd
    exact ⟨s, he, hs⟩
theorem dt_end {t o : Nat} {rt : ar_R} {vs : List Value} {h : List va_E} {s : Int32} {e1 e2 e3 : va_E} (h0 : h[t]? = some (.inr (0, [.int s, .ref (t + 1), .ref (t + 2), .ref (t + 3)]))) (hs : 0 ≤ s.toInt ∧ s.toInt ≤ 40) (h1 : h[t + 1]? = some e1) (h2 : h[t + 2]? = some e2) (h3 : h[t + 3]? = some e3) : ak_end (dt_c t o rt) vs none h := by
  refine ⟨_, List.mem_cons_self, trivial, trivial, ?_⟩
  intro q hq
  simp only [List.mem_cons, List.not_mem_nil, or_false] at hq
  rcases hq with rfl | rfl | rfl | rfl
  · refine ⟨_, h0, _, rfl, rfl, ?_⟩
    intro k v w hk hw
    match k, hk, hw with
    | 0, hk, hw => cases hk; cases hw; exact ⟨s, rfl, ar_o hs.1 hs.2⟩
    | 1, hk, hw => cases hk; cases hw; rfl
    | 2, hk, hw => cases hk; cases hw; rfl
    | 3, hk, hw => cases hk; cases hw; rfl
    | k + 4, hk, hw => cases hk
  · exact ⟨_, h1, trivial⟩
  · exact ⟨_, h2, trivial⟩
  · exact ⟨_, h3, trivial⟩
/-- what the loop keeps -/
def dt_I (t o : Nat) (s : Int32) (h0 h : List va_E) : Prop := h[t]? = some (.inr (0, [.int s, .ref (t + 1), .ref (t + 2), .ref (t + 3)])) ∧ h[o]? = some (.inr (0, [.int s, .ref (o + 1), .ref (o + 2), .ref (o + 3)])) ∧ ps_1 (t + 1) h ∧ ps_1 (o + 1) h ∧ ∀ b : Nat, b ∉ [t, t + 1, t + 2, t + 3] → h[b]? = h0[b]?
set_option maxHeartbeats 4000000 in
theorem dt_loop {t o d : Nat} {rt : ar_R} {s : Int32} {h0 : List va_E} (hto : t + 4 ≤ o ∨ o + 4 ≤ t) (ho9 : o < 900) (hs : 0 ≤ s.toInt ∧ s.toInt ≤ 40) (hc : ∀ c ∈ ps_C, c = t ∨ t + 4 ≤ c ∨ c + 4 ≤ t) (hps : ps_h h0) : ∀ (n : Nat) (i : Int32) (h : List va_E), 0 ≤ i.toInt → i.toInt ≤ 40 → (40 - i.toInt).toNat < n → dt_I t o s h0 h → sm_Go dt_B (sm_Ex 200 sm_ML sm_B d) (fun o' h' => ps_h h' ∧ (∀ a, a ∉ (dt_c t o rt).2.2.2.1 → h'[a]? = h0[a]?) ∧ ak_end (dt_c t o rt) [.ref t, .ref o] o' h') 10 [(2, .int i), (0, .ref t), (1, .ref o)] [] h := by
  intro n
  induction n with
  | zero => intro i h _ _ h3; exact absurd h3 (Nat.not_lt_zero _)
  | succ n ih =>
    intro i h i1 i2 i3 hI
    obtain ⟨gt, go, ⟨fw, fl, fa, p1, p2, p3, p4⟩, ⟨ew, el, ea, r1, r2, r3, r4⟩, fr⟩ := hI
    refine sm_go_st (i := .iload_n 2) (n := 1) (t := (11, [(2, .int i), (0, .ref t), (1, .ref o)], [.int i], h)) rfl rfl ?_
    refine sm_go_st (i := .aload_n 0) (n := 1) (t := (12, [(2, .int i), (0, .ref t), (1, .ref o)], [.ref t, .int i], h)) rfl rfl ?_
    refine sm_go_gf (r := [.int i]) (v := .int s) rfl rfl gt rfl ?_
    refine sm_go_ic (t := 60) (q := .ge) (off := 45) rfl rfl (fun c1 => ?_) (fun c1 => ?_)
    · refine sm_go_rt (o := none) (i := .return_) (n := 1) rfl ⟨rfl, Or.inr (Or.inr ⟨rfl, rfl, rfl, rfl⟩)⟩ ⟨?_, fr, dt_end gt hs p1 p2 p3⟩
      intro c hcc
      rcases hc c hcc with rfl | hd
      · exact ⟨fw, fl, fa, p1, p2, p3, p4⟩
      · obtain ⟨x1, x2, x3, y1, y2, y3, y4⟩ := hps c hcc
        have k : ∀ b : Nat, c < b → b ≤ c + 3 → h[b]? = h0[b]? := fun b b1 b2 => fr b (by simp only [List.mem_cons, List.not_mem_nil, or_false, not_or]; omega)
        exact ⟨x1, x2, x3, by rw [k _ (by omega) (by omega)]; exact y1, by rw [k _ (by omega) (by omega)]; exact y2, by rw [k _ (by omega) (by omega)]; exact y3, y4⟩
    have c1 : ¬ s.toInt ≤ i.toInt := c1
    have hin : ¬ (i < 0 ∨ 40 ≤ i.toNatClampNeg) := aw_in6 (q := (i.toInt, i.toInt)) ⟨Int.le_refl _, Int.le_refl _⟩ i1 (by show i.toInt < ((40 : Nat) : Int); omega)
    have hix := aw_ix (i := i) i1
    refine sm_go_st (i := .aload_n 0) (n := 1) (t := (19, [(2, .int i), (0, .ref t), (1, .ref o)], [.ref t], h)) rfl rfl ?_
    refine sm_go_gf (r := []) (v := .ref (t + 1)) rfl rfl gt rfl ?_
    refine sm_go_st (i := .iload_n 2) (n := 1) (t := (23, [(2, .int i), (0, .ref t), (1, .ref o)], [.int i, .ref (t + 1)], h)) rfl rfl ?_
    refine sm_go_st (i := .aload_n 1) (n := 1) (t := (24, [(2, .int i), (0, .ref t), (1, .ref o)], [.ref o, .int i, .ref (t + 1)], h)) rfl rfl ?_
    refine sm_go_gf (r := [.int i, .ref (t + 1)]) (v := .ref (o + 1)) rfl rfl go rfl ?_
    refine sm_go_st (i := .iload_n 2) (n := 1) (t := (28, [(2, .int i), (0, .ref t), (1, .ref o)], [.int i, .ref (o + 1), .int i, .ref (t + 1)], h)) rfl rfl ?_
    refine sm_go_ia (r := [.int i, .ref (t + 1)]) rfl r1 (by omega) hin ?_
    refine sm_go_is (r := []) rfl p1 hin ?_
    generalize hg1 : h.set (t + 1) (.inl (0, 40, .inl (upd fw i.toNatClampNeg (ew i.toNatClampNeg)))) = h1
    have g1_t := sm_gn hg1 (by omega) gt
    have g1_o := sm_gn hg1 (by omega) go
    have g1_t1 : h1[t + 1]? = some (.inl (0, 40, .inl (upd fw i.toNatClampNeg (ew i.toNatClampNeg)))) := by rw [← hg1]; exact sm_set_s p1
    have g1_t2 := sm_gn hg1 (by omega) p2
    have g1_t3 := sm_gn hg1 (by omega) p3
    have g1_o1 := sm_gn hg1 (by omega) r1
    have g1_o2 := sm_gn hg1 (by omega) r2
    have g1_o3 := sm_gn hg1 (by omega) r3
    refine sm_go_st (i := .aload_n 0) (n := 1) (t := (31, [(2, .int i), (0, .ref t), (1, .ref o)], [.ref t], h1)) rfl rfl ?_
    refine sm_go_gf (r := []) (v := .ref (t + 2)) rfl rfl g1_t rfl ?_
    refine sm_go_st (i := .iload_n 2) (n := 1) (t := (35, [(2, .int i), (0, .ref t), (1, .ref o)], [.int i, .ref (t + 2)], h1)) rfl rfl ?_
    refine sm_go_st (i := .aload_n 1) (n := 1) (t := (36, [(2, .int i), (0, .ref t), (1, .ref o)], [.ref o, .int i, .ref (t + 2)], h1)) rfl rfl ?_
    refine sm_go_gf (r := [.int i, .ref (t + 2)]) (v := .ref (o + 2)) rfl rfl g1_o rfl ?_
    refine sm_go_st (i := .iload_n 2) (n := 1) (t := (40, [(2, .int i), (0, .ref t), (1, .ref o)], [.int i, .ref (o + 2), .int i, .ref (t + 2)], h1)) rfl rfl ?_
    refine sm_go_ia (r := [.int i, .ref (t + 2)]) rfl g1_o2 (by omega) hin ?_
    refine sm_go_is (r := []) rfl g1_t2 hin ?_
    generalize hg2 : h1.set (t + 2) (.inl (0, 40, .inl (upd fl i.toNatClampNeg (el i.toNatClampNeg)))) = h2
    have g2_t := sm_gn hg2 (by omega) g1_t
    have g2_o := sm_gn hg2 (by omega) g1_o
    have g2_t1 := sm_gn hg2 (by omega) g1_t1
    have g2_t2 : h2[t + 2]? = some (.inl (0, 40, .inl (upd fl i.toNatClampNeg (el i.toNatClampNeg)))) := by rw [← hg2]; exact sm_set_s g1_t2
    have g2_t3 := sm_gn hg2 (by omega) g1_t3
    have g2_o1 := sm_gn hg2 (by omega) g1_o1
    have g2_o2 := sm_gn hg2 (by omega) g1_o2
    have g2_o3 := sm_gn hg2 (by omega) g1_o3
    refine sm_go_st (i := .aload_n 0) (n := 1) (t := (43, [(2, .int i), (0, .ref t), (1, .ref o)], [.ref t], h2)) rfl rfl ?_
    refine sm_go_gf (r := []) (v := .ref (t + 3)) rfl rfl g2_t rfl ?_
    refine sm_go_st (i := .iload_n 2) (n := 1) (t := (47, [(2, .int i), (0, .ref t), (1, .ref o)], [.int i, .ref (t + 3)], h2)) rfl rfl ?_
    refine sm_go_st (i := .aload_n 1) (n := 1) (t := (48, [(2, .int i), (0, .ref t), (1, .ref o)], [.ref o, .int i, .ref (t + 3)], h2)) rfl rfl ?_
    refine sm_go_gf (r := [.int i, .ref (t + 3)]) (v := .ref (o + 3)) rfl rfl g2_o rfl ?_
    refine sm_go_st (i := .iload_n 2) (n := 1) (t := (52, [(2, .int i), (0, .ref t), (1, .ref o)], [.int i, .ref (o + 3), .int i, .ref (t + 3)], h2)) rfl rfl ?_
    refine sm_go_ia (r := [.int i, .ref (t + 3)]) rfl g2_o3 (by omega) hin ?_
    refine sm_go_is (r := []) rfl g2_t3 hin ?_
    generalize hg3 : h2.set (t + 3) (.inl (0, 40, .inl (upd fa i.toNatClampNeg (ea i.toNatClampNeg)))) = h3
    have g3_t := sm_gn hg3 (by omega) g2_t
    have g3_o := sm_gn hg3 (by omega) g2_o
    have g3_t1 := sm_gn hg3 (by omega) g2_t1
    have g3_t2 := sm_gn hg3 (by omega) g2_t2
    have g3_t3 : h3[t + 3]? = some (.inl (0, 40, .inl (upd fa i.toNatClampNeg (ea i.toNatClampNeg)))) := by rw [← hg3]; exact sm_set_s g2_t3
    have g3_o1 := sm_gn hg3 (by omega) g2_o1
    have g3_o2 := sm_gn hg3 (by omega) g2_o2
    have g3_o3 := sm_gn hg3 (by omega) g2_o3
    refine sm_go_st (i := .iinc 2 1) (n := 3) (t := (57, [(2, .int (i + 1)), (0, .ref t), (1, .ref o)], [], h3)) rfl rfl ?_
    refine sm_go_st (i := .goto (-47)) (n := 3) (t := (10, [(2, .int (i + 1)), (0, .ref t), (1, .ref o)], [], h3)) rfl rfl ?_
    have hi1 : (i + 1).toInt = i.toInt + 1 := by
      rw [Int32.toInt_add, show (1 : Int32).toInt = 1 from rfl, Int.bmod_eq_of_le (by omega) (by omega)]
    refine ih (i + 1) h3 (by omega) (by omega) (by omega) ⟨g3_t, g3_o, ⟨_, _, _, g3_t1, g3_t2, g3_t3, fun dd hd h1 => ?_⟩, ⟨_, _, _, g3_o1, g3_o2, g3_o3, r4⟩, fun b hb => ?_⟩
    · rw [upd_at] at h1 ⊢
      by_cases hdd : dd = i.toNatClampNeg
      · rw [if_pos hdd] at h1 ⊢
        exact r4 _ (by omega) h1
      · rw [if_neg hdd] at h1 ⊢
        exact p4 dd hd h1
    · have hb2 := hb
      simp only [List.mem_cons, List.not_mem_nil, or_false, not_or] at hb2
      rw [← hg3, List.getElem?_set_ne (fun z => hb2.2.2.2 z.symm), ← hg2, List.getElem?_set_ne (fun z => hb2.2.2.1 z.symm), ← hg1, List.getElem?_set_ne (fun z => hb2.2.1 z.symm)]
      exact fr b hb
set_option maxHeartbeats 2000000 in
theorem dt_ok {d t o : Nat} {rt : ar_R} (hto : t + 4 ≤ o ∨ o + 4 ≤ t) (ho9 : o < 900) (ht : t ∈ ps_C) (ho : o ∈ ps_C) (hc : ∀ c ∈ ps_C, c = t ∨ t + 4 ≤ c ∨ c + 4 ≤ t) : ak_ok ps_h (sm_Ex 200 sm_ML sm_B (d + 1)) (dt_c t o rt) := by
  refine sm_hand (B := dt_B) (by show (54 : Nat) < 200; decide) rfl (by show (2 : Nat) ≤ sm_ML 54; decide +kernel) ?_
  intro vs h hv hh hPs
  match vs, hv with
  | [v0, v1], hv =>
    obtain ⟨e0, e1, -⟩ := hv
    have e0 : v0 = .ref t := e0
    have e1 : v1 = .ref o := e1
    subst e0
    subst e1
    obtain ⟨st, gt, -⟩ := dt_get (c := t) (r := rt) List.mem_cons_self hh
    obtain ⟨s, go, hs⟩ := dt_get (c := o) (r := [(0, 40)]) (List.mem_cons_of_mem _ List.mem_cons_self) hh
    have hs := ar_1 hs
    refine sm_go_st (i := .aload_n 0) (n := 1) (t := (1, [(0, .ref t), (1, .ref o)], [.ref t], h)) rfl rfl ?_
    refine sm_go_st (i := .aload_n 1) (n := 1) (t := (2, [(0, .ref t), (1, .ref o)], [.ref o, .ref t], h)) rfl rfl ?_
    refine sm_go_gf (r := [.ref t]) (v := .int s) rfl rfl go rfl ?_
    refine sm_go_pf (r := []) rfl rfl gt (Nat.le_of_ble_eq_true rfl) ?_
    generalize hg1 : h.set t (.inr (0, ([.int st, .ref (t + 1), .ref (t + 2), .ref (t + 3)] : List Value).set 0 (.int s))) = h1
    have g1_t : h1[t]? = some (.inr (0, [.int s, .ref (t + 1), .ref (t + 2), .ref (t + 3)])) := by rw [← hg1]; exact sm_set_s gt
    have g1_o := sm_gn hg1 (by omega) go
    refine sm_go_st (i := .iconst 0) (n := 1) (t := (9, [(0, .ref t), (1, .ref o)], [.int 0], h1)) rfl rfl ?_
    refine sm_go_st (i := .istore_n 2) (n := 1) (t := (10, [(2, .int 0), (0, .ref t), (1, .ref o)], [], h1)) rfl rfl ?_
    refine dt_loop hto ho9 hs hc hPs 41 0 h1 (by decide) (by decide) (by decide) ⟨g1_t, g1_o, ?_, ?_, fun b hb => ?_⟩
    · rw [← hg1]
      exact ps_1_set (by omega) (by omega) (by omega) (hPs t ht)
    · rw [← hg1]
      exact ps_1_set (by omega) (by omega) (by omega) (hPs o ho)
    · rw [← hg1, List.getElem?_set_ne (fun z => hb (by rw [← z]; exact List.mem_cons_self))]
  | [], hv => exact hv.elim
  | [_], hv => exact hv.2.elim
  | _ :: _ :: _ :: _, hv => exact hv.2.2.elim
/-! The class: its contracts hold. The global word Psi is kept by all; what is walked by hand comes as a premise here. -/
/-- what is walked by hand -/
def ko_H (Psi : List va_E → Prop) : Prop := ak_ok Psi (sm_Ex 200 sm_ML sm_B 1) kcc0 ∧ ak_ok Psi (sm_Ex 200 sm_ML sm_B 1) kcc1 ∧ ak_ok Psi (sm_Ex 200 sm_ML sm_B 1) kcc2 ∧ ak_ok Psi (sm_Ex 200 sm_ML sm_B 1) kcc3 ∧ ak_ok Psi (sm_Ex 200 sm_ML sm_B 1) kcc4 ∧ ak_ok Psi (sm_Ex 200 sm_ML sm_B 1) kcc5 ∧ ak_ok Psi (sm_Ex 200 sm_ML sm_B 1) kcc6 ∧ ak_ok Psi (sm_Ex 200 sm_ML sm_B 1) kcc7 ∧ ak_ok Psi (sm_Ex 200 sm_ML sm_B 7) kcc8 ∧ ak_ok Psi (sm_Ex 200 sm_ML sm_B 3) kcc9
theorem ko0 {Psi : List va_E → Prop} (H : ko_H Psi) : ak_ok Psi (sm_Ex 200 sm_ML sm_B 1) kcc0 := H.1
theorem ko1 {Psi : List va_E → Prop} (H : ko_H Psi) : ak_ok Psi (sm_Ex 200 sm_ML sm_B 1) kcc1 := H.2.1
theorem ko2 {Psi : List va_E → Prop} (H : ko_H Psi) : ak_ok Psi (sm_Ex 200 sm_ML sm_B 1) kcc2 := H.2.2.1
theorem ko3 {Psi : List va_E → Prop} (H : ko_H Psi) : ak_ok Psi (sm_Ex 200 sm_ML sm_B 1) kcc3 := H.2.2.2.1
theorem ko4 {Psi : List va_E → Prop} (H : ko_H Psi) : ak_ok Psi (sm_Ex 200 sm_ML sm_B 1) kcc4 := H.2.2.2.2.1
theorem ko5 {Psi : List va_E → Prop} (H : ko_H Psi) : ak_ok Psi (sm_Ex 200 sm_ML sm_B 1) kcc5 := H.2.2.2.2.2.1
theorem ko6 {Psi : List va_E → Prop} (H : ko_H Psi) : ak_ok Psi (sm_Ex 200 sm_ML sm_B 1) kcc6 := H.2.2.2.2.2.2.1
theorem ko7 {Psi : List va_E → Prop} (H : ko_H Psi) : ak_ok Psi (sm_Ex 200 sm_ML sm_B 1) kcc7 := H.2.2.2.2.2.2.2.1
theorem ko8 {Psi : List va_E → Prop} (H : ko_H Psi) : ak_ok Psi (sm_Ex 200 sm_ML sm_B 7) kcc8 := H.2.2.2.2.2.2.2.2.1
theorem ko9 {Psi : List va_E → Prop} (H : ko_H Psi) : ak_ok Psi (sm_Ex 200 sm_ML sm_B 3) kcc9 := H.2.2.2.2.2.2.2.2.2
theorem ko10 {Psi : List va_E → Prop} (hP : ∀ (h : List va_E) (a : Nat) (e : va_E), a ∉ ai_pc → Psi h → Psi (h.set a e)) (H : ko_H Psi) : ak_ok Psi (sm_Ex 200 sm_ML sm_B 1) kcc10 := ai_ok (d := 0) rfl rfl rfl hP ak_nil kck10
theorem ko11 {Psi : List va_E → Prop} (hP : ∀ (h : List va_E) (a : Nat) (e : va_E), a ∉ ai_pc → Psi h → Psi (h.set a e)) (H : ko_H Psi) : ak_ok Psi (sm_Ex 200 sm_ML sm_B 1) kcc11 := ai_ok (d := 0) rfl rfl rfl hP ak_nil kck11
theorem ko12 {Psi : List va_E → Prop} (hP : ∀ (h : List va_E) (a : Nat) (e : va_E), a ∉ ai_pc → Psi h → Psi (h.set a e)) (H : ko_H Psi) : ak_ok Psi (sm_Ex 200 sm_ML sm_B 2) kcc12 := ai_ok (d := 1) rfl rfl rfl hP (ak_cons (ak_ok_le 1 (by decide) (ko10 hP H)) (ak_cons (ak_ok_le 1 (by decide) (ko11 hP H)) ak_nil)) kck12
theorem ko13 {Psi : List va_E → Prop} (hP : ∀ (h : List va_E) (a : Nat) (e : va_E), a ∉ ai_pc → Psi h → Psi (h.set a e)) (H : ko_H Psi) : ak_ok Psi (sm_Ex 200 sm_ML sm_B 2) kcc13 := ai_ok (d := 1) rfl rfl rfl hP (ak_cons (ak_ok_le 1 (by decide) (ko10 hP H)) (ak_cons (ak_ok_le 1 (by decide) (ko11 hP H)) ak_nil)) kck13
theorem ko14 {Psi : List va_E → Prop} (hP : ∀ (h : List va_E) (a : Nat) (e : va_E), a ∉ ai_pc → Psi h → Psi (h.set a e)) (H : ko_H Psi) : ak_ok Psi (sm_Ex 200 sm_ML sm_B 1) kcc14 := ai_ok (d := 0) rfl rfl rfl hP ak_nil kck14
theorem ko15 {Psi : List va_E → Prop} (hP : ∀ (h : List va_E) (a : Nat) (e : va_E), a ∉ ai_pc → Psi h → Psi (h.set a e)) (H : ko_H Psi) : ak_ok Psi (sm_Ex 200 sm_ML sm_B 3) kcc15 := ai_ok (d := 2) rfl rfl rfl hP (ak_cons (ak_ok_le 2 (by decide) (ko13 hP H)) (ak_cons (ak_ok_le 2 (by decide) (ko14 hP H)) ak_nil)) kck15
theorem ko16 {Psi : List va_E → Prop} (hP : ∀ (h : List va_E) (a : Nat) (e : va_E), a ∉ ai_pc → Psi h → Psi (h.set a e)) (H : ko_H Psi) : ak_ok Psi (sm_Ex 200 sm_ML sm_B 3) kcc16 := ai_ok (d := 2) rfl rfl rfl hP (ak_cons (ak_ok_le 2 (by decide) (ko13 hP H)) (ak_cons (ak_ok_le 2 (by decide) (ko14 hP H)) ak_nil)) kck16
theorem ko17 {Psi : List va_E → Prop} (hP : ∀ (h : List va_E) (a : Nat) (e : va_E), a ∉ ai_pc → Psi h → Psi (h.set a e)) (H : ko_H Psi) : ak_ok Psi (sm_Ex 200 sm_ML sm_B 2) kcc17 := ai_ok (d := 1) rfl rfl rfl hP (ak_cons (ak_ok_le 1 (by decide) (ko10 hP H)) (ak_cons (ak_ok_le 1 (by decide) (ko11 hP H)) ak_nil)) kck17
theorem ko18 {Psi : List va_E → Prop} (hP : ∀ (h : List va_E) (a : Nat) (e : va_E), a ∉ ai_pc → Psi h → Psi (h.set a e)) (H : ko_H Psi) : ak_ok Psi (sm_Ex 200 sm_ML sm_B 2) kcc18 := ai_ok2 (d := 1) rfl rfl rfl hP (ak_cons (ak_ok_le 1 (by decide) (ko10 hP H)) (ak_cons (ak_ok_le 1 (by decide) (ko11 hP H)) (ak_cons (ak_ok_le 1 (by decide) (ko14 hP H)) ak_nil))) kck18
theorem ko19 {Psi : List va_E → Prop} (hP : ∀ (h : List va_E) (a : Nat) (e : va_E), a ∉ ai_pc → Psi h → Psi (h.set a e)) (H : ko_H Psi) : ak_ok Psi (sm_Ex 200 sm_ML sm_B 1) kcc19 := ai_ok (d := 0) rfl rfl rfl hP ak_nil kck19
theorem ko20 {Psi : List va_E → Prop} (hP : ∀ (h : List va_E) (a : Nat) (e : va_E), a ∉ ai_pc → Psi h → Psi (h.set a e)) (H : ko_H Psi) : ak_ok Psi (sm_Ex 200 sm_ML sm_B 2) kcc20 := ai_ok (d := 1) rfl rfl rfl hP (ak_cons (ak_ok_le 1 (by decide) (ko19 hP H)) (ak_cons (ak_ok_le 1 (by decide) (ko11 hP H)) ak_nil)) kck20
theorem ko21 {Psi : List va_E → Prop} (hP : ∀ (h : List va_E) (a : Nat) (e : va_E), a ∉ ai_pc → Psi h → Psi (h.set a e)) (H : ko_H Psi) : ak_ok Psi (sm_Ex 200 sm_ML sm_B 2) kcc21 := ai_ok (d := 1) rfl rfl rfl hP (ak_cons (ak_ok_le 1 (by decide) (ko19 hP H)) (ak_cons (ak_ok_le 1 (by decide) (ko11 hP H)) ak_nil)) kck21
theorem ko976 {Psi : List va_E → Prop} (hP : ∀ (h : List va_E) (a : Nat) (e : va_E), a ∉ ai_pc → Psi h → Psi (h.set a e)) (H : ko_H Psi) : ak_ok Psi (sm_Ex 200 sm_ML sm_B 1) kcc976 := ai_ok (d := 0) rfl rfl rfl hP ak_nil kck976
theorem ko977 {Psi : List va_E → Prop} (hP : ∀ (h : List va_E) (a : Nat) (e : va_E), a ∉ ai_pc → Psi h → Psi (h.set a e)) (H : ko_H Psi) : ak_ok Psi (sm_Ex 200 sm_ML sm_B 1) kcc977 := ai_ok (d := 0) rfl rfl rfl hP ak_nil kck977
theorem ko978 {Psi : List va_E → Prop} (hP : ∀ (h : List va_E) (a : Nat) (e : va_E), a ∉ ai_pc → Psi h → Psi (h.set a e)) (H : ko_H Psi) : ak_ok Psi (sm_Ex 200 sm_ML sm_B 1) kcc978 := ai_ok (d := 0) rfl rfl rfl hP ak_nil kck978
theorem ko979 {Psi : List va_E → Prop} (hP : ∀ (h : List va_E) (a : Nat) (e : va_E), a ∉ ai_pc → Psi h → Psi (h.set a e)) (H : ko_H Psi) : ak_ok Psi (sm_Ex 200 sm_ML sm_B 1) kcc979 := ai_ok (d := 0) rfl rfl rfl hP ak_nil kck979
theorem ko980 {Psi : List va_E → Prop} (hP : ∀ (h : List va_E) (a : Nat) (e : va_E), a ∉ ai_pc → Psi h → Psi (h.set a e)) (H : ko_H Psi) : ak_ok Psi (sm_Ex 200 sm_ML sm_B 2) kcc980 := ai_ok (d := 1) rfl rfl rfl hP (ak_cons (ak_ok_le 1 (by decide) (ko977 hP H)) (ak_cons (ak_ok_le 1 (by decide) (ko978 hP H)) (ak_cons (ak_ok_le 1 (by decide) (ko979 hP H)) ak_nil))) kck980
theorem ko981 {Psi : List va_E → Prop} (hP : ∀ (h : List va_E) (a : Nat) (e : va_E), a ∉ ai_pc → Psi h → Psi (h.set a e)) (H : ko_H Psi) : ak_ok Psi (sm_Ex 200 sm_ML sm_B 3) kcc981 := ai_ok (d := 2) rfl rfl rfl hP (ak_cons (ak_ok_le 2 (by decide) (ko980 hP H)) ak_nil) kck981
theorem ko982 {Psi : List va_E → Prop} (hP : ∀ (h : List va_E) (a : Nat) (e : va_E), a ∉ ai_pc → Psi h → Psi (h.set a e)) (H : ko_H Psi) : ak_ok Psi (sm_Ex 200 sm_ML sm_B 4) kcc982 := ai_ok (d := 3) rfl rfl rfl hP (ak_cons (ak_ok_le 3 (by decide) (ko981 hP H)) ak_nil) kck982
theorem ko983 {Psi : List va_E → Prop} (hP : ∀ (h : List va_E) (a : Nat) (e : va_E), a ∉ ai_pc → Psi h → Psi (h.set a e)) (H : ko_H Psi) : ak_ok Psi (sm_Ex 200 sm_ML sm_B 5) kcc983 := ai_ok (d := 4) rfl rfl rfl hP (ak_cons (ak_ok_le 4 (by decide) (ko976 hP H)) (ak_cons (ak_ok_le 4 (by decide) (ko982 hP H)) (ak_cons (ak_ok_le 4 (by decide) (ko14 hP H)) ak_nil))) kck983
theorem ko984 {Psi : List va_E → Prop} (hP : ∀ (h : List va_E) (a : Nat) (e : va_E), a ∉ ai_pc → Psi h → Psi (h.set a e)) (H : ko_H Psi) : ak_ok Psi (sm_Ex 200 sm_ML sm_B 1) kcc984 := ai_ok (d := 0) rfl rfl rfl hP ak_nil kck984
theorem ko985 {Psi : List va_E → Prop} (hP : ∀ (h : List va_E) (a : Nat) (e : va_E), a ∉ ai_pc → Psi h → Psi (h.set a e)) (H : ko_H Psi) : ak_ok Psi (sm_Ex 200 sm_ML sm_B 1) kcc985 := ai_ok (d := 0) rfl rfl rfl hP ak_nil kck985
theorem ko986 {Psi : List va_E → Prop} (hP : ∀ (h : List va_E) (a : Nat) (e : va_E), a ∉ ai_pc → Psi h → Psi (h.set a e)) (H : ko_H Psi) : ak_ok Psi (sm_Ex 200 sm_ML sm_B 3) kcc986 := ai_ok (d := 2) rfl rfl rfl hP (ak_cons (ak_ok_le 2 (by decide) (ko985 hP H)) (ak_cons (ak_ok_le 2 (by decide) (ko980 hP H)) ak_nil)) kck986
theorem ko987 {Psi : List va_E → Prop} (hP : ∀ (h : List va_E) (a : Nat) (e : va_E), a ∉ ai_pc → Psi h → Psi (h.set a e)) (H : ko_H Psi) : ak_ok Psi (sm_Ex 200 sm_ML sm_B 4) kcc987 := ai_ok (d := 3) rfl rfl rfl hP (ak_cons (ak_ok_le 3 (by decide) (ko984 hP H)) (ak_cons (ak_ok_le 3 (by decide) (ko986 hP H)) (ak_cons (ak_ok_le 3 (by decide) (ko14 hP H)) ak_nil))) kck987
theorem ko988 {Psi : List va_E → Prop} (hP : ∀ (h : List va_E) (a : Nat) (e : va_E), a ∉ ai_pc → Psi h → Psi (h.set a e)) (H : ko_H Psi) : ak_ok Psi (sm_Ex 200 sm_ML sm_B 1) kcc988 := ai_ok (d := 0) rfl rfl rfl hP ak_nil kck988
theorem ko989 {Psi : List va_E → Prop} (hP : ∀ (h : List va_E) (a : Nat) (e : va_E), a ∉ ai_pc → Psi h → Psi (h.set a e)) (H : ko_H Psi) : ak_ok Psi (sm_Ex 200 sm_ML sm_B 2) kcc989 := ai_ok (d := 1) rfl rfl rfl hP (ak_cons (ak_ok_le 1 (by decide) (ko985 hP H)) ak_nil) kck989
theorem ko990 {Psi : List va_E → Prop} (hP : ∀ (h : List va_E) (a : Nat) (e : va_E), a ∉ ai_pc → Psi h → Psi (h.set a e)) (H : ko_H Psi) : ak_ok Psi (sm_Ex 200 sm_ML sm_B 1) kcc990 := ai_ok (d := 0) rfl rfl rfl hP ak_nil kck990
theorem ko991 {Psi : List va_E → Prop} (hP : ∀ (h : List va_E) (a : Nat) (e : va_E), a ∉ ai_pc → Psi h → Psi (h.set a e)) (H : ko_H Psi) : ak_ok Psi (sm_Ex 200 sm_ML sm_B 2) kcc991 := ai_ok (d := 1) rfl rfl rfl hP (ak_cons (ak_ok_le 1 (by decide) (ko978 hP H)) (ak_cons (ak_ok_le 1 (by decide) (ko979 hP H)) ak_nil)) kck991
theorem ko992 {Psi : List va_E → Prop} (hP : ∀ (h : List va_E) (a : Nat) (e : va_E), a ∉ ai_pc → Psi h → Psi (h.set a e)) (H : ko_H Psi) : ak_ok Psi (sm_Ex 200 sm_ML sm_B 1) kcc992 := ai_ok (d := 0) rfl rfl rfl hP ak_nil kck992
theorem ko993 {Psi : List va_E → Prop} (hP : ∀ (h : List va_E) (a : Nat) (e : va_E), a ∉ ai_pc → Psi h → Psi (h.set a e)) (H : ko_H Psi) : ak_ok Psi (sm_Ex 200 sm_ML sm_B 3) kcc993 := ai_ok (d := 2) rfl rfl rfl hP (ak_cons (ak_ok_le 2 (by decide) (ko984 hP H)) (ak_cons (ak_ok_le 2 (by decide) (ko988 hP H)) (ak_cons (ak_ok_le 2 (by decide) (ko985 hP H)) (ak_cons (ak_ok_le 2 (by decide) (ko989 hP H)) (ak_cons (ak_ok_le 2 (by decide) (ko990 hP H)) (ak_cons (ak_ok_le 2 (by decide) (ko991 hP H)) (ak_cons (ak_ok_le 2 (by decide) (ko992 hP H)) (ak_cons (ak_ok_le 2 (by decide) (ko11 hP H)) ak_nil)))))))) kck993
theorem ko994 {Psi : List va_E → Prop} (hP : ∀ (h : List va_E) (a : Nat) (e : va_E), a ∉ ai_pc → Psi h → Psi (h.set a e)) (H : ko_H Psi) : ak_ok Psi (sm_Ex 200 sm_ML sm_B 3) kcc994 := ai_ok (d := 2) rfl rfl rfl hP (ak_cons (ak_ok_le 2 (by decide) (ko980 hP H)) (ak_cons (ak_ok_le 2 (by decide) (ko985 hP H)) ak_nil)) kck994
theorem ko995 {Psi : List va_E → Prop} (hP : ∀ (h : List va_E) (a : Nat) (e : va_E), a ∉ ai_pc → Psi h → Psi (h.set a e)) (H : ko_H Psi) : ak_ok Psi (sm_Ex 200 sm_ML sm_B 4) kcc995 := ai_ok (d := 3) rfl rfl rfl hP (ak_cons (ak_ok_le 3 (by decide) (ko994 hP H)) ak_nil) kck995
theorem ko996 {Psi : List va_E → Prop} (hP : ∀ (h : List va_E) (a : Nat) (e : va_E), a ∉ ai_pc → Psi h → Psi (h.set a e)) (H : ko_H Psi) : ak_ok Psi (sm_Ex 200 sm_ML sm_B 5) kcc996 := ai_ok (d := 4) rfl rfl rfl hP (ak_cons (ak_ok_le 4 (by decide) (ko0 H)) (ak_cons (ak_ok_le 4 (by decide) (ko995 hP H)) ak_nil)) kck996
theorem ko997 {Psi : List va_E → Prop} (hP : ∀ (h : List va_E) (a : Nat) (e : va_E), a ∉ ai_pc → Psi h → Psi (h.set a e)) (H : ko_H Psi) : ak_ok Psi (sm_Ex 200 sm_ML sm_B 6) kcc997 := ai_ok (d := 5) rfl rfl rfl hP (ak_cons (ak_ok_le 5 (by decide) (ko996 hP H)) ak_nil) kck997
theorem ko998 {Psi : List va_E → Prop} (hP : ∀ (h : List va_E) (a : Nat) (e : va_E), a ∉ ai_pc → Psi h → Psi (h.set a e)) (H : ko_H Psi) : ak_ok Psi (sm_Ex 200 sm_ML sm_B 1) kcc998 := ai_ok (d := 0) rfl rfl rfl hP ak_nil kck998
theorem ko999 {Psi : List va_E → Prop} (hP : ∀ (h : List va_E) (a : Nat) (e : va_E), a ∉ ai_pc → Psi h → Psi (h.set a e)) (H : ko_H Psi) : ak_ok Psi (sm_Ex 200 sm_ML sm_B 2) kcc999 := ai_ok (d := 1) rfl rfl rfl hP (ak_cons (ak_ok_le 1 (by decide) (ko1 H)) (ak_cons (ak_ok_le 1 (by decide) (ko998 hP H)) ak_nil)) kck999
theorem ko1000 {Psi : List va_E → Prop} (hP : ∀ (h : List va_E) (a : Nat) (e : va_E), a ∉ ai_pc → Psi h → Psi (h.set a e)) (H : ko_H Psi) : ak_ok Psi (sm_Ex 200 sm_ML sm_B 3) kcc1000 := ai_ok (d := 2) rfl rfl rfl hP (ak_cons (ak_ok_le 2 (by decide) (ko976 hP H)) (ak_cons (ak_ok_le 2 (by decide) (ko999 hP H)) ak_nil)) kck1000
theorem ko1001 {Psi : List va_E → Prop} (hP : ∀ (h : List va_E) (a : Nat) (e : va_E), a ∉ ai_pc → Psi h → Psi (h.set a e)) (H : ko_H Psi) : ak_ok Psi (sm_Ex 200 sm_ML sm_B 1) kcc1001 := ai_ok (d := 0) rfl rfl rfl hP ak_nil kck1001
theorem ko1002 {Psi : List va_E → Prop} (hP : ∀ (h : List va_E) (a : Nat) (e : va_E), a ∉ ai_pc → Psi h → Psi (h.set a e)) (H : ko_H Psi) : ak_ok Psi (sm_Ex 200 sm_ML sm_B 2) kcc1002 := ai_ok (d := 1) rfl rfl rfl hP (ak_cons (ak_ok_le 1 (by decide) (ko0 H)) (ak_cons (ak_ok_le 1 (by decide) (ko1001 hP H)) ak_nil)) kck1002
theorem ko1003 {Psi : List va_E → Prop} (hP : ∀ (h : List va_E) (a : Nat) (e : va_E), a ∉ ai_pc → Psi h → Psi (h.set a e)) (H : ko_H Psi) : ak_ok Psi (sm_Ex 200 sm_ML sm_B 1) kcc1003 := ai_ok (d := 0) rfl rfl rfl hP ak_nil kck1003
theorem ko1004 {Psi : List va_E → Prop} (hP : ∀ (h : List va_E) (a : Nat) (e : va_E), a ∉ ai_pc → Psi h → Psi (h.set a e)) (H : ko_H Psi) : ak_ok Psi (sm_Ex 200 sm_ML sm_B 2) kcc1004 := ai_ok (d := 1) rfl rfl rfl hP (ak_cons (ak_ok_le 1 (by decide) (ko0 H)) (ak_cons (ak_ok_le 1 (by decide) (ko1003 hP H)) ak_nil)) kck1004
theorem ko1005 {Psi : List va_E → Prop} (hP : ∀ (h : List va_E) (a : Nat) (e : va_E), a ∉ ai_pc → Psi h → Psi (h.set a e)) (H : ko_H Psi) : ak_ok Psi (sm_Ex 200 sm_ML sm_B 3) kcc1005 := ai_ok (d := 2) rfl rfl rfl hP (ak_cons (ak_ok_le 2 (by decide) (ko976 hP H)) (ak_cons (ak_ok_le 2 (by decide) (ko1002 hP H)) (ak_cons (ak_ok_le 2 (by decide) (ko1004 hP H)) ak_nil))) kck1005
theorem ko1006 {Psi : List va_E → Prop} (hP : ∀ (h : List va_E) (a : Nat) (e : va_E), a ∉ ai_pc → Psi h → Psi (h.set a e)) (H : ko_H Psi) : ak_ok Psi (sm_Ex 200 sm_ML sm_B 1) kcc1006 := ai_ok (d := 0) rfl rfl rfl hP ak_nil kck1006
theorem ko1007 {Psi : List va_E → Prop} (hP : ∀ (h : List va_E) (a : Nat) (e : va_E), a ∉ ai_pc → Psi h → Psi (h.set a e)) (H : ko_H Psi) : ak_ok Psi (sm_Ex 200 sm_ML sm_B 2) kcc1007 := ai_ok (d := 1) rfl rfl rfl hP (ak_cons (ak_ok_le 1 (by decide) (ko0 H)) (ak_cons (ak_ok_le 1 (by decide) (ko1006 hP H)) ak_nil)) kck1007
theorem ko1008 {Psi : List va_E → Prop} (hP : ∀ (h : List va_E) (a : Nat) (e : va_E), a ∉ ai_pc → Psi h → Psi (h.set a e)) (H : ko_H Psi) : ak_ok Psi (sm_Ex 200 sm_ML sm_B 3) kcc1008 := ai_ok (d := 2) rfl rfl rfl hP (ak_cons (ak_ok_le 2 (by decide) (ko976 hP H)) (ak_cons (ak_ok_le 2 (by decide) (ko1007 hP H)) ak_nil)) kck1008
theorem ko1009 {Psi : List va_E → Prop} (hP : ∀ (h : List va_E) (a : Nat) (e : va_E), a ∉ ai_pc → Psi h → Psi (h.set a e)) (H : ko_H Psi) : ak_ok Psi (sm_Ex 200 sm_ML sm_B 8) kcc1009 := ai_ok (d := 7) rfl rfl rfl hP (ak_cons (ak_ok_le 7 (by decide) (ko8 H)) ak_nil) kck1009
theorem ko1010 {Psi : List va_E → Prop} (hP : ∀ (h : List va_E) (a : Nat) (e : va_E), a ∉ ai_pc → Psi h → Psi (h.set a e)) (H : ko_H Psi) : ak_ok Psi (sm_Ex 200 sm_ML sm_B 1) kcc1010 := ai_ok (d := 0) rfl rfl rfl hP ak_nil kck1010
theorem ko1011 {Psi : List va_E → Prop} (hP : ∀ (h : List va_E) (a : Nat) (e : va_E), a ∉ ai_pc → Psi h → Psi (h.set a e)) (H : ko_H Psi) : ak_ok Psi (sm_Ex 200 sm_ML sm_B 2) kcc1011 := ai_ok (d := 1) rfl rfl rfl hP (ak_cons (ak_ok_le 1 (by decide) (ko1010 hP H)) (ak_cons (ak_ok_le 1 (by decide) (ko6 H)) (ak_cons (ak_ok_le 1 (by decide) (ko4 H)) (ak_cons (ak_ok_le 1 (by decide) (ko2 H)) ak_nil)))) kck1011
theorem ko1012 {Psi : List va_E → Prop} (hP : ∀ (h : List va_E) (a : Nat) (e : va_E), a ∉ ai_pc → Psi h → Psi (h.set a e)) (H : ko_H Psi) : ak_ok Psi (sm_Ex 200 sm_ML sm_B 8) kcc1012 := ai_ok (d := 7) rfl rfl rfl hP (ak_cons (ak_ok_le 7 (by decide) (ko1010 hP H)) (ak_cons (ak_ok_le 7 (by decide) (ko11 hP H)) (ak_cons (ak_ok_le 7 (by decide) (ko7 H)) (ak_cons (ak_ok_le 7 (by decide) (ko8 H)) (ak_cons (ak_ok_le 7 (by decide) (ko5 H)) (ak_cons (ak_ok_le 7 (by decide) (ko3 H)) ak_nil)))))) kck1012
theorem ko1013 {Psi : List va_E → Prop} (hP : ∀ (h : List va_E) (a : Nat) (e : va_E), a ∉ ai_pc → Psi h → Psi (h.set a e)) (H : ko_H Psi) : ak_ok Psi (sm_Ex 200 sm_ML sm_B 2) kcc1013 := ai_ok (d := 1) rfl rfl rfl hP (ak_cons (ak_ok_le 1 (by decide) (ko984 hP H)) (ak_cons (ak_ok_le 1 (by decide) (ko979 hP H)) (ak_cons (ak_ok_le 1 (by decide) (ko14 hP H)) ak_nil))) kck1013
theorem ko1014 {Psi : List va_E → Prop} (hP : ∀ (h : List va_E) (a : Nat) (e : va_E), a ∉ ai_pc → Psi h → Psi (h.set a e)) (H : ko_H Psi) : ak_ok Psi (sm_Ex 200 sm_ML sm_B 1) kcc1014 := ai_ok (d := 0) rfl rfl rfl hP ak_nil kck1014
theorem ko1015 {Psi : List va_E → Prop} (hP : ∀ (h : List va_E) (a : Nat) (e : va_E), a ∉ ai_pc → Psi h → Psi (h.set a e)) (H : ko_H Psi) : ak_ok Psi (sm_Ex 200 sm_ML sm_B 1) kcc1015 := ai_ok (d := 0) rfl rfl rfl hP ak_nil kck1015
theorem ko1016 {Psi : List va_E → Prop} (hP : ∀ (h : List va_E) (a : Nat) (e : va_E), a ∉ ai_pc → Psi h → Psi (h.set a e)) (H : ko_H Psi) : ak_ok Psi (sm_Ex 200 sm_ML sm_B 1) kcc1016 := ai_ok (d := 0) rfl rfl rfl hP ak_nil kck1016
theorem ko1017 {Psi : List va_E → Prop} (hP : ∀ (h : List va_E) (a : Nat) (e : va_E), a ∉ ai_pc → Psi h → Psi (h.set a e)) (H : ko_H Psi) : ak_ok Psi (sm_Ex 200 sm_ML sm_B 2) kcc1017 := ai_ok (d := 1) rfl rfl rfl hP (ak_cons (ak_ok_le 1 (by decide) (ko1015 hP H)) (ak_cons (ak_ok_le 1 (by decide) (ko1016 hP H)) (ak_cons (ak_ok_le 1 (by decide) (ko979 hP H)) ak_nil))) kck1017
theorem ko1018 {Psi : List va_E → Prop} (hP : ∀ (h : List va_E) (a : Nat) (e : va_E), a ∉ ai_pc → Psi h → Psi (h.set a e)) (H : ko_H Psi) : ak_ok Psi (sm_Ex 200 sm_ML sm_B 3) kcc1018 := ai_ok (d := 2) rfl rfl rfl hP (ak_cons (ak_ok_le 2 (by decide) (ko1017 hP H)) (ak_cons (ak_ok_le 2 (by decide) (ko985 hP H)) ak_nil)) kck1018
theorem ko1019 {Psi : List va_E → Prop} (hP : ∀ (h : List va_E) (a : Nat) (e : va_E), a ∉ ai_pc → Psi h → Psi (h.set a e)) (H : ko_H Psi) : ak_ok Psi (sm_Ex 200 sm_ML sm_B 4) kcc1019 := ai_ok (d := 3) rfl rfl rfl hP (ak_cons (ak_ok_le 3 (by decide) (ko1018 hP H)) ak_nil) kck1019
theorem ko1020 {Psi : List va_E → Prop} (hP : ∀ (h : List va_E) (a : Nat) (e : va_E), a ∉ ai_pc → Psi h → Psi (h.set a e)) (H : ko_H Psi) : ak_ok Psi (sm_Ex 200 sm_ML sm_B 5) kcc1020 := ai_ok (d := 4) rfl rfl rfl hP (ak_cons (ak_ok_le 4 (by decide) (ko1014 hP H)) (ak_cons (ak_ok_le 4 (by decide) (ko1019 hP H)) ak_nil)) kck1020
theorem ko1021 {Psi : List va_E → Prop} (hP : ∀ (h : List va_E) (a : Nat) (e : va_E), a ∉ ai_pc → Psi h → Psi (h.set a e)) (H : ko_H Psi) : ak_ok Psi (sm_Ex 200 sm_ML sm_B 6) kcc1021 := ai_ok (d := 5) rfl rfl rfl hP (ak_cons (ak_ok_le 5 (by decide) (ko976 hP H)) (ak_cons (ak_ok_le 5 (by decide) (ko1020 hP H)) ak_nil)) kck1021
theorem ko1022 {Psi : List va_E → Prop} (hP : ∀ (h : List va_E) (a : Nat) (e : va_E), a ∉ ai_pc → Psi h → Psi (h.set a e)) (H : ko_H Psi) : ak_ok Psi (sm_Ex 200 sm_ML sm_B 1) kcc1022 := ai_ok (d := 0) rfl rfl rfl hP ak_nil kck1022
theorem ko1023 {Psi : List va_E → Prop} (hP : ∀ (h : List va_E) (a : Nat) (e : va_E), a ∉ ai_pc → Psi h → Psi (h.set a e)) (H : ko_H Psi) : ak_ok Psi (sm_Ex 200 sm_ML sm_B 6) kcc1023 := ai_ok (d := 5) rfl rfl rfl hP (ak_cons (ak_ok_le 5 (by decide) (ko1020 hP H)) (ak_cons (ak_ok_le 5 (by decide) (ko1022 hP H)) ak_nil)) kck1023
theorem ko1024 {Psi : List va_E → Prop} (hP : ∀ (h : List va_E) (a : Nat) (e : va_E), a ∉ ai_pc → Psi h → Psi (h.set a e)) (H : ko_H Psi) : ak_ok Psi (sm_Ex 200 sm_ML sm_B 4) kcc1024 := ai_ok2 (d := 3) rfl rfl rfl hP (ak_cons (ak_ok_le 3 (by decide) (ko976 hP H)) (ak_cons (ak_ok_le 3 (by decide) (ko1014 hP H)) (ak_cons (ak_ok_le 3 (by decide) (ko1018 hP H)) ak_nil))) kck1024
theorem ko1025 {Psi : List va_E → Prop} (hP : ∀ (h : List va_E) (a : Nat) (e : va_E), a ∉ ai_pc → Psi h → Psi (h.set a e)) (H : ko_H Psi) : ak_ok Psi (sm_Ex 200 sm_ML sm_B 4) kcc1025 := ai_ok2 (d := 3) rfl rfl rfl hP (ak_cons (ak_ok_le 3 (by decide) (ko1014 hP H)) (ak_cons (ak_ok_le 3 (by decide) (ko1018 hP H)) ak_nil)) kck1025
theorem ko1026 {Psi : List va_E → Prop} (hP : ∀ (h : List va_E) (a : Nat) (e : va_E), a ∉ ai_pc → Psi h → Psi (h.set a e)) (H : ko_H Psi) : ak_ok Psi (sm_Ex 200 sm_ML sm_B 5) kcc1026 := ai_ok2 (d := 4) rfl rfl rfl hP (ak_cons (ak_ok_le 4 (by decide) (ko976 hP H)) (ak_cons (ak_ok_le 4 (by decide) (ko1025 hP H)) (ak_cons (ak_ok_le 4 (by decide) (ko14 hP H)) ak_nil))) kck1026
theorem ko1027 {Psi : List va_E → Prop} (hP : ∀ (h : List va_E) (a : Nat) (e : va_E), a ∉ ai_pc → Psi h → Psi (h.set a e)) (H : ko_H Psi) : ak_ok Psi (sm_Ex 200 sm_ML sm_B 1) kcc1027 := ai_ok (d := 0) rfl rfl rfl hP ak_nil kck1027
theorem ko1028 {Psi : List va_E → Prop} (hP : ∀ (h : List va_E) (a : Nat) (e : va_E), a ∉ ai_pc → Psi h → Psi (h.set a e)) (H : ko_H Psi) : ak_ok Psi (sm_Ex 200 sm_ML sm_B 5) kcc1028 := ai_ok (d := 4) rfl rfl rfl hP (ak_cons (ak_ok_le 4 (by decide) (ko1014 hP H)) (ak_cons (ak_ok_le 4 (by decide) (ko1019 hP H)) (ak_cons (ak_ok_le 4 (by decide) (ko1027 hP H)) (ak_cons (ak_ok_le 4 (by decide) (ko14 hP H)) ak_nil)))) kck1028
theorem ko1029 {Psi : List va_E → Prop} (hP : ∀ (h : List va_E) (a : Nat) (e : va_E), a ∉ ai_pc → Psi h → Psi (h.set a e)) (H : ko_H Psi) : ak_ok Psi (sm_Ex 200 sm_ML sm_B 2) kcc1029 := ai_ok2 (d := 1) rfl rfl rfl hP (ak_cons (ak_ok_le 1 (by decide) (ko984 hP H)) (ak_cons (ak_ok_le 1 (by decide) (ko10 hP H)) (ak_cons (ak_ok_le 1 (by decide) (ko11 hP H)) (ak_cons (ak_ok_le 1 (by decide) (ko976 hP H)) ak_nil)))) kck1029
theorem ko1030 {Psi : List va_E → Prop} (hP : ∀ (h : List va_E) (a : Nat) (e : va_E), a ∉ ai_pc → Psi h → Psi (h.set a e)) (H : ko_H Psi) : ak_ok Psi (sm_Ex 200 sm_ML sm_B 4) kcc1030 := ai_ok2 (d := 3) rfl rfl rfl hP (ak_cons (ak_ok_le 3 (by decide) (ko1018 hP H)) ak_nil) kck1030
theorem ko1031 {Psi : List va_E → Prop} (hP : ∀ (h : List va_E) (a : Nat) (e : va_E), a ∉ ai_pc → Psi h → Psi (h.set a e)) (H : ko_H Psi) : ak_ok Psi (sm_Ex 200 sm_ML sm_B 5) kcc1031 := ai_ok (d := 4) rfl rfl rfl hP (ak_cons (ak_ok_le 4 (by decide) (ko1029 hP H)) (ak_cons (ak_ok_le 4 (by decide) (ko1014 hP H)) (ak_cons (ak_ok_le 4 (by decide) (ko1030 hP H)) ak_nil))) kck1031
theorem ko1032 {Psi : List va_E → Prop} (hP : ∀ (h : List va_E) (a : Nat) (e : va_E), a ∉ ai_pc → Psi h → Psi (h.set a e)) (H : ko_H Psi) : ak_ok Psi (sm_Ex 200 sm_ML sm_B 5) kcc1032 := ai_ok (d := 4) rfl rfl rfl hP (ak_cons (ak_ok_le 4 (by decide) (ko1014 hP H)) (ak_cons (ak_ok_le 4 (by decide) (ko1030 hP H)) ak_nil)) kck1032
theorem ko1033 {Psi : List va_E → Prop} (hP : ∀ (h : List va_E) (a : Nat) (e : va_E), a ∉ ai_pc → Psi h → Psi (h.set a e)) (H : ko_H Psi) : ak_ok Psi (sm_Ex 200 sm_ML sm_B 6) kcc1033 := ai_ok (d := 5) rfl rfl rfl hP (ak_cons (ak_ok_le 5 (by decide) (ko1029 hP H)) (ak_cons (ak_ok_le 5 (by decide) (ko1032 hP H)) ak_nil)) kck1033
theorem ko1034 {Psi : List va_E → Prop} (hP : ∀ (h : List va_E) (a : Nat) (e : va_E), a ∉ ai_pc → Psi h → Psi (h.set a e)) (H : ko_H Psi) : ak_ok Psi (sm_Ex 200 sm_ML sm_B 4) kcc1034 := ai_ok (d := 3) rfl rfl rfl hP (ak_cons (ak_ok_le 3 (by decide) (ko1014 hP H)) (ak_cons (ak_ok_le 3 (by decide) (ko1018 hP H)) ak_nil)) kck1034
theorem ko1035 {Psi : List va_E → Prop} (hP : ∀ (h : List va_E) (a : Nat) (e : va_E), a ∉ ai_pc → Psi h → Psi (h.set a e)) (H : ko_H Psi) : ak_ok Psi (sm_Ex 200 sm_ML sm_B 5) kcc1035 := ai_ok2 (d := 4) rfl rfl rfl hP (ak_cons (ak_ok_le 4 (by decide) (ko1034 hP H)) ak_nil) kck1035
theorem ko1036 {Psi : List va_E → Prop} (hP : ∀ (h : List va_E) (a : Nat) (e : va_E), a ∉ ai_pc → Psi h → Psi (h.set a e)) (H : ko_H Psi) : ak_ok Psi (sm_Ex 200 sm_ML sm_B 1) kcc1036 := ai_ok2 (d := 0) rfl rfl rfl hP ak_nil kck1036
theorem ko1037 {Psi : List va_E → Prop} (hP : ∀ (h : List va_E) (a : Nat) (e : va_E), a ∉ ai_pc → Psi h → Psi (h.set a e)) (H : ko_H Psi) : ak_ok Psi (sm_Ex 200 sm_ML sm_B 6) kcc1037 := ai_ok (d := 5) rfl rfl rfl hP (ak_cons (ak_ok_le 5 (by decide) (ko1029 hP H)) (ak_cons (ak_ok_le 5 (by decide) (ko1032 hP H)) (ak_cons (ak_ok_le 5 (by decide) (ko1035 hP H)) (ak_cons (ak_ok_le 5 (by decide) (ko1036 hP H)) (ak_cons (ak_ok_le 5 (by decide) (ko14 hP H)) ak_nil))))) kck1037
theorem ko1038 {Psi : List va_E → Prop} (hP : ∀ (h : List va_E) (a : Nat) (e : va_E), a ∉ ai_pc → Psi h → Psi (h.set a e)) (H : ko_H Psi) : ak_ok Psi (sm_Ex 200 sm_ML sm_B 1) kcc1038 := ai_ok (d := 0) rfl rfl rfl hP ak_nil kck1038
theorem ko1039 {Psi : List va_E → Prop} (hP : ∀ (h : List va_E) (a : Nat) (e : va_E), a ∉ ai_pc → Psi h → Psi (h.set a e)) (H : ko_H Psi) : ak_ok Psi (sm_Ex 200 sm_ML sm_B 1) kcc1039 := ai_ok (d := 0) rfl rfl rfl hP ak_nil kck1039
theorem ko1040 {Psi : List va_E → Prop} (hP : ∀ (h : List va_E) (a : Nat) (e : va_E), a ∉ ai_pc → Psi h → Psi (h.set a e)) (H : ko_H Psi) : ak_ok Psi (sm_Ex 200 sm_ML sm_B 2) kcc1040 := ai_ok (d := 1) rfl rfl rfl hP (ak_cons (ak_ok_le 1 (by decide) (ko1039 hP H)) ak_nil) kck1040
theorem ko1041 {Psi : List va_E → Prop} (hP : ∀ (h : List va_E) (a : Nat) (e : va_E), a ∉ ai_pc → Psi h → Psi (h.set a e)) (H : ko_H Psi) : ak_ok Psi (sm_Ex 200 sm_ML sm_B 3) kcc1041 := ai_ok2 (d := 2) rfl rfl rfl hP (ak_cons (ak_ok_le 2 (by decide) (ko1038 hP H)) (ak_cons (ak_ok_le 2 (by decide) (ko1040 hP H)) (ak_cons (ak_ok_le 2 (by decide) (ko14 hP H)) ak_nil))) kck1041
theorem ko1042 {Psi : List va_E → Prop} (hP : ∀ (h : List va_E) (a : Nat) (e : va_E), a ∉ ai_pc → Psi h → Psi (h.set a e)) (H : ko_H Psi) : ak_ok Psi (sm_Ex 200 sm_ML sm_B 2) kcc1042 := ai_ok2 (d := 1) rfl rfl rfl hP (ak_cons (ak_ok_le 1 (by decide) (ko1038 hP H)) (ak_cons (ak_ok_le 1 (by decide) (ko11 hP H)) (ak_cons (ak_ok_le 1 (by decide) (ko14 hP H)) ak_nil))) kck1042
theorem ko1043 {Psi : List va_E → Prop} (hP : ∀ (h : List va_E) (a : Nat) (e : va_E), a ∉ ai_pc → Psi h → Psi (h.set a e)) (H : ko_H Psi) : ak_ok Psi (sm_Ex 200 sm_ML sm_B 1) kcc1043 := ai_ok (d := 0) rfl rfl rfl hP ak_nil kck1043
theorem ko1044 {Psi : List va_E → Prop} (hP : ∀ (h : List va_E) (a : Nat) (e : va_E), a ∉ ai_pc → Psi h → Psi (h.set a e)) (H : ko_H Psi) : ak_ok Psi (sm_Ex 200 sm_ML sm_B 1) kcc1044 := ai_ok (d := 0) rfl rfl rfl hP ak_nil kck1044
theorem ko1045 {Psi : List va_E → Prop} (hP : ∀ (h : List va_E) (a : Nat) (e : va_E), a ∉ ai_pc → Psi h → Psi (h.set a e)) (H : ko_H Psi) : ak_ok Psi (sm_Ex 200 sm_ML sm_B 1) kcc1045 := ai_ok (d := 0) rfl rfl rfl hP ak_nil kck1045
theorem ko1046 {Psi : List va_E → Prop} (hP : ∀ (h : List va_E) (a : Nat) (e : va_E), a ∉ ai_pc → Psi h → Psi (h.set a e)) (H : ko_H Psi) : ak_ok Psi (sm_Ex 200 sm_ML sm_B 2) kcc1046 := ai_ok (d := 1) rfl rfl rfl hP (ak_cons (ak_ok_le 1 (by decide) (ko1044 hP H)) (ak_cons (ak_ok_le 1 (by decide) (ko1045 hP H)) (ak_cons (ak_ok_le 1 (by decide) (ko979 hP H)) ak_nil))) kck1046
theorem ko1047 {Psi : List va_E → Prop} (hP : ∀ (h : List va_E) (a : Nat) (e : va_E), a ∉ ai_pc → Psi h → Psi (h.set a e)) (H : ko_H Psi) : ak_ok Psi (sm_Ex 200 sm_ML sm_B 3) kcc1047 := ai_ok (d := 2) rfl rfl rfl hP (ak_cons (ak_ok_le 2 (by decide) (ko1046 hP H)) (ak_cons (ak_ok_le 2 (by decide) (ko985 hP H)) ak_nil)) kck1047
theorem ko1048 {Psi : List va_E → Prop} (hP : ∀ (h : List va_E) (a : Nat) (e : va_E), a ∉ ai_pc → Psi h → Psi (h.set a e)) (H : ko_H Psi) : ak_ok Psi (sm_Ex 200 sm_ML sm_B 4) kcc1048 := ai_ok (d := 3) rfl rfl rfl hP (ak_cons (ak_ok_le 3 (by decide) (ko1043 hP H)) (ak_cons (ak_ok_le 3 (by decide) (ko1047 hP H)) ak_nil)) kck1048
theorem ko1049 {Psi : List va_E → Prop} (hP : ∀ (h : List va_E) (a : Nat) (e : va_E), a ∉ ai_pc → Psi h → Psi (h.set a e)) (H : ko_H Psi) : ak_ok Psi (sm_Ex 200 sm_ML sm_B 5) kcc1049 := ai_ok (d := 4) rfl rfl rfl hP (ak_cons (ak_ok_le 4 (by decide) (ko1048 hP H)) ak_nil) kck1049
theorem ko1050 {Psi : List va_E → Prop} (hP : ∀ (h : List va_E) (a : Nat) (e : va_E), a ∉ ai_pc → Psi h → Psi (h.set a e)) (H : ko_H Psi) : ak_ok Psi (sm_Ex 200 sm_ML sm_B 6) kcc1050 := ai_ok (d := 5) rfl rfl rfl hP (ak_cons (ak_ok_le 5 (by decide) (ko1049 hP H)) ak_nil) kck1050
theorem ko1051 {Psi : List va_E → Prop} (hP : ∀ (h : List va_E) (a : Nat) (e : va_E), a ∉ ai_pc → Psi h → Psi (h.set a e)) (H : ko_H Psi) : ak_ok Psi (sm_Ex 200 sm_ML sm_B 7) kcc1051 := ai_ok (d := 6) rfl rfl rfl hP (ak_cons (ak_ok_le 6 (by decide) (ko1050 hP H)) ak_nil) kck1051
theorem ko1052 {Psi : List va_E → Prop} (hP : ∀ (h : List va_E) (a : Nat) (e : va_E), a ∉ ai_pc → Psi h → Psi (h.set a e)) (H : ko_H Psi) : ak_ok Psi (sm_Ex 200 sm_ML sm_B 8) kcc1052 := ai_ok (d := 7) rfl rfl rfl hP (ak_cons (ak_ok_le 7 (by decide) (ko1051 hP H)) ak_nil) kck1052
theorem ko1053 {Psi : List va_E → Prop} (hP : ∀ (h : List va_E) (a : Nat) (e : va_E), a ∉ ai_pc → Psi h → Psi (h.set a e)) (H : ko_H Psi) : ak_ok Psi (sm_Ex 200 sm_ML sm_B 9) kcc1053 := ai_ok (d := 8) rfl rfl rfl hP (ak_cons (ak_ok_le 8 (by decide) (ko976 hP H)) (ak_cons (ak_ok_le 8 (by decide) (ko1014 hP H)) (ak_cons (ak_ok_le 8 (by decide) (ko1052 hP H)) (ak_cons (ak_ok_le 8 (by decide) (ko14 hP H)) (ak_cons (ak_ok_le 8 (by decide) (ko1050 hP H)) (ak_cons (ak_ok_le 8 (by decide) (ko1048 hP H)) ak_nil)))))) kck1053
theorem ko1054 {Psi : List va_E → Prop} (hP : ∀ (h : List va_E) (a : Nat) (e : va_E), a ∉ ai_pc → Psi h → Psi (h.set a e)) (H : ko_H Psi) : ak_ok Psi (sm_Ex 200 sm_ML sm_B 4) kcc1054 := ai_ok (d := 3) rfl rfl rfl hP (ak_cons (ak_ok_le 3 (by decide) (ko1014 hP H)) (ak_cons (ak_ok_le 3 (by decide) (ko1018 hP H)) ak_nil)) kck1054
theorem ko1055 {Psi : List va_E → Prop} (hP : ∀ (h : List va_E) (a : Nat) (e : va_E), a ∉ ai_pc → Psi h → Psi (h.set a e)) (H : ko_H Psi) : ak_ok Psi (sm_Ex 200 sm_ML sm_B 1) kcc1055 := ai_ok (d := 0) rfl rfl rfl hP ak_nil kck1055
theorem ko1056 {Psi : List va_E → Prop} (hP : ∀ (h : List va_E) (a : Nat) (e : va_E), a ∉ ai_pc → Psi h → Psi (h.set a e)) (H : ko_H Psi) : ak_ok Psi (sm_Ex 200 sm_ML sm_B 1) kcc1056 := ai_ok (d := 0) rfl rfl rfl hP ak_nil kck1056
theorem ko1057 {Psi : List va_E → Prop} (hP : ∀ (h : List va_E) (a : Nat) (e : va_E), a ∉ ai_pc → Psi h → Psi (h.set a e)) (H : ko_H Psi) : ak_ok Psi (sm_Ex 200 sm_ML sm_B 5) kcc1057 := ai_ok (d := 4) rfl rfl rfl hP (ak_cons (ak_ok_le 4 (by decide) (ko976 hP H)) (ak_cons (ak_ok_le 4 (by decide) (ko1054 hP H)) (ak_cons (ak_ok_le 4 (by decide) (ko1055 hP H)) (ak_cons (ak_ok_le 4 (by decide) (ko1056 hP H)) (ak_cons (ak_ok_le 4 (by decide) (ko1040 hP H)) ak_nil))))) kck1057
theorem ko1058 {Psi : List va_E → Prop} (hP : ∀ (h : List va_E) (a : Nat) (e : va_E), a ∉ ai_pc → Psi h → Psi (h.set a e)) (H : ko_H Psi) : ak_ok Psi (sm_Ex 200 sm_ML sm_B 5) kcc1058 := ai_ok (d := 4) rfl rfl rfl hP (ak_cons (ak_ok_le 4 (by decide) (ko1054 hP H)) (ak_cons (ak_ok_le 4 (by decide) (ko1055 hP H)) (ak_cons (ak_ok_le 4 (by decide) (ko1027 hP H)) (ak_cons (ak_ok_le 4 (by decide) (ko1056 hP H)) (ak_cons (ak_ok_le 4 (by decide) (ko1040 hP H)) ak_nil))))) kck1058
theorem ko1059 {Psi : List va_E → Prop} (hP : ∀ (h : List va_E) (a : Nat) (e : va_E), a ∉ ai_pc → Psi h → Psi (h.set a e)) (H : ko_H Psi) : ak_ok Psi (sm_Ex 200 sm_ML sm_B 1) kcc1059 := ai_ok (d := 0) rfl rfl rfl hP ak_nil kck1059
theorem ko1060 {Psi : List va_E → Prop} (hP : ∀ (h : List va_E) (a : Nat) (e : va_E), a ∉ ai_pc → Psi h → Psi (h.set a e)) (H : ko_H Psi) : ak_ok Psi (sm_Ex 200 sm_ML sm_B 2) kcc1060 := ai_ok (d := 1) rfl rfl rfl hP (ak_cons (ak_ok_le 1 (by decide) (ko0 H)) (ak_cons (ak_ok_le 1 (by decide) (ko1059 hP H)) ak_nil)) kck1060
theorem ko1061 {Psi : List va_E → Prop} (hP : ∀ (h : List va_E) (a : Nat) (e : va_E), a ∉ ai_pc → Psi h → Psi (h.set a e)) (H : ko_H Psi) : ak_ok Psi (sm_Ex 200 sm_ML sm_B 1) kcc1061 := ai_ok (d := 0) rfl rfl rfl hP ak_nil kck1061
theorem ko1062 {Psi : List va_E → Prop} (hP : ∀ (h : List va_E) (a : Nat) (e : va_E), a ∉ ai_pc → Psi h → Psi (h.set a e)) (H : ko_H Psi) : ak_ok Psi (sm_Ex 200 sm_ML sm_B 2) kcc1062 := ai_ok (d := 1) rfl rfl rfl hP (ak_cons (ak_ok_le 1 (by decide) (ko0 H)) (ak_cons (ak_ok_le 1 (by decide) (ko1061 hP H)) ak_nil)) kck1062
theorem ko1063 {Psi : List va_E → Prop} (hP : ∀ (h : List va_E) (a : Nat) (e : va_E), a ∉ ai_pc → Psi h → Psi (h.set a e)) (H : ko_H Psi) : ak_ok Psi (sm_Ex 200 sm_ML sm_B 1) kcc1063 := ai_ok (d := 0) rfl rfl rfl hP ak_nil kck1063
theorem ko1064 {Psi : List va_E → Prop} (hP : ∀ (h : List va_E) (a : Nat) (e : va_E), a ∉ ai_pc → Psi h → Psi (h.set a e)) (H : ko_H Psi) : ak_ok Psi (sm_Ex 200 sm_ML sm_B 2) kcc1064 := ai_ok (d := 1) rfl rfl rfl hP (ak_cons (ak_ok_le 1 (by decide) (ko1 H)) (ak_cons (ak_ok_le 1 (by decide) (ko1063 hP H)) ak_nil)) kck1064
theorem ko1065 {Psi : List va_E → Prop} (hP : ∀ (h : List va_E) (a : Nat) (e : va_E), a ∉ ai_pc → Psi h → Psi (h.set a e)) (H : ko_H Psi) : ak_ok Psi (sm_Ex 200 sm_ML sm_B 6) kcc1065 := ai_ok (d := 5) rfl rfl rfl hP (ak_cons (ak_ok_le 5 (by decide) (ko1007 hP H)) (ak_cons (ak_ok_le 5 (by decide) (ko1002 hP H)) (ak_cons (ak_ok_le 5 (by decide) (ko999 hP H)) (ak_cons (ak_ok_le 5 (by decide) (ko996 hP H)) (ak_cons (ak_ok_le 5 (by decide) (ko1060 hP H)) (ak_cons (ak_ok_le 5 (by decide) (ko1062 hP H)) (ak_cons (ak_ok_le 5 (by decide) (ko1064 hP H)) ak_nil))))))) kck1065
theorem ko1066 {Psi : List va_E → Prop} (hP : ∀ (h : List va_E) (a : Nat) (e : va_E), a ∉ ai_pc → Psi h → Psi (h.set a e)) (H : ko_H Psi) : ak_ok Psi (sm_Ex 200 sm_ML sm_B 1) kcc1066 := ai_ok (d := 0) rfl rfl rfl hP ak_nil kck1066
theorem ko1067 {Psi : List va_E → Prop} (hP : ∀ (h : List va_E) (a : Nat) (e : va_E), a ∉ ai_pc → Psi h → Psi (h.set a e)) (H : ko_H Psi) : ak_ok Psi (sm_Ex 200 sm_ML sm_B 7) kcc1067 := ai_ok (d := 6) rfl rfl rfl hP (ak_cons (ak_ok_le 6 (by decide) (ko1065 hP H)) (ak_cons (ak_ok_le 6 (by decide) (ko1066 hP H)) ak_nil)) kck1067
theorem ko1068 {Psi : List va_E → Prop} (hP : ∀ (h : List va_E) (a : Nat) (e : va_E), a ∉ ai_pc → Psi h → Psi (h.set a e)) (H : ko_H Psi) : ak_ok Psi (sm_Ex 200 sm_ML sm_B 1) kcc1068 := ai_ok (d := 0) rfl rfl rfl hP ak_nil kck1068
theorem ko1069 {Psi : List va_E → Prop} (hP : ∀ (h : List va_E) (a : Nat) (e : va_E), a ∉ ai_pc → Psi h → Psi (h.set a e)) (H : ko_H Psi) : ak_ok Psi (sm_Ex 200 sm_ML sm_B 1) kcc1069 := ai_ok (d := 0) rfl rfl rfl hP ak_nil kck1069
theorem ko1070 {Psi : List va_E → Prop} (hP : ∀ (h : List va_E) (a : Nat) (e : va_E), a ∉ ai_pc → Psi h → Psi (h.set a e)) (H : ko_H Psi) : ak_ok Psi (sm_Ex 200 sm_ML sm_B 1) kcc1070 := ai_ok (d := 0) rfl rfl rfl hP ak_nil kck1070
theorem ko1071 {Psi : List va_E → Prop} (hP : ∀ (h : List va_E) (a : Nat) (e : va_E), a ∉ ai_pc → Psi h → Psi (h.set a e)) (H : ko_H Psi) : ak_ok Psi (sm_Ex 200 sm_ML sm_B 1) kcc1071 := ai_ok (d := 0) rfl rfl rfl hP ak_nil kck1071
theorem ko1072 {Psi : List va_E → Prop} (hP : ∀ (h : List va_E) (a : Nat) (e : va_E), a ∉ ai_pc → Psi h → Psi (h.set a e)) (H : ko_H Psi) : ak_ok Psi (sm_Ex 200 sm_ML sm_B 1) kcc1072 := ai_ok (d := 0) rfl rfl rfl hP ak_nil kck1072
theorem ko1073 {Psi : List va_E → Prop} (hP : ∀ (h : List va_E) (a : Nat) (e : va_E), a ∉ ai_pc → Psi h → Psi (h.set a e)) (H : ko_H Psi) : ak_ok Psi (sm_Ex 200 sm_ML sm_B 2) kcc1073 := ai_ok (d := 1) rfl rfl rfl hP (ak_cons (ak_ok_le 1 (by decide) (ko988 hP H)) ak_nil) kck1073
theorem ko1074 {Psi : List va_E → Prop} (hP : ∀ (h : List va_E) (a : Nat) (e : va_E), a ∉ ai_pc → Psi h → Psi (h.set a e)) (H : ko_H Psi) : ak_ok Psi (sm_Ex 200 sm_ML sm_B 1) kcc1074 := ai_ok (d := 0) rfl rfl rfl hP ak_nil kck1074
theorem ko1075 {Psi : List va_E → Prop} (hP : ∀ (h : List va_E) (a : Nat) (e : va_E), a ∉ ai_pc → Psi h → Psi (h.set a e)) (H : ko_H Psi) : ak_ok Psi (sm_Ex 200 sm_ML sm_B 1) kcc1075 := ai_ok (d := 0) rfl rfl rfl hP ak_nil kck1075
theorem ko1076 {Psi : List va_E → Prop} (hP : ∀ (h : List va_E) (a : Nat) (e : va_E), a ∉ ai_pc → Psi h → Psi (h.set a e)) (H : ko_H Psi) : ak_ok Psi (sm_Ex 200 sm_ML sm_B 3) kcc1076 := ai_ok (d := 2) rfl rfl rfl hP (ak_cons (ak_ok_le 2 (by decide) (ko1071 hP H)) (ak_cons (ak_ok_le 2 (by decide) (ko1072 hP H)) (ak_cons (ak_ok_le 2 (by decide) (ko1073 hP H)) (ak_cons (ak_ok_le 2 (by decide) (ko992 hP H)) (ak_cons (ak_ok_le 2 (by decide) (ko1074 hP H)) (ak_cons (ak_ok_le 2 (by decide) (ko1066 hP H)) (ak_cons (ak_ok_le 2 (by decide) (ko1075 hP H)) ak_nil))))))) kck1076
theorem ko1077 {Psi : List va_E → Prop} (hP : ∀ (h : List va_E) (a : Nat) (e : va_E), a ∉ ai_pc → Psi h → Psi (h.set a e)) (H : ko_H Psi) : ak_ok Psi (sm_Ex 200 sm_ML sm_B 4) kcc1077 := ai_ok (d := 3) rfl rfl rfl hP (ak_cons (ak_ok_le 3 (by decide) (ko1076 hP H)) ak_nil) kck1077
theorem ko1078 {Psi : List va_E → Prop} (hP : ∀ (h : List va_E) (a : Nat) (e : va_E), a ∉ ai_pc → Psi h → Psi (h.set a e)) (H : ko_H Psi) : ak_ok Psi (sm_Ex 200 sm_ML sm_B 1) kcc1078 := ai_ok (d := 0) rfl rfl rfl hP ak_nil kck1078
theorem ko1079 {Psi : List va_E → Prop} (hP : ∀ (h : List va_E) (a : Nat) (e : va_E), a ∉ ai_pc → Psi h → Psi (h.set a e)) (H : ko_H Psi) : ak_ok Psi (sm_Ex 200 sm_ML sm_B 1) kcc1079 := ai_ok (d := 0) rfl rfl rfl hP ak_nil kck1079
theorem ko1080 {Psi : List va_E → Prop} (hP : ∀ (h : List va_E) (a : Nat) (e : va_E), a ∉ ai_pc → Psi h → Psi (h.set a e)) (H : ko_H Psi) : ak_ok Psi (sm_Ex 200 sm_ML sm_B 1) kcc1080 := ai_ok2 (d := 0) rfl rfl rfl hP ak_nil kck1080
theorem ko1081 {Psi : List va_E → Prop} (hP : ∀ (h : List va_E) (a : Nat) (e : va_E), a ∉ ai_pc → Psi h → Psi (h.set a e)) (H : ko_H Psi) : ak_ok Psi (sm_Ex 200 sm_ML sm_B 1) kcc1081 := ai_ok2 (d := 0) rfl rfl rfl hP ak_nil kck1081
theorem ko1082 {Psi : List va_E → Prop} (hP : ∀ (h : List va_E) (a : Nat) (e : va_E), a ∉ ai_pc → Psi h → Psi (h.set a e)) (H : ko_H Psi) : ak_ok Psi (sm_Ex 200 sm_ML sm_B 5) kcc1082 := ai_ok2 (d := 4) rfl rfl rfl hP (ak_cons (ak_ok_le 4 (by decide) (ko1076 hP H)) (ak_cons (ak_ok_le 4 (by decide) (ko982 hP H)) (ak_cons (ak_ok_le 4 (by decide) (ko986 hP H)) (ak_cons (ak_ok_le 4 (by decide) (ko1080 hP H)) (ak_cons (ak_ok_le 4 (by decide) (ko1081 hP H)) ak_nil))))) kck1082
/-! Contracts of methods that those walked by hand call; printed by a program of mine. -/
def keh0 : aw_H := [(19, .inr (.inl (0, 8, [], [])))]
/-- Register.change -/
def kex1 : aw_A := .inl (1, [.inr (false, [(0, 8)]), .inr (false, [(0, 4)]), .inr (false, ar_t32), .inr (false, ar_t32), .inr (false, ar_t32), .inl 16, .inl 17, .inl 18, .inl 19, .inl 20, .inl 21, .inl 22, .inl 23])
def keh2 : aw_H := [(15, kex1), (19, .inr (.inl (0, 8, [], [])))]
def kec10 : ak_C := (45, [.inl 15, .inr (false, [(1, 1)]), .inr (false, [(0, 7)]), .inr (false, ar_t32)], keh2, [19], [([], some (.inr (false, ar_t32)), keh0)])
theorem kek10 : ai_chk [] kec10 (fun pc => sm_ch sm_t45 pc, sm_Kn 1 5 none, fun x => sm_lk sm_ca1 x, some .int) [19] 5 0 [] [] 2000 [] = true := by decide +kernel
/-- Register.isOpen -/
def keh3 : aw_H := [(15, kex1), (18, .inr (.inl (0, 8, [], [])))]
def kec11 : ak_C := (29, [.inl 15, .inr (false, [(0, 7)])], keh3, [], [([], some (.inr (false, [(1, 1)])), []), ([], some (.inr (false, [(0, 0)])), [])])
theorem kek11 : ai_chk [] kec11 (fun pc => sm_ch sm_t29 pc, sm_Kn 1 2 none, fun x => sm_lk sm_ca1 x, some .boolean) [] 2 0 [] [] 2000 [] = true := by decide +kernel
/-- Register.distance -/
def kex4 : aw_A := .inr (.inl (0, 4, [(0, 3, [(0, 7)])], []))
def keh5 : aw_H := [(15, kex1), (23, kex4)]
def kec12 : ak_C := (30, [.inl 15, .inr (false, [(0, 3)]), .inr (false, [(0, 7)])], keh5, [], [([], some (.inr (false, [(0, 7)])), [])])
theorem kek12 : ai_chk [] kec12 (fun pc => sm_ch sm_t30 pc, sm_Kn 1 3 none, fun x => sm_lk sm_ca1 x, some .int) [] 3 0 [] [] 2000 [] = true := by decide +kernel
/-- MiceRegisters.liking -/
def kec13 : ak_C := (31, [.inr (false, ar_t32), .inr (false, ar_t32), .inr (false, ar_t32), .inr (false, ar_t32)], [], [], [([], some (.inr (false, ar_t32)), [])])
theorem kek13 : ai_chk [] kec13 (fun pc => sm_ch sm_t31 pc, sm_Kn 2 4 none, fun x => sm_lk sm_ca2 x, some .int) [] 4 0 [] [] 2000 [] = true := by decide +kernel
/-- Register.lineWantedBy -/
def keh6 : aw_H := [(15, kex1), (16, .inr (.inl (0, 8, [], []))), (18, .inr (.inl (0, 8, [], []))), (19, .inr (.inl (0, 8, [], []))), (20, .inr (.inl (0, 4, [], []))), (23, kex4)]
def kec14 : ak_C := (28, [.inl 15, .inr (false, [(0, 3)])], keh6, [], [([], some (.inr (false, [(-9, -9)])), []), ([], some (.inr (false, [(-9, -9), (0, 7)])), [])])
def kex7 : aw_A := .inl (1, [.inr (false, [(1, 8)]), .inr (false, [(0, 4)]), .inr (false, ar_t32), .inr (false, ar_t32), .inr (false, ar_t32), .inl 16, .inl 17, .inl 18, .inl 19, .inl 20, .inl 21, .inl 22, .inl 23])
def keh8 : aw_H := [(15, kex7), (16, .inr (.inl (0, 8, [], []))), (18, .inr (.inl (0, 8, [], []))), (19, .inr (.inl (0, 8, [], []))), (20, .inr (.inl (0, 4, [], []))), (23, kex4)]
def kex9 : aw_A := .inl (1, [.inr (false, [(2, 8)]), .inr (false, [(0, 4)]), .inr (false, ar_t32), .inr (false, ar_t32), .inr (false, ar_t32), .inl 16, .inl 17, .inl 18, .inl 19, .inl 20, .inl 21, .inl 22, .inl 23])
def keh10 : aw_H := [(15, kex9), (16, .inr (.inl (0, 8, [], []))), (18, .inr (.inl (0, 8, [], []))), (19, .inr (.inl (0, 8, [], []))), (20, .inr (.inl (0, 4, [], []))), (23, kex4)]
def kex11 : aw_A := .inl (1, [.inr (false, [(3, 8)]), .inr (false, [(0, 4)]), .inr (false, ar_t32), .inr (false, ar_t32), .inr (false, ar_t32), .inl 16, .inl 17, .inl 18, .inl 19, .inl 20, .inl 21, .inl 22, .inl 23])
def keh12 : aw_H := [(15, kex11), (16, .inr (.inl (0, 8, [], []))), (18, .inr (.inl (0, 8, [], []))), (19, .inr (.inl (0, 8, [], []))), (20, .inr (.inl (0, 4, [], []))), (23, kex4)]
def kex13 : aw_A := .inl (1, [.inr (false, [(4, 8)]), .inr (false, [(0, 4)]), .inr (false, ar_t32), .inr (false, ar_t32), .inr (false, ar_t32), .inl 16, .inl 17, .inl 18, .inl 19, .inl 20, .inl 21, .inl 22, .inl 23])
def keh14 : aw_H := [(15, kex13), (16, .inr (.inl (0, 8, [], []))), (18, .inr (.inl (0, 8, [], []))), (19, .inr (.inl (0, 8, [], []))), (20, .inr (.inl (0, 4, [], []))), (23, kex4)]
def kex15 : aw_A := .inl (1, [.inr (false, [(5, 8)]), .inr (false, [(0, 4)]), .inr (false, ar_t32), .inr (false, ar_t32), .inr (false, ar_t32), .inl 16, .inl 17, .inl 18, .inl 19, .inl 20, .inl 21, .inl 22, .inl 23])
def keh16 : aw_H := [(15, kex15), (16, .inr (.inl (0, 8, [], []))), (18, .inr (.inl (0, 8, [], []))), (19, .inr (.inl (0, 8, [], []))), (20, .inr (.inl (0, 4, [], []))), (23, kex4)]
def kex17 : aw_A := .inl (1, [.inr (false, [(6, 8)]), .inr (false, [(0, 4)]), .inr (false, ar_t32), .inr (false, ar_t32), .inr (false, ar_t32), .inl 16, .inl 17, .inl 18, .inl 19, .inl 20, .inl 21, .inl 22, .inl 23])
def keh18 : aw_H := [(15, kex17), (16, .inr (.inl (0, 8, [], []))), (18, .inr (.inl (0, 8, [], []))), (19, .inr (.inl (0, 8, [], []))), (20, .inr (.inl (0, 4, [], []))), (23, kex4)]
def kex19 : aw_A := .inl (1, [.inr (false, [(7, 8)]), .inr (false, [(0, 4)]), .inr (false, ar_t32), .inr (false, ar_t32), .inr (false, ar_t32), .inl 16, .inl 17, .inl 18, .inl 19, .inl 20, .inl 21, .inl 22, .inl 23])
def keh20 : aw_H := [(15, kex19), (16, .inr (.inl (0, 8, [], []))), (18, .inr (.inl (0, 8, [], []))), (19, .inr (.inl (0, 8, [], []))), (20, .inr (.inl (0, 4, [], []))), (23, kex4)]
def kex21 : aw_A := .inl (1, [.inr (false, [(8, 8)]), .inr (false, [(0, 4)]), .inr (false, ar_t32), .inr (false, ar_t32), .inr (false, ar_t32), .inl 16, .inl 17, .inl 18, .inl 19, .inl 20, .inl 21, .inl 22, .inl 23])
def keh22 : aw_H := [(15, kex21), (16, .inr (.inl (0, 8, [], []))), (18, .inr (.inl (0, 8, [], []))), (19, .inr (.inl (0, 8, [], []))), (20, .inr (.inl (0, 4, [], []))), (23, kex4)]
theorem kek14 : ai_chk [kec11, kec12, kec13] kec14 (fun pc => sm_ch sm_t28 pc, sm_Kn 1 8 none, fun x => sm_lk sm_ca1 x, some .int) [] 8 0 [11] [] 2000 [(11, [(0, .inl 15), (1, .inr (false, [(0, 3)])), (2, .inr (false, [(-9, -9)])), (3, .inr (false, [(0, 0)])), (4, .inr (false, [(0, 0)])), (5, .inr (false, [(0, 0)]))], [], keh6),
  (11, [(0, .inl 15), (1, .inr (false, [(0, 3)])), (2, .inr (false, [(-9, -9), (0, 0)])), (3, .inr (false, [(0, 2147483647)])), (4, .inr (false, [(0, 7)])), (5, .inr (false, [(1, 1)]))], [], keh8),
  (11, [(0, .inl 15), (1, .inr (false, [(0, 3)])), (2, .inr (false, [(-9, -9), (0, 1)])), (3, .inr (false, [(0, 2147483647)])), (4, .inr (false, [(0, 7)])), (5, .inr (false, [(2, 2)]))], [], keh10),
  (11, [(0, .inl 15), (1, .inr (false, [(0, 3)])), (2, .inr (false, [(-9, -9), (0, 2)])), (3, .inr (false, [(0, 2147483647)])), (4, .inr (false, [(0, 7)])), (5, .inr (false, [(3, 3)]))], [], keh12),
  (11, [(0, .inl 15), (1, .inr (false, [(0, 3)])), (2, .inr (false, [(-9, -9), (0, 3)])), (3, .inr (false, [(0, 2147483647)])), (4, .inr (false, [(0, 7)])), (5, .inr (false, [(4, 4)]))], [], keh14),
  (11, [(0, .inl 15), (1, .inr (false, [(0, 3)])), (2, .inr (false, [(-9, -9), (0, 4)])), (3, .inr (false, [(0, 2147483647)])), (4, .inr (false, [(0, 7)])), (5, .inr (false, [(5, 5)]))], [], keh16),
  (11, [(0, .inl 15), (1, .inr (false, [(0, 3)])), (2, .inr (false, [(-9, -9), (0, 5)])), (3, .inr (false, [(0, 2147483647)])), (4, .inr (false, [(0, 7)])), (5, .inr (false, [(6, 6)]))], [], keh18),
  (11, [(0, .inl 15), (1, .inr (false, [(0, 3)])), (2, .inr (false, [(-9, -9), (0, 6)])), (3, .inr (false, [(0, 2147483647)])), (4, .inr (false, [(0, 7)])), (5, .inr (false, [(7, 7)]))], [], keh20),
  (11, [(0, .inl 15), (1, .inr (false, [(0, 3)])), (2, .inr (false, [(-9, -9), (0, 7)])), (3, .inr (false, [(0, 2147483647)])), (4, .inr (false, [(0, 7)])), (5, .inr (false, [(8, 8)]))], [], keh22)] = true := by decide +kernel
/-- MiceRegisters.eatenInAYear -/
def kec15 : ak_C := (35, [.inr (false, ar_t32), .inr (false, ar_t32)], [], [], [([], some (.inr (false, ar_t32)), [])])
theorem kek15 : ai_chk [] kec15 (fun pc => sm_ch sm_t35 pc, sm_Kn 2 2 none, fun x => sm_lk sm_ca2 x, some .int) [] 2 0 [] [] 2000 [] = true := by decide +kernel
def keh23 : aw_H := [(15, kex1), (18, .inr (.inl (0, 8, [], []))), (19, .inr (.inl (0, 8, [], []))), (23, kex4)]
/-- Register.passYear -/
def keh24 : aw_H := [(15, kex1), (16, .inr (.inl (0, 8, [], []))), (18, .inr (.inl (0, 8, [], []))), (19, .inr (.inl (0, 8, [], []))), (20, .inr (.inl (0, 4, [], []))), (21, .inr (.inl (0, 4, [], []))), (23, kex4)]
def kec16 : ak_C := (46, [.inl 15, .inr (false, ar_t32)], keh24, [15, 18, 19, 23], [([], some (.inr (false, ar_t32)), keh23)])
def kex25 : aw_A := .inl (1, [.inr (false, [(0, 8)]), .inr (false, [(1, 4)]), .inr (false, ar_t32), .inr (false, ar_t32), .inr (false, ar_t32), .inl 16, .inl 17, .inl 18, .inl 19, .inl 20, .inl 21, .inl 22, .inl 23])
def keh26 : aw_H := [(15, kex25), (16, .inr (.inl (0, 8, [], []))), (18, .inr (.inl (0, 8, [], []))), (19, .inr (.inl (0, 8, [], []))), (20, .inr (.inl (0, 4, [], []))), (21, .inr (.inl (0, 4, [], []))), (23, kex4)]
def kex27 : aw_A := .inl (1, [.inr (false, [(0, 8)]), .inr (false, [(2, 4)]), .inr (false, ar_t32), .inr (false, ar_t32), .inr (false, ar_t32), .inl 16, .inl 17, .inl 18, .inl 19, .inl 20, .inl 21, .inl 22, .inl 23])
def keh28 : aw_H := [(15, kex27), (16, .inr (.inl (0, 8, [], []))), (18, .inr (.inl (0, 8, [], []))), (19, .inr (.inl (0, 8, [], []))), (20, .inr (.inl (0, 4, [], []))), (21, .inr (.inl (0, 4, [], []))), (23, kex4)]
def kex29 : aw_A := .inl (1, [.inr (false, [(0, 8)]), .inr (false, [(3, 4)]), .inr (false, ar_t32), .inr (false, ar_t32), .inr (false, ar_t32), .inl 16, .inl 17, .inl 18, .inl 19, .inl 20, .inl 21, .inl 22, .inl 23])
def keh30 : aw_H := [(15, kex29), (16, .inr (.inl (0, 8, [], []))), (18, .inr (.inl (0, 8, [], []))), (19, .inr (.inl (0, 8, [], []))), (20, .inr (.inl (0, 4, [], []))), (21, .inr (.inl (0, 4, [], []))), (23, kex4)]
def kex31 : aw_A := .inl (1, [.inr (false, [(0, 8)]), .inr (false, [(4, 4)]), .inr (false, ar_t32), .inr (false, ar_t32), .inr (false, ar_t32), .inl 16, .inl 17, .inl 18, .inl 19, .inl 20, .inl 21, .inl 22, .inl 23])
def keh32 : aw_H := [(15, kex31), (16, .inr (.inl (0, 8, [], []))), (18, .inr (.inl (0, 8, [], []))), (19, .inr (.inl (0, 8, [], []))), (20, .inr (.inl (0, 4, [], []))), (21, .inr (.inl (0, 4, [], []))), (23, kex4)]
def keh33 : aw_H := [(15, kex7), (16, .inr (.inl (0, 8, [], []))), (18, .inr (.inl (0, 8, [], []))), (19, .inr (.inl (0, 8, [], []))), (20, .inr (.inl (0, 4, [], []))), (21, .inr (.inl (0, 4, [], []))), (23, kex4)]
def keh34 : aw_H := [(15, kex9), (16, .inr (.inl (0, 8, [], []))), (18, .inr (.inl (0, 8, [], []))), (19, .inr (.inl (0, 8, [], []))), (20, .inr (.inl (0, 4, [], []))), (21, .inr (.inl (0, 4, [], []))), (23, kex4)]
def keh35 : aw_H := [(15, kex11), (16, .inr (.inl (0, 8, [], []))), (18, .inr (.inl (0, 8, [], []))), (19, .inr (.inl (0, 8, [], []))), (20, .inr (.inl (0, 4, [], []))), (21, .inr (.inl (0, 4, [], []))), (23, kex4)]
def keh36 : aw_H := [(15, kex13), (16, .inr (.inl (0, 8, [], []))), (18, .inr (.inl (0, 8, [], []))), (19, .inr (.inl (0, 8, [], []))), (20, .inr (.inl (0, 4, [], []))), (21, .inr (.inl (0, 4, [], []))), (23, kex4)]
def keh37 : aw_H := [(15, kex15), (16, .inr (.inl (0, 8, [], []))), (18, .inr (.inl (0, 8, [], []))), (19, .inr (.inl (0, 8, [], []))), (20, .inr (.inl (0, 4, [], []))), (21, .inr (.inl (0, 4, [], []))), (23, kex4)]
def keh38 : aw_H := [(15, kex17), (16, .inr (.inl (0, 8, [], []))), (18, .inr (.inl (0, 8, [], []))), (19, .inr (.inl (0, 8, [], []))), (20, .inr (.inl (0, 4, [], []))), (21, .inr (.inl (0, 4, [], []))), (23, kex4)]
def keh39 : aw_H := [(15, kex19), (16, .inr (.inl (0, 8, [], []))), (18, .inr (.inl (0, 8, [], []))), (19, .inr (.inl (0, 8, [], []))), (20, .inr (.inl (0, 4, [], []))), (21, .inr (.inl (0, 4, [], []))), (23, kex4)]
def keh40 : aw_H := [(15, kex21), (16, .inr (.inl (0, 8, [], []))), (18, .inr (.inl (0, 8, [], []))), (19, .inr (.inl (0, 8, [], []))), (20, .inr (.inl (0, 4, [], []))), (21, .inr (.inl (0, 4, [], []))), (23, kex4)]
theorem kek16 : ai_chk [kec14, kec15] kec16 (fun pc => sm_ch sm_t46 pc, sm_Kn 1 6 none, fun x => sm_lk sm_ca1 x, some .int) [15, 18, 19, 23] 6 0 [4, 100] [] 2000 [(4, [(0, .inl 15), (1, .inr (false, ar_t32)), (2, .inr (false, [(0, 0)])), (3, .inr (false, [(0, 0)]))], [], keh24),
  (4, [(0, .inl 15), (1, .inr (false, ar_t32)), (2, .inr (false, ar_t32)), (3, .inr (false, [(1, 1)])), (4, .inr (false, [(-9, -9), (0, 7)]))], [], keh26),
  (4, [(0, .inl 15), (1, .inr (false, ar_t32)), (2, .inr (false, ar_t32)), (3, .inr (false, [(2, 2)])), (4, .inr (false, [(-9, -9), (0, 7)]))], [], keh28),
  (4, [(0, .inl 15), (1, .inr (false, ar_t32)), (2, .inr (false, ar_t32)), (3, .inr (false, [(3, 3)])), (4, .inr (false, [(-9, -9), (0, 7)]))], [], keh30),
  (4, [(0, .inl 15), (1, .inr (false, ar_t32)), (2, .inr (false, ar_t32)), (3, .inr (false, [(4, 4)])), (4, .inr (false, [(-9, -9), (0, 7)]))], [], keh32),
  (100, [(0, .inl 15), (1, .inr (false, ar_t32)), (2, .inr (false, ar_t32)), (3, .inr (false, [(0, 0)]))], [], keh24),
  (100, [(0, .inl 15), (1, .inr (false, ar_t32)), (2, .inr (false, ar_t32)), (3, .inr (false, [(1, 1)]))], [], keh33),
  (100, [(0, .inl 15), (1, .inr (false, ar_t32)), (2, .inr (false, ar_t32)), (3, .inr (false, [(2, 2)]))], [], keh34),
  (100, [(0, .inl 15), (1, .inr (false, ar_t32)), (2, .inr (false, ar_t32)), (3, .inr (false, [(3, 3)]))], [], keh35),
  (100, [(0, .inl 15), (1, .inr (false, ar_t32)), (2, .inr (false, ar_t32)), (3, .inr (false, [(4, 4)]))], [], keh36),
  (100, [(0, .inl 15), (1, .inr (false, ar_t32)), (2, .inr (false, ar_t32)), (3, .inr (false, [(5, 5)]))], [], keh37),
  (100, [(0, .inl 15), (1, .inr (false, ar_t32)), (2, .inr (false, ar_t32)), (3, .inr (false, [(6, 6)]))], [], keh38),
  (100, [(0, .inl 15), (1, .inr (false, ar_t32)), (2, .inr (false, ar_t32)), (3, .inr (false, [(7, 7)]))], [], keh39),
  (100, [(0, .inl 15), (1, .inr (false, ar_t32)), (2, .inr (false, ar_t32)), (3, .inr (false, [(8, 8)]))], [], keh40)] = true := by decide +kernel
/-- Register.change -/
def kec17 : ak_C := (45, [.inl 15, .inr (false, [(-2147483648, 0), (2, 2147483647)]), .inr (false, ar_t32), .inr (false, ar_t32)], keh24, [15, 18, 19, 23], [([], some (.inr (false, ar_t32)), keh23)])
theorem kek17 : ai_chk [kec16] kec17 (fun pc => sm_ch sm_t45 pc, sm_Kn 1 5 none, fun x => sm_lk sm_ca1 x, some .int) [15, 18, 19, 23] 5 0 [] [] 2000 [] = true := by decide +kernel
def kex41 : aw_A := .inl (1, [.inr (false, [(0, 8)]), .inr (false, [(0, 4)]), .inr (false, [(0, 0)]), .inr (false, [(-9, -9)]), .inr (false, [(0, 0)]), .inl 16, .inl 17, .inl 18, .inl 19, .inl 20, .inl 21, .inl 22, .inl 23])
def keh42 : aw_H := [(15, kex41), (18, .inr (.inl (0, 8, [], []))), (19, .inr (.inl (0, 8, [], []))), (23, kex4)]
/-- Register.beginAnew -/
def keh43 : aw_H := [(15, kex1), (17, .inr (.inl (0, 8, [], []))), (18, .inr (.inl (0, 8, [], []))), (19, .inr (.inl (0, 8, [], []))), (22, kex4), (23, kex4)]
def kec18 : ak_C := (22, [.inl 15], keh43, [15, 18, 19, 23], [([], none, keh42)])
def keh44 : aw_H := [(15, kex41), (17, .inr (.inl (0, 8, [], []))), (18, .inr (.inl (0, 8, [], []))), (19, .inr (.inl (0, 8, [], []))), (22, kex4), (23, kex4)]
def kex45 : aw_A := .inl (1, [.inr (false, [(1, 8)]), .inr (false, [(0, 4)]), .inr (false, [(0, 0)]), .inr (false, [(-9, -9)]), .inr (false, [(0, 0)]), .inl 16, .inl 17, .inl 18, .inl 19, .inl 20, .inl 21, .inl 22, .inl 23])
def keh46 : aw_H := [(15, kex45), (17, .inr (.inl (0, 8, [], []))), (18, .inr (.inl (0, 8, [], []))), (19, .inr (.inl (0, 8, [], []))), (22, kex4), (23, kex4)]
def kex47 : aw_A := .inl (1, [.inr (false, [(2, 8)]), .inr (false, [(0, 4)]), .inr (false, [(0, 0)]), .inr (false, [(-9, -9)]), .inr (false, [(0, 0)]), .inl 16, .inl 17, .inl 18, .inl 19, .inl 20, .inl 21, .inl 22, .inl 23])
def keh48 : aw_H := [(15, kex47), (17, .inr (.inl (0, 8, [], []))), (18, .inr (.inl (0, 8, [], []))), (19, .inr (.inl (0, 8, [], []))), (22, kex4), (23, kex4)]
def kex49 : aw_A := .inl (1, [.inr (false, [(3, 8)]), .inr (false, [(0, 4)]), .inr (false, [(0, 0)]), .inr (false, [(-9, -9)]), .inr (false, [(0, 0)]), .inl 16, .inl 17, .inl 18, .inl 19, .inl 20, .inl 21, .inl 22, .inl 23])
def keh50 : aw_H := [(15, kex49), (17, .inr (.inl (0, 8, [], []))), (18, .inr (.inl (0, 8, [], []))), (19, .inr (.inl (0, 8, [], []))), (22, kex4), (23, kex4)]
def kex51 : aw_A := .inl (1, [.inr (false, [(4, 8)]), .inr (false, [(0, 4)]), .inr (false, [(0, 0)]), .inr (false, [(-9, -9)]), .inr (false, [(0, 0)]), .inl 16, .inl 17, .inl 18, .inl 19, .inl 20, .inl 21, .inl 22, .inl 23])
def keh52 : aw_H := [(15, kex51), (17, .inr (.inl (0, 8, [], []))), (18, .inr (.inl (0, 8, [], []))), (19, .inr (.inl (0, 8, [], []))), (22, kex4), (23, kex4)]
def kex53 : aw_A := .inl (1, [.inr (false, [(5, 8)]), .inr (false, [(0, 4)]), .inr (false, [(0, 0)]), .inr (false, [(-9, -9)]), .inr (false, [(0, 0)]), .inl 16, .inl 17, .inl 18, .inl 19, .inl 20, .inl 21, .inl 22, .inl 23])
def keh54 : aw_H := [(15, kex53), (17, .inr (.inl (0, 8, [], []))), (18, .inr (.inl (0, 8, [], []))), (19, .inr (.inl (0, 8, [], []))), (22, kex4), (23, kex4)]
def kex55 : aw_A := .inl (1, [.inr (false, [(6, 8)]), .inr (false, [(0, 4)]), .inr (false, [(0, 0)]), .inr (false, [(-9, -9)]), .inr (false, [(0, 0)]), .inl 16, .inl 17, .inl 18, .inl 19, .inl 20, .inl 21, .inl 22, .inl 23])
def keh56 : aw_H := [(15, kex55), (17, .inr (.inl (0, 8, [], []))), (18, .inr (.inl (0, 8, [], []))), (19, .inr (.inl (0, 8, [], []))), (22, kex4), (23, kex4)]
def kex57 : aw_A := .inl (1, [.inr (false, [(7, 8)]), .inr (false, [(0, 4)]), .inr (false, [(0, 0)]), .inr (false, [(-9, -9)]), .inr (false, [(0, 0)]), .inl 16, .inl 17, .inl 18, .inl 19, .inl 20, .inl 21, .inl 22, .inl 23])
def keh58 : aw_H := [(15, kex57), (17, .inr (.inl (0, 8, [], []))), (18, .inr (.inl (0, 8, [], []))), (19, .inr (.inl (0, 8, [], []))), (22, kex4), (23, kex4)]
def kex59 : aw_A := .inl (1, [.inr (false, [(8, 8)]), .inr (false, [(0, 4)]), .inr (false, [(0, 0)]), .inr (false, [(-9, -9)]), .inr (false, [(0, 0)]), .inl 16, .inl 17, .inl 18, .inl 19, .inl 20, .inl 21, .inl 22, .inl 23])
def keh60 : aw_H := [(15, kex59), (17, .inr (.inl (0, 8, [], []))), (18, .inr (.inl (0, 8, [], []))), (19, .inr (.inl (0, 8, [], []))), (22, kex4), (23, kex4)]
def kex61 : aw_A := .inl (1, [.inr (false, [(0, 8)]), .inr (false, [(1, 4)]), .inr (false, [(0, 0)]), .inr (false, [(-9, -9)]), .inr (false, [(0, 0)]), .inl 16, .inl 17, .inl 18, .inl 19, .inl 20, .inl 21, .inl 22, .inl 23])
def keh62 : aw_H := [(15, kex61), (17, .inr (.inl (0, 8, [], []))), (18, .inr (.inl (0, 8, [], []))), (19, .inr (.inl (0, 8, [], []))), (22, kex4), (23, kex4)]
def kex63 : aw_A := .inl (1, [.inr (false, [(0, 8)]), .inr (false, [(2, 4)]), .inr (false, [(0, 0)]), .inr (false, [(-9, -9)]), .inr (false, [(0, 0)]), .inl 16, .inl 17, .inl 18, .inl 19, .inl 20, .inl 21, .inl 22, .inl 23])
def keh64 : aw_H := [(15, kex63), (17, .inr (.inl (0, 8, [], []))), (18, .inr (.inl (0, 8, [], []))), (19, .inr (.inl (0, 8, [], []))), (22, kex4), (23, kex4)]
def kex65 : aw_A := .inl (1, [.inr (false, [(0, 8)]), .inr (false, [(3, 4)]), .inr (false, [(0, 0)]), .inr (false, [(-9, -9)]), .inr (false, [(0, 0)]), .inl 16, .inl 17, .inl 18, .inl 19, .inl 20, .inl 21, .inl 22, .inl 23])
def keh66 : aw_H := [(15, kex65), (17, .inr (.inl (0, 8, [], []))), (18, .inr (.inl (0, 8, [], []))), (19, .inr (.inl (0, 8, [], []))), (22, kex4), (23, kex4)]
def kex67 : aw_A := .inl (1, [.inr (false, [(0, 8)]), .inr (false, [(4, 4)]), .inr (false, [(0, 0)]), .inr (false, [(-9, -9)]), .inr (false, [(0, 0)]), .inl 16, .inl 17, .inl 18, .inl 19, .inl 20, .inl 21, .inl 22, .inl 23])
def keh68 : aw_H := [(15, kex67), (17, .inr (.inl (0, 8, [], []))), (18, .inr (.inl (0, 8, [], []))), (19, .inr (.inl (0, 8, [], []))), (22, kex4), (23, kex4)]
theorem kek18 : ai_chk [] kec18 (fun pc => sm_ch sm_t22 pc, sm_Kn 1 2 none, fun x => sm_lk sm_ca1 x, none) [15, 18, 19, 23] 2 0 [18, 53] [] 2000 [(18, [(0, .inl 15), (1, .inr (false, [(0, 0)]))], [], keh44),
  (18, [(0, .inl 15), (1, .inr (false, [(1, 1)]))], [], keh46),
  (18, [(0, .inl 15), (1, .inr (false, [(2, 2)]))], [], keh48),
  (18, [(0, .inl 15), (1, .inr (false, [(3, 3)]))], [], keh50),
  (18, [(0, .inl 15), (1, .inr (false, [(4, 4)]))], [], keh52),
  (18, [(0, .inl 15), (1, .inr (false, [(5, 5)]))], [], keh54),
  (18, [(0, .inl 15), (1, .inr (false, [(6, 6)]))], [], keh56),
  (18, [(0, .inl 15), (1, .inr (false, [(7, 7)]))], [], keh58),
  (18, [(0, .inl 15), (1, .inr (false, [(8, 8)]))], [], keh60),
  (53, [(0, .inl 15), (1, .inr (false, [(0, 0)]))], [], keh44),
  (53, [(0, .inl 15), (1, .inr (false, [(1, 1)]))], [], keh62),
  (53, [(0, .inl 15), (1, .inr (false, [(2, 2)]))], [], keh64),
  (53, [(0, .inl 15), (1, .inr (false, [(3, 3)]))], [], keh66),
  (53, [(0, .inl 15), (1, .inr (false, [(4, 4)]))], [], keh68)] = true := by decide +kernel
/-- MiceRegisters.isNoRow -/
def kec19 : ak_C := (1, [.inr (false, ar_t32)], [], [], [([[(-2147483648, -1), (6, 2147483647)]], some (.inr (false, [(1, 1)])), []), ([[(0, 5)]], some (.inr (false, [(0, 0)])), [])])
theorem kek19 : ai_chk [] kec19 (fun pc => sm_ch sm_t1 pc, sm_Kn 2 1 none, fun x => sm_lk sm_ca2 x, some .boolean) [] 1 1 [] [] 2000 [] = true := by decide +kernel
def kex69 : aw_A := .inl (2, [.inl 1, .inl 2, .inl 9, .inl 10, .inl 15, .inl 24, .inl 33, .inl 42, .inl 46, .inl 59, .inl 80, .inr (false, [(1, 5)]), .inr (false, ar_t32), .inr (true, ar_t64), .inr (true, ar_t64)])
def keh70 : aw_H := [(0, kex69), (80, .inr (.inl (0, 6, [], [])))]
/-- MiceRegisters.refuseBy -/
def kex71 : aw_A := .inl (2, [.inl 1, .inl 2, .inl 9, .inl 10, .inl 15, .inl 24, .inl 33, .inl 42, .inl 46, .inl 59, .inl 80, .inr (false, ar_t32), .inr (false, ar_t32), .inr (true, ar_t64), .inr (true, ar_t64)])
def keh72 : aw_H := [(0, kex71), (80, .inr (.inl (0, 6, [], [])))]
def kec20 : ak_C := (2, [.inl 0, .inr (false, [(1, 5)])], keh72, [0, 80], [([], some (.inr (false, [(-3, -3)])), keh70)])
theorem kek20 : ai_chk [] kec20 (fun pc => sm_ch sm_t2 pc, sm_Kn 2 2 none, fun x => sm_lk sm_ca2 x, some .int) [0, 80] 2 0 [] [] 2000 [] = true := by decide +kernel
theorem keo10 {Psi : List va_E → Prop} (hP : ∀ (h : List va_E) (a : Nat) (e : va_E), a ∉ ai_pc → Psi h → Psi (h.set a e)) : ak_ok Psi (sm_Ex 200 sm_ML sm_B 1) kec10 := ai_ok (d := 0) rfl rfl rfl hP ak_nil kek10
theorem keo11 {Psi : List va_E → Prop} (hP : ∀ (h : List va_E) (a : Nat) (e : va_E), a ∉ ai_pc → Psi h → Psi (h.set a e)) : ak_ok Psi (sm_Ex 200 sm_ML sm_B 1) kec11 := ai_ok (d := 0) rfl rfl rfl hP ak_nil kek11
theorem keo12 {Psi : List va_E → Prop} (hP : ∀ (h : List va_E) (a : Nat) (e : va_E), a ∉ ai_pc → Psi h → Psi (h.set a e)) : ak_ok Psi (sm_Ex 200 sm_ML sm_B 1) kec12 := ai_ok (d := 0) rfl rfl rfl hP ak_nil kek12
theorem keo13 {Psi : List va_E → Prop} (hP : ∀ (h : List va_E) (a : Nat) (e : va_E), a ∉ ai_pc → Psi h → Psi (h.set a e)) : ak_ok Psi (sm_Ex 200 sm_ML sm_B 1) kec13 := ai_ok (d := 0) rfl rfl rfl hP ak_nil kek13
theorem keo14 {Psi : List va_E → Prop} (hP : ∀ (h : List va_E) (a : Nat) (e : va_E), a ∉ ai_pc → Psi h → Psi (h.set a e)) : ak_ok Psi (sm_Ex 200 sm_ML sm_B 2) kec14 := ai_ok (d := 1) rfl rfl rfl hP (ak_cons (ak_ok_le 1 (by decide) (keo11 hP)) (ak_cons (ak_ok_le 1 (by decide) (keo12 hP)) (ak_cons (ak_ok_le 1 (by decide) (keo13 hP)) ak_nil))) kek14
theorem keo15 {Psi : List va_E → Prop} (hP : ∀ (h : List va_E) (a : Nat) (e : va_E), a ∉ ai_pc → Psi h → Psi (h.set a e)) : ak_ok Psi (sm_Ex 200 sm_ML sm_B 1) kec15 := ai_ok (d := 0) rfl rfl rfl hP ak_nil kek15
theorem keo16 {Psi : List va_E → Prop} (hP : ∀ (h : List va_E) (a : Nat) (e : va_E), a ∉ ai_pc → Psi h → Psi (h.set a e)) : ak_ok Psi (sm_Ex 200 sm_ML sm_B 3) kec16 := ai_ok (d := 2) rfl rfl rfl hP (ak_cons (ak_ok_le 2 (by decide) (keo14 hP)) (ak_cons (ak_ok_le 2 (by decide) (keo15 hP)) ak_nil)) kek16
theorem keo17 {Psi : List va_E → Prop} (hP : ∀ (h : List va_E) (a : Nat) (e : va_E), a ∉ ai_pc → Psi h → Psi (h.set a e)) : ak_ok Psi (sm_Ex 200 sm_ML sm_B 4) kec17 := ai_ok (d := 3) rfl rfl rfl hP (ak_cons (ak_ok_le 3 (by decide) (keo16 hP)) ak_nil) kek17
theorem keo18 {Psi : List va_E → Prop} (hP : ∀ (h : List va_E) (a : Nat) (e : va_E), a ∉ ai_pc → Psi h → Psi (h.set a e)) : ak_ok Psi (sm_Ex 200 sm_ML sm_B 1) kec18 := ai_ok (d := 0) rfl rfl rfl hP ak_nil kek18
theorem keo19 {Psi : List va_E → Prop} (hP : ∀ (h : List va_E) (a : Nat) (e : va_E), a ∉ ai_pc → Psi h → Psi (h.set a e)) : ak_ok Psi (sm_Ex 200 sm_ML sm_B 1) kec19 := ai_ok (d := 0) rfl rfl rfl hP ak_nil kek19
theorem keo20 {Psi : List va_E → Prop} (hP : ∀ (h : List va_E) (a : Nat) (e : va_E), a ∉ ai_pc → Psi h → Psi (h.set a e)) : ak_ok Psi (sm_Ex 200 sm_ML sm_B 1) kec20 := ai_ok (d := 0) rfl rfl rfl hP ak_nil kek20
/-! doAgain by hand: the deeds done again from the start. -/
def dg_B : sm_P := (fun pc => sm_ch sm_t51 pc, sm_Kn 2 2 none, fun x => sm_lk sm_ca2 x, none)
def dg_H : aw_H := kcc8.2.2.1
theorem dg_call {X : sm_X} {c : ak_C} (hc : ak_ok ps_h X c) (h1 : ah_sub dg_H c.2.2.1 = true) (h2 : (c.2.2.2.2.all fun q => ah_sub (ak_hp c.2.2.2.1 q.2.2 dg_H) dg_H) = true) (h3 : (c.2.2.2.1.all fun a => decide (a ∈ [15, 18, 19, 23])) = true) {vs : List Value} {h : List va_E} (hv : ak_as c.2.1 vs) (hh : aw_h dg_H h) (hp : ps_h h) : ∃ o h', X c.1 vs h o h' ∧ ps_h h' ∧ aw_h dg_H h' ∧ (∀ a, a ∉ [15, 18, 19, 23] → h'[a]? = h[a]?) ∧ ∃ q ∈ c.2.2.2.2, ak_res q.2.1 o := by
  obtain ⟨o, h', x1, x2, x3, q, hq, q1, q2, q3⟩ := hc vs h hv (ah_sub_s h1 hh) hp
  have h3 : ∀ a ∈ c.2.2.2.1, a ∈ [15, 18, 19, 23] := fun a ha => of_decide_eq_true (List.all_eq_true.mp h3 a ha)
  exact ⟨o, h', x1, x2, ah_sub_s (List.all_eq_true.mp h2 q hq) (ak_hp_s hh q3 x3), fun a ha => x3 a (fun z => ha (h3 a z)), q, hq, q2⟩
theorem dg_main {h : List va_E} (hh : aw_h dg_H h) : ∃ fs, h[0]? = some (.inr (2, fs)) ∧ fs[4]? = some (.ref 15) ∧ fs[7]? = some (.ref 42) := by
  obtain ⟨e, he, fs, rfl, hl, hf⟩ := hh _ (aw_lk (show sm_lk dg_H 0 = some (.inl (2, [.inl 1, .inl 2, .inl 9, .inl 10, .inl 15, .inl 24, .inl 33, .inl 42, .inl 46, .inl 59, .inl 80, .inr (false, ar_t32), .inr (false, ar_t32), .inr (true, ar_t64), .inr (true, ar_t64)])) from rfl))
  have hl : fs.length = 15 := hl
  have h4 : 4 < fs.length := by omega
  have h7 : 7 < fs.length := by omega
  have a4 : fs[4] = .ref 15 := hf 4 (.inl 15) _ rfl (List.getElem?_eq_getElem h4)
  have a7 : fs[7] = .ref 42 := hf 7 (.inl 42) _ rfl (List.getElem?_eq_getElem h7)
  exact ⟨fs, he, by rw [List.getElem?_eq_getElem h4, a4], by rw [List.getElem?_eq_getElem h7, a7]⟩
theorem dg_reg {h : List va_E} (hh : aw_h dg_H h) : ∃ fs, sm_obj h 15 1 = some fs := by
  have k := (by decide +kernel : (match sm_lk dg_H 15 with
    | some (.inl (1, _)) => true
    | _ => false) = true)
  split at k
  · rename_i vs hl
    obtain ⟨e, he, fs, rfl, -, -⟩ := hh _ (aw_lk hl)
    exact ⟨fs, by unfold sm_obj; rw [he]; exact if_pos rfl⟩
  · cases k
theorem dg_deeds {h : List va_E} (hh : aw_h dg_H h) : ∃ s : Int32, h[42]? = some (.inr (0, [.int s, .ref 43, .ref 44, .ref 45])) ∧ 0 ≤ s.toInt ∧ s.toInt ≤ 40 := da_get (ah_sub_s (by decide +kernel) hh)
set_option maxHeartbeats 4000000 in
theorem dg_loop {s : Int32} {h0 : List va_E} (hs : 0 ≤ s.toInt ∧ s.toInt ≤ 40) (hs0 : h0[42]? = some (.inr (0, [.int s, .ref 43, .ref 44, .ref 45]))) : ∀ (n : Nat) (i : Int32) (h : List va_E), 0 ≤ i.toInt → i.toInt ≤ 40 → (40 - i.toInt).toNat < n → aw_h dg_H h → ps_h h → (∀ a, a ∉ [15, 18, 19, 23] → h[a]? = h0[a]?) → sm_Go dg_B (sm_Ex 200 sm_ML sm_B 6) (fun o' h' => ps_h h' ∧ (∀ a, a ∉ kcc8.2.2.2.1 → h'[a]? = h0[a]?) ∧ ak_end kcc8 [.ref 0] o' h') 9 [(1, .int i), (0, .ref 0)] [] h := by
  intro n
  induction n with
  | zero => intro i h _ _ h3; exact absurd h3 (Nat.not_lt_zero _)
  | succ n ih =>
    intro i h i1 i2 i3 hh hp fr
    obtain ⟨fs, m0, m4, m7⟩ := dg_main hh
    have go : h[42]? = some (.inr (0, [.int s, .ref 43, .ref 44, .ref 45])) := by rw [fr 42 (by decide)]; exact hs0
    obtain ⟨fw, fl, fa, p1, p2, p3, p4⟩ := hp 42 (by decide)
    refine sm_go_st (i := .iload_n 1) (n := 1) (t := (10, [(1, .int i), (0, .ref 0)], [.int i], h)) rfl rfl ?_
    refine sm_go_st (i := .aload_n 0) (n := 1) (t := (11, [(1, .int i), (0, .ref 0)], [.ref 0, .int i], h)) rfl rfl ?_
    refine sm_go_gf (r := [.int i]) (v := .ref 42) rfl rfl m0 m7 ?_
    refine sm_go_gf (r := [.int i]) (v := .int s) rfl rfl go rfl ?_
    refine sm_go_ic (t := 61) (q := .ge) (off := 44) rfl rfl (fun c1 => ?_) (fun c1 => ?_)
    · refine sm_go_rt (o := none) (i := .return_) (n := 1) rfl ⟨rfl, Or.inr (Or.inr ⟨rfl, rfl, rfl, rfl⟩)⟩ ⟨hp, fr, ?_⟩
      exact ⟨_, List.mem_cons_self, trivial, trivial, ah_sub_s (by decide +kernel) hh⟩
    have c1 : ¬ s.toInt ≤ i.toInt := c1
    have hin : ¬ (i < 0 ∨ 40 ≤ i.toNatClampNeg) := aw_in6 (q := (i.toInt, i.toInt)) ⟨Int.le_refl _, Int.le_refl _⟩ i1 (by show i.toInt < ((40 : Nat) : Int); omega)
    have hix := aw_ix (i := i) i1
    refine sm_go_st (i := .aload_n 0) (n := 1) (t := (21, [(1, .int i), (0, .ref 0)], [.ref 0], h)) rfl rfl ?_
    refine sm_go_gf (r := []) (v := .ref 15) rfl rfl m0 m4 ?_
    refine sm_go_st (i := .aload_n 0) (n := 1) (t := (25, [(1, .int i), (0, .ref 0)], [.ref 0, .ref 15], h)) rfl rfl ?_
    refine sm_go_gf (r := [.ref 15]) (v := .ref 42) rfl rfl m0 m7 ?_
    refine sm_go_gf (r := [.ref 15]) (v := .ref 43) rfl rfl go rfl ?_
    refine sm_go_st (i := .iload_n 1) (n := 1) (t := (32, [(1, .int i), (0, .ref 0)], [.int i, .ref 43, .ref 15], h)) rfl rfl ?_
    refine sm_go_ia (r := [.ref 15]) rfl p1 (by decide) hin ?_
    refine sm_go_st (i := .aload_n 0) (n := 1) (t := (34, [(1, .int i), (0, .ref 0)], [.ref 0, .int (fw i.toNatClampNeg), .ref 15], h)) rfl rfl ?_
    refine sm_go_gf (r := [.int (fw i.toNatClampNeg), .ref 15]) (v := .ref 42) rfl rfl m0 m7 ?_
    refine sm_go_gf (r := [.int (fw i.toNatClampNeg), .ref 15]) (v := .ref 44) rfl rfl go rfl ?_
    refine sm_go_st (i := .iload_n 1) (n := 1) (t := (41, [(1, .int i), (0, .ref 0)], [.int i, .ref 44, .int (fw i.toNatClampNeg), .ref 15], h)) rfl rfl ?_
    refine sm_go_ia (r := [.int (fw i.toNatClampNeg), .ref 15]) rfl p2 (by decide) hin ?_
    refine sm_go_st (i := .aload_n 0) (n := 1) (t := (43, [(1, .int i), (0, .ref 0)], [.ref 0, .int (fl i.toNatClampNeg), .int (fw i.toNatClampNeg), .ref 15], h)) rfl rfl ?_
    refine sm_go_gf (r := [.int (fl i.toNatClampNeg), .int (fw i.toNatClampNeg), .ref 15]) (v := .ref 42) rfl rfl m0 m7 ?_
    refine sm_go_gf (r := [.int (fl i.toNatClampNeg), .int (fw i.toNatClampNeg), .ref 15]) (v := .ref 45) rfl rfl go rfl ?_
    refine sm_go_st (i := .iload_n 1) (n := 1) (t := (50, [(1, .int i), (0, .ref 0)], [.int i, .ref 45, .int (fl i.toNatClampNeg), .int (fw i.toNatClampNeg), .ref 15], h)) rfl rfl ?_
    refine sm_go_ia (r := [.int (fl i.toNatClampNeg), .int (fw i.toNatClampNeg), .ref 15]) rfl p3 (by decide) hin ?_
    have hcall : ∃ (r : Int32) (h1 : List va_E), sm_Ex 200 sm_ML sm_B 6 45 [.ref 15, .int (fw i.toNatClampNeg), .int (fl i.toNatClampNeg), .int (fa i.toNatClampNeg)] h (some (.int r)) h1 ∧ ps_h h1 ∧ aw_h dg_H h1 ∧ ∀ a, a ∉ [15, 18, 19, 23] → h1[a]? = h[a]? := by
      by_cases h1 : (fw i.toNatClampNeg).toInt = 1
      · have hl := p4 i.toNatClampNeg (by omega) h1
        obtain ⟨o1, h', x1, x2, x3, x4, q, hq, x5⟩ := dg_call (X := sm_Ex 200 sm_ML sm_B 6) (c := kec10) (ak_ok_le 6 (by decide) (keo10 ps_P)) (by decide +kernel) (by decide +kernel) (by decide +kernel) (vs := [.ref 15, .int (fw i.toNatClampNeg), .int (fl i.toNatClampNeg), .int (fa i.toNatClampNeg)]) ⟨rfl, ⟨_, rfl, ar_o (by omega) (by omega)⟩, ⟨_, rfl, ar_o hl.1 hl.2⟩, ⟨_, rfl, ar_in32 _⟩, trivial⟩ hh hp
        have hq : q ∈ kec10.2.2.2.2 := hq
        have e1 : ∀ q ∈ kec10.2.2.2.2, q.2.1 = some (.inr (false, ar_t32)) := by decide +kernel
        rw [e1 q hq] at x5
        cases o1 with
        | none => exact x5.elim
        | some v =>
          obtain ⟨r, rfl, -⟩ := x5
          exact ⟨r, h', x1, x2, x3, x4⟩
      · have hne : ar_in (fw i.toNatClampNeg).toInt [(-2147483648, 0), (2, 2147483647)] := by
          have b1 := (fw i.toNatClampNeg).le_toInt
          have b2 := (fw i.toNatClampNeg).toInt_lt
          by_cases hle : (fw i.toNatClampNeg).toInt ≤ 0
          · exact ⟨(-2147483648, 0), List.mem_cons_self, by show (-2147483648 : Int) ≤ _; omega, hle⟩
          · exact ⟨(2, 2147483647), List.mem_cons_of_mem _ List.mem_cons_self, by show (2 : Int) ≤ _; omega, by show _ ≤ (2147483647 : Int); omega⟩
        obtain ⟨o1, h', x1, x2, x3, x4, q, hq, x5⟩ := dg_call (X := sm_Ex 200 sm_ML sm_B 6) (c := kec17) (ak_ok_le 6 (by decide) (keo17 ps_P)) (by decide +kernel) (by decide +kernel) (by decide +kernel) (vs := [.ref 15, .int (fw i.toNatClampNeg), .int (fl i.toNatClampNeg), .int (fa i.toNatClampNeg)]) ⟨rfl, ⟨_, rfl, hne⟩, ⟨_, rfl, ar_in32 _⟩, ⟨_, rfl, ar_in32 _⟩, trivial⟩ hh hp
        · have hq : q ∈ kec17.2.2.2.2 := hq
          have e1 : ∀ q ∈ kec17.2.2.2.2, q.2.1 = some (.inr (false, ar_t32)) := by decide +kernel
          rw [e1 q hq] at x5
          cases o1 with
          | none => exact x5.elim
          | some v =>
            obtain ⟨r, rfl, -⟩ := x5
            exact ⟨r, h', x1, x2, x3, x4⟩
    obtain ⟨r, h1, x1, x2, x3, x4⟩ := hcall
    obtain ⟨fr15, hfr15⟩ := dg_reg hh
    refine sm_go_cl (i := .invokevirtual 324) (n := 3) (k := 45) (r := []) rfl ⟨rfl, by decide, Or.inl ⟨324, 1, 15, [.int (fw i.toNatClampNeg), .int (fl i.toNatClampNeg), .int (fa i.toNatClampNeg)], rfl, rfl, rfl, rfl, fr15, hfr15⟩⟩ x1 ?_
    refine sm_go_st (i := .pop) (n := 1) (t := (55, [(1, .int i), (0, .ref 0)], [], h1)) rfl rfl ?_
    refine sm_go_st (i := .iinc 1 1) (n := 3) (t := (58, [(1, .int (i + 1)), (0, .ref 0)], [], h1)) rfl rfl ?_
    refine sm_go_st (i := .goto (-49)) (n := 3) (t := (9, [(1, .int (i + 1)), (0, .ref 0)], [], h1)) rfl rfl ?_
    have hi1 : (i + 1).toInt = i.toInt + 1 := by
      rw [Int32.toInt_add, show (1 : Int32).toInt = 1 from rfl, Int.bmod_eq_of_le (by omega) (by omega)]
    exact ih (i + 1) h1 (by omega) (by omega) (by omega) x3 x2 (fun a ha => (x4 a ha).trans (fr a ha))
set_option maxHeartbeats 2000000 in
theorem dg_ok : ak_ok ps_h (sm_Ex 200 sm_ML sm_B 7) kcc8 := by
  refine sm_hand (B := dg_B) (show (51 : Nat) < 200 by decide) rfl (by decide +kernel) ?_
  intro vs h hv hh hPs
  match vs, hv with
  | [v0], hv =>
    have e0 : v0 = .ref 0 := hv.1
    subst e0
    have hh : aw_h dg_H h := hh
    obtain ⟨fs, m0, m4, m7⟩ := dg_main hh
    obtain ⟨s, go, hs⟩ := dg_deeds hh
    refine sm_go_st (i := .aload_n 0) (n := 1) (t := (1, [(0, .ref 0)], [.ref 0], h)) rfl rfl ?_
    refine sm_go_gf (r := []) (v := .ref 15) rfl rfl m0 m4 ?_
    obtain ⟨o1, h1, x1, x2, x3, x4, q, hq, x5⟩ := dg_call (X := sm_Ex 200 sm_ML sm_B 6) (c := kec18) (ak_ok_le 6 (by decide) (keo18 ps_P)) (by decide +kernel) (by decide +kernel) (by decide +kernel) (vs := [.ref 15]) ⟨rfl, trivial⟩ hh hPs
    have e1 : ∀ q ∈ kec18.2.2.2.2, q.2.1 = none := by decide +kernel
    rw [e1 q hq] at x5
    cases o1 with
    | some v => exact x5.elim
    | none =>
      obtain ⟨fr15, hfr15⟩ := dg_reg hh
      refine sm_go_cl (i := .invokevirtual 104) (n := 3) (k := 22) (r := []) rfl ⟨rfl, by decide, Or.inl ⟨104, 1, 15, [], rfl, rfl, rfl, rfl, fr15, hfr15⟩⟩ x1 ?_
      refine sm_go_st (i := .iconst 0) (n := 1) (t := (8, [(0, .ref 0)], [.int 0], h1)) rfl rfl ?_
      refine sm_go_st (i := .istore_n 1) (n := 1) (t := (9, [(1, .int 0), (0, .ref 0)], [], h1)) rfl rfl ?_
      exact dg_loop hs go 41 0 h1 (by decide) (by decide) (by decide) x3 x2 x4
  | [], hv => exact hv.elim
  | _ :: _ :: _, hv => exact hv.2.elim
/-! The class' copy by hand. -/
theorem hd_call {Psi : List va_E → Prop} {X : sm_X} {c : ak_C} {H : aw_H} {WR : List Nat} (hc : ak_ok Psi X c) (h1 : ah_sub H c.2.2.1 = true) (h2 : (c.2.2.2.2.all fun q => ah_sub (ak_hp c.2.2.2.1 q.2.2 H) H) = true) (h3 : (c.2.2.2.1.all fun a => decide (a ∈ WR)) = true) {vs : List Value} {h : List va_E} (hv : ak_as c.2.1 vs) (hh : aw_h H h) (hp : Psi h) : ∃ o h', X c.1 vs h o h' ∧ Psi h' ∧ aw_h H h' ∧ (∀ a, a ∉ WR → h'[a]? = h[a]?) ∧ ∃ q ∈ c.2.2.2.2, ak_rf q.1 vs ∧ ak_res q.2.1 o := by
  obtain ⟨o, h', x1, x2, x3, q, hq, q1, q2, q3⟩ := hc vs h hv (ah_sub_s h1 hh) hp
  have h3 : ∀ a ∈ c.2.2.2.1, a ∈ WR := fun a ha => of_decide_eq_true (List.all_eq_true.mp h3 a ha)
  exact ⟨o, h', x1, x2, ah_sub_s (List.all_eq_true.mp h2 q hq) (ak_hp_s hh q3 x3), fun a ha => x3 a (fun z => ha (h3 a z)), q, hq, q1, q2⟩
section HANDC
variable {B : sm_P} {X : sm_X} {P : Option Value → List va_E → Prop} {pc : Nat} {lv : sm_L} {h : List va_E}
theorem sm_go_aa {a n t b : Nat} {f : Nat → Option Nat} {i : Int32} {r : List Value} (hi : B.1 pc = some (.aaload, 1)) (he : h[a]? = some (.inl (t, n, .inr (.inr (.inr (.inr f)))))) (ht : 2 ≤ t ∧ t < 5) (hin : ¬ (i < 0 ∨ n ≤ i.toNatClampNeg)) (hb : f i.toNatClampNeg = some b) (k : sm_Go B X P (pc + 1) lv (.ref b :: r) h) : sm_Go B X P pc lv (.int i :: .ref a :: r) h := by
  refine sm_go_st (t := (pc + 1, lv, .ref b :: r, h)) hi ?_ k
  have hr : sm_refs h a = some (t, n, f) := by unfold sm_refs; rw [he]; exact if_pos ht
  show (sm_refs h a).bind _ = _
  rw [hr]
  show (if i < 0 ∨ n ≤ i.toNatClampNeg then _ else _) = _
  rw [if_neg hin]
  show (f i.toNatClampNeg).bind _ = _
  rw [hb]
  rfl
theorem sm_go_ac {x a0 a n0 n1 : Nat} {f g : Nat → Int32} {sp dp k : Int32} (hi : B.1 pc = some (.invokestatic x, 3)) (hx : B.2.1.2.2.2.2.2.2 x = some 3) (h0 : h[a0]? = some (.inl (0, n0, .inl f))) (h1 : h[a]? = some (.inl (0, n1, .inl g))) (g1 : ¬ sp < 0) (g2 : ¬ dp < 0) (g3 : ¬ k < 0) (g4 : sp.toNatClampNeg + k.toNatClampNeg ≤ n0) (g5 : dp.toNatClampNeg + k.toNatClampNeg ≤ n1) (kk : sm_Go B X P (pc + 3) lv [] (h.set a (.inl (0, n1, .inl (va_cpy f g sp.toNatClampNeg dp.toNatClampNeg k.toNatClampNeg))))) : sm_Go B X P pc lv [.int k, .int dp, .ref a, .int sp, .ref a0] h := by
  refine sm_go_st (t := (pc + 3, lv, [], h.set a (.inl (0, n1, .inl (va_cpy f g sp.toNatClampNeg dp.toNatClampNeg k.toNatClampNeg))))) hi ?_ kk
  show (B.2.1.2.2.2.2.2.2 x).bind _ = _
  rw [hx]
  show (sm_ints h a0).bind _ = _
  rw [aw_ints_of h0]
  show (sm_ints h a).bind _ = _
  rw [aw_ints_of h1]
  exact if_pos ⟨by decide, g1, g2, g3, g4, g5⟩
end HANDC
def ib_B : sm_P := (fun pc => sm_ch sm_t9 pc, sm_Kn 2 3 none, fun x => sm_lk sm_ca2 x, some .boolean)
theorem cp_ib {d : Nat} (a b c : Int32) (h : List va_E) : ∃ r : Int32, sm_Ex 200 sm_ML sm_B (d + 1) 9 [.int a, .int b, .int c] h (some (.int r)) h ∧ (r.toInt = 0 → 0 ≤ a.toInt ∧ a.toInt ≤ (c - b).toInt) := by
  have run : sm_Go ib_B (sm_Ex 200 sm_ML sm_B d) (fun o h' => h' = h ∧ ∃ r : Int32, o = some (.int r) ∧ (r.toInt = 0 → 0 ≤ a.toInt ∧ a.toInt ≤ (c - b).toInt)) 0 [(0, .int a), (1, .int b), (2, .int c)] [] h := by
    have one : sm_Go ib_B (sm_Ex 200 sm_ML sm_B d) (fun o h' => h' = h ∧ ∃ r : Int32, o = some (.int r) ∧ (r.toInt = 0 → 0 ≤ a.toInt ∧ a.toInt ≤ (c - b).toInt)) 11 [(0, .int a), (1, .int b), (2, .int c)] [] h := by
      refine sm_go_st (i := .iconst 1) (n := 1) (t := (12, [(0, .int a), (1, .int b), (2, .int c)], [.int 1], h)) rfl rfl ?_
      refine sm_go_st (i := .goto 4) (n := 3) (t := (16, [(0, .int a), (1, .int b), (2, .int c)], [.int 1], h)) rfl rfl ?_
      exact sm_go_rt (o := some (.int 1)) (i := .ireturn) (n := 1) rfl ⟨rfl, Or.inl ⟨rfl, 1, rfl, rfl, Or.inr ⟨rfl, Or.inr rfl⟩⟩⟩ ⟨rfl, 1, rfl, fun z => absurd z (by decide)⟩
    refine sm_go_st (i := .iload_n 0) (n := 1) (t := (1, [(0, .int a), (1, .int b), (2, .int c)], [.int a], h)) rfl rfl ?_
    refine sm_go_if (t := 11) (q := .lt) (off := 10) rfl rfl (fun _ => one) (fun c1 => ?_)
    have c1 : ¬ a.toInt < 0 := c1
    refine sm_go_st (i := .iload_n 0) (n := 1) (t := (5, [(0, .int a), (1, .int b), (2, .int c)], [.int a], h)) rfl rfl ?_
    refine sm_go_st (i := .iload_n 2) (n := 1) (t := (6, [(0, .int a), (1, .int b), (2, .int c)], [.int c, .int a], h)) rfl rfl ?_
    refine sm_go_st (i := .iload_n 1) (n := 1) (t := (7, [(0, .int a), (1, .int b), (2, .int c)], [.int b, .int c, .int a], h)) rfl rfl ?_
    refine sm_go_st (i := .isub) (n := 1) (t := (8, [(0, .int a), (1, .int b), (2, .int c)], [.int (c - b), .int a], h)) rfl rfl ?_
    refine sm_go_ic (t := 15) (q := .le) (off := 7) rfl rfl (fun c2 => ?_) (fun _ => one)
    have c2 : a.toInt ≤ (c - b).toInt := c2
    refine sm_go_st (i := .iconst 0) (n := 1) (t := (16, [(0, .int a), (1, .int b), (2, .int c)], [.int 0], h)) rfl rfl ?_
    exact sm_go_rt (o := some (.int 0)) (i := .ireturn) (n := 1) rfl ⟨rfl, Or.inl ⟨rfl, 0, rfl, rfl, Or.inr ⟨rfl, Or.inl rfl⟩⟩⟩ ⟨rfl, 0, rfl, fun _ => ⟨by omega, c2⟩⟩
  obtain ⟨f, o, h', hr, rfl, r, rfl, hrr⟩ := run
  exact ⟨r, ⟨by decide, show (3 : Nat) ≤ sm_ML 9 by decide +kernel, f, hr⟩, hrr⟩
def cp_B : sm_P := (fun pc => sm_ch sm_t8 pc, sm_Kn 2 6 none, fun x => sm_lk sm_ca2 x, some .int)
def cp_H : aw_H := kcc9.2.2.1
theorem cp_main {h : List va_E} (hh : aw_h cp_H h) : ∃ fs, h[0]? = some (.inr (2, fs)) ∧ fs[0]? = some (.ref 1) ∧ fs[1]? = some (.ref 2) := by
  obtain ⟨e, he, fs, rfl, hl, hf⟩ := hh _ (aw_lk (show sm_lk cp_H 0 = some (.inl (2, [.inl 1, .inl 2, .inl 9, .inl 10, .inl 15, .inl 24, .inl 33, .inl 42, .inl 46, .inl 59, .inl 80, .inr (false, ar_t32), .inr (false, ar_t32), .inr (true, ar_t64), .inr (true, ar_t64)])) from rfl))
  have hl : fs.length = 15 := hl
  have h0 : 0 < fs.length := by omega
  have h1 : 1 < fs.length := by omega
  have a0 : fs[0] = .ref 1 := hf 0 (.inl 1) _ rfl (List.getElem?_eq_getElem h0)
  have a1 : fs[1] = .ref 2 := hf 1 (.inl 2) _ rfl (List.getElem?_eq_getElem h1)
  exact ⟨fs, he, by rw [List.getElem?_eq_getElem h0, a0], by rw [List.getElem?_eq_getElem h1, a1]⟩
theorem cp_sz {h : List va_E} (hh : aw_h cp_H h) : ∃ fz : Nat → Int32, h[1]? = some (.inl (0, 6, .inl fz)) ∧ ∀ j : Nat, j < 6 → -1 ≤ (fz j).toInt ∧ (fz j).toInt ≤ 40 := by
  obtain ⟨e, he, f, rfl, hs, -⟩ := hh _ (aw_lk (show sm_lk cp_H 1 = some (.inr (.inl (0, 6, [(0, 5, [(-1, 40)])], []))) from rfl))
  exact ⟨f, he, fun j hj => ar_1 (hs _ List.mem_cons_self j (Nat.zero_le _) (by show j ≤ 5; omega))⟩
theorem cp_rows {h : List va_E} (hh : aw_h cp_H h) : ∃ g : Nat → Option Nat, h[2]? = some (.inl (2, 6, .inr (.inr (.inr (.inr g))))) ∧ ∀ j : Nat, j < 6 → g j = some (3 + j) := by
  obtain ⟨e, he, -, -, g, rfl, hg⟩ := hh _ (aw_lk (show sm_lk cp_H 2 = some (.inr (.inr (.inl (2, [3, 4, 5, 6, 7, 8])))) from rfl))
  refine ⟨g, he, fun j hj => hg j (3 + j) ?_⟩
  rcases (show j = 0 ∨ j = 1 ∨ j = 2 ∨ j = 3 ∨ j = 4 ∨ j = 5 by omega) with rfl | rfl | rfl | rfl | rfl | rfl <;> rfl
theorem cp_row {h : List va_E} (hh : aw_h cp_H h) (j : Nat) (hj : j < 6) : ∃ f : Nat → Int32, h[3 + j]? = some (.inl (0, 40, .inl f)) := by
  have k : ∀ j : Nat, j < 6 → sm_lk cp_H (3 + j) = some (.inr (.inl (0, 40, [], []))) := by
    intro j hj
    rcases (show j = 0 ∨ j = 1 ∨ j = 2 ∨ j = 3 ∨ j = 4 ∨ j = 5 by omega) with rfl | rfl | rfl | rfl | rfl | rfl <;> rfl
  obtain ⟨e, he, f, rfl, -, -⟩ := hh _ (aw_lk (k j hj))
  exact ⟨f, he⟩
theorem cp_set {h : List va_E} (hh : aw_h cp_H h) (j : Nat) (hj : j < 6) (f : Nat → Int32) : aw_h cp_H (h.set (3 + j) (.inl (0, 40, .inl f))) := by
  obtain ⟨f0, hf0⟩ := cp_row hh j hj
  have hm : aw_h (cp_H.map fun q => if q.1 = 3 + j then (q.1, (fun _ => (.inr (.inl (0, 40, [], [])) : aw_A)) q.2) else q) (h.set (3 + j) (.inl (0, 40, .inl f))) := aw_h_map (a := 3 + j) (F := fun _ => .inr (.inl (0, 40, [], []))) hh (fun b hb => by rw [List.getElem?_set_ne (fun z => hb z.symm)]) (fun c _ e _ _ => ⟨_, sm_set_s hf0, f, rfl, fun q hq => absurd hq List.not_mem_nil, fun q hq => absurd hq List.not_mem_nil⟩)
  have e : (cp_H.map fun q => if q.1 = 3 + j then (q.1, (fun _ => (.inr (.inl (0, 40, [], [])) : aw_A)) q.2) else q) = cp_H := by
    rcases (show j = 0 ∨ j = 1 ∨ j = 2 ∨ j = 3 ∨ j = 4 ∨ j = 5 by omega) with rfl | rfl | rfl | rfl | rfl | rfl <;> rfl
  rw [e] at hm
  exact hm
/-- an end: the answer is one of three, the cells as they must be -/
theorem cp_end {vs : List Value} {h : List va_E} (hh : aw_h cp_H h) (r : Int32) (hr : r.toInt = -1 ∨ r.toInt = -3 ∨ r.toInt = 1) : ak_end kcc9 vs (some (.int r)) h := by
  have key : ∀ q ∈ kcc9.2.2.2.2, ah_sub cp_H q.2.2 = true ∧ q.1 = [] := by decide +kernel
  have res : kcc9.2.2.2.2.map (fun q => q.2.1) = [some (.inr (false, [(-1, -1)])), some (.inr (false, [(-3, -3)])), some (.inr (false, [(1, 1)]))] := rfl
  have pick : ∀ (z : Int), some (.inr (false, [(z, z)])) ∈ kcc9.2.2.2.2.map (fun q => q.2.1) → r.toInt = z → ak_end kcc9 vs (some (.int r)) h := by
    intro z hz hrz
    obtain ⟨q, hq, hqz⟩ := List.mem_map.mp hz
    obtain ⟨k1, k2⟩ := key q hq
    refine ⟨q, hq, ?_, ?_, ah_sub_s k1 hh⟩
    · rw [k2]
      unfold ak_rf
      trivial
    · rw [hqz]
      exact ⟨r, rfl, ar_o (by omega) (by omega)⟩
  rcases hr with hr | hr | hr
  · exact pick (-1) (by rw [res]; exact List.mem_cons_self) hr
  · exact pick (-3) (by rw [res]; exact List.mem_cons_of_mem _ List.mem_cons_self) hr
  · exact pick 1 (by rw [res]; exact List.mem_cons_of_mem _ (List.mem_cons_of_mem _ List.mem_cons_self)) hr
theorem cp_in {x : Int32} (h0 : 0 ≤ x.toInt) (h5 : x.toInt ≤ 5) : ¬ (x < 0 ∨ 6 ≤ x.toNatClampNeg) := aw_in6 (q := (x.toInt, x.toInt)) (n := 6) ⟨Int.le_refl _, Int.le_refl _⟩ h0 (by show x.toInt < ((6 : Nat) : Int); omega)
theorem cp_nl {x : Int32} (h0 : 0 ≤ x.toInt) : ¬ x < 0 := fun z => by have := Int32.lt_iff_toInt_lt.mp z; have z0 : (0 : Int32).toInt = 0 := rfl; omega
theorem cp_isno {d : Nat} (x : Int32) {h : List va_E} (hh : aw_h cp_H h) (hp : ps_h h) : ∃ (r : Int32) (h' : List va_E), sm_Ex 200 sm_ML sm_B (d + 1) 1 [.int x] h (some (.int r)) h' ∧ ps_h h' ∧ aw_h cp_H h' ∧ (∀ a : Nat, h'[a]? = h[a]?) ∧ (r.toInt = 0 → 0 ≤ x.toInt ∧ x.toInt ≤ 5) := by
  obtain ⟨o, h', x1, x2, x3, x4, q, hq, q1, q2⟩ := hd_call (WR := []) (H := cp_H) (ak_ok_le (d + 1) (by omega) (keo19 ps_P)) (by decide +kernel) (by decide +kernel) (by decide +kernel) (vs := [.int x]) ⟨⟨x, rfl, ar_in32 x⟩, trivial⟩ hh hp
  have hq : q ∈ [([[(-2147483648, -1), (6, 2147483647)]], some (.inr (false, [(1, 1)])), []), ([[(0, 5)]], some (.inr (false, [(0, 0)])), [])] := hq
  simp only [List.mem_cons, List.not_mem_nil, or_false] at hq
  rcases hq with rfl | rfl
  · cases o with
    | none => exact q2.elim
    | some v =>
      obtain ⟨r, rfl, hr⟩ := q2
      have hr := ar_1 hr
      exact ⟨r, h', x1, x2, x3, fun a => x4 a List.not_mem_nil, fun z => by omega⟩
  · cases o with
    | none => exact q2.elim
    | some v =>
      obtain ⟨r, rfl, hr⟩ := q2
      exact ⟨r, h', x1, x2, x3, fun a => x4 a List.not_mem_nil, fun _ => ar_1 (q1.1 rfl _ rfl)⟩
theorem cp_ref {d : Nat} (x : Int32) (hx : 1 ≤ x.toInt ∧ x.toInt ≤ 5) {h : List va_E} (hh : aw_h cp_H h) (hp : ps_h h) : ∃ (r : Int32) (h' : List va_E), sm_Ex 200 sm_ML sm_B (d + 1) 2 [.ref 0, .int x] h (some (.int r)) h' ∧ ps_h h' ∧ aw_h cp_H h' ∧ (∀ a : Nat, a ∉ [0, 80] → h'[a]? = h[a]?) ∧ r.toInt = -3 := by
  obtain ⟨o, h', x1, x2, x3, x4, q, hq, q1, q2⟩ := hd_call (WR := [0, 80]) (H := cp_H) (ak_ok_le (d + 1) (by omega) (keo20 ps_P)) (by decide +kernel) (by decide +kernel) (by decide +kernel) (vs := [.ref 0, .int x]) ⟨rfl, ⟨x, rfl, ar_o hx.1 hx.2⟩, trivial⟩ hh hp
  have e1 : ∀ q ∈ kec20.2.2.2.2, q.2.1 = some (.inr (false, [(-3, -3)])) := by decide +kernel
  rw [e1 q hq] at q2
  cases o with
  | none => exact q2.elim
  | some v =>
    obtain ⟨r, rfl, hr⟩ := q2
    have hr := ar_1 hr
    exact ⟨r, h', x1, x2, x3, x4, by omega⟩
theorem cp_obj {h : List va_E} (hh : aw_h cp_H h) : ∃ fs, sm_obj h 0 2 = some fs := by
  obtain ⟨fs, m0, -, -⟩ := cp_main hh
  exact ⟨fs, by unfold sm_obj; rw [m0]; exact if_pos rfl⟩
abbrev cp_Q (vs : List Value) (h0 : List va_E) : Option Value → List va_E → Prop := fun o h' => ps_h h' ∧ (∀ a, a ∉ kcc9.2.2.2.1 → h'[a]? = h0[a]?) ∧ ak_end kcc9 vs o h'
/-- a refusal: from the call of refuseBy on -/
theorem cp_no {d pc : Nat} {vs : List Value} {h0 h : List va_E} {lv : sm_L} (x : Int32) (hx : 1 ≤ x.toInt ∧ x.toInt ≤ 5) (hi : cp_B.1 pc = some (.invokevirtual 77, 3)) (hi2 : cp_B.1 (pc + 3) = some (.ireturn, 1)) (hh : aw_h cp_H h) (hp : ps_h h) (fr : ∀ a : Nat, a ∉ kcc9.2.2.2.1 → h[a]? = h0[a]?) : sm_Go cp_B (sm_Ex 200 sm_ML sm_B (d + 1)) (cp_Q vs h0) pc lv [.int x, .ref 0] h := by
  obtain ⟨r, h', x1, x2, x3, x4, x5⟩ := cp_ref (d := d) x hx hh hp
  obtain ⟨fs, hfs⟩ := cp_obj hh
  refine sm_go_cl (k := 2) (r := []) hi ⟨rfl, by decide, Or.inl ⟨77, 2, 0, [.int x], rfl, rfl, rfl, rfl, fs, hfs⟩⟩ x1 ?_
  refine sm_go_rt (o := some (.int r)) hi2 ⟨rfl, Or.inl ⟨rfl, r, rfl, rfl, Or.inl rfl⟩⟩ ⟨x2, fun a ha => ?_, cp_end x3 r (Or.inr (Or.inl x5))⟩
  have sub : ∀ b ∈ [0, 80], b ∈ kcc9.2.2.2.1 := by decide
  rw [x4 a (fun z => ha (sub a z))]
  exact fr a ha
set_option maxHeartbeats 4000000 in
theorem cp_ok : ak_ok ps_h (sm_Ex 200 sm_ML sm_B 3) kcc9 := by
  refine sm_hand (B := cp_B) (show (8 : Nat) < 200 by decide) rfl (by decide +kernel) ?_
  intro vs h hv hh hPs
  match vs, hv with
  | [v0, v1, v2, v3, v4, v5], hv =>
    obtain ⟨e0, e1, e2, e3, e4, e5, -⟩ := hv
    have e0 : v0 = .ref 0 := e0
    obtain ⟨r, rfl, -⟩ := sm_vi e1
    obtain ⟨i, rfl, -⟩ := sm_vi e2
    obtain ⟨t, rfl, -⟩ := sm_vi e3
    obtain ⟨j, rfl, -⟩ := sm_vi e4
    obtain ⟨n, rfl, -⟩ := sm_vi e5
    subst e0
    have hh : aw_h cp_H h := hh
    have bad : ∀ (h1 : List va_E) (lv : sm_L), aw_h cp_H h1 → ps_h h1 → (∀ a : Nat, h1[a]? = h[a]?) → sm_Go cp_B (sm_Ex 200 sm_ML sm_B 2) (cp_Q [.ref 0, .int r, .int i, .int t, .int j, .int n] h) 14 lv [] h1 := by
      intro h1 lv a1 a2 a3
      refine sm_go_st (i := .iconst (-1)) (n := 1) (t := (15, lv, [.int (-1)], h1)) rfl rfl ?_
      exact sm_go_rt (o := some (.int (-1))) (i := .ireturn) (n := 1) rfl ⟨rfl, Or.inl ⟨rfl, -1, rfl, rfl, Or.inl rfl⟩⟩ ⟨a2, fun a _ => a3 a, cp_end a1 (-1) (Or.inl rfl)⟩
    show sm_Go cp_B (sm_Ex 200 sm_ML sm_B 2) (cp_Q [.ref 0, .int r, .int i, .int t, .int j, .int n] h) 0 [(0, .ref 0), (1, .int r), (2, .int i), (3, .int t), (4, .int j), (5, .int n)] [] h
    refine sm_go_st (i := .iload_n 1) (n := 1) (t := (1, [(0, .ref 0), (1, .int r), (2, .int i), (3, .int t), (4, .int j), (5, .int n)], [.int r], h)) rfl rfl ?_
    obtain ⟨q1, h1, x1, y1, z1, f1, k1⟩ := cp_isno (d := 1) r hh hPs
    refine sm_go_cl (i := .invokestatic 73) (n := 3) (k := 1) (r := []) rfl ⟨rfl, by decide, Or.inr (Or.inl ⟨73, 2, rfl, rfl, rfl⟩)⟩ x1 ?_
    refine sm_go_if (t := 14) (q := .ne) (off := 10) rfl rfl (fun _ => bad h1 _ z1 y1 f1) (fun c1 => ?_)
    have c1 : ¬ ¬ q1.toInt = 0 := c1
    have hr := k1 (Classical.not_not.mp c1)
    refine sm_go_st (i := .iload_n 3) (n := 1) (t := (8, [(0, .ref 0), (1, .int r), (2, .int i), (3, .int t), (4, .int j), (5, .int n)], [.int t], h1)) rfl rfl ?_
    obtain ⟨q2, h2, x2, y2, z2, f2, k2⟩ := cp_isno (d := 1) t z1 y1
    refine sm_go_cl (i := .invokestatic 73) (n := 3) (k := 1) (r := []) rfl ⟨rfl, by decide, Or.inr (Or.inl ⟨73, 2, rfl, rfl, rfl⟩)⟩ x2 ?_
    have f2 : ∀ a : Nat, h2[a]? = h[a]? := fun a => (f2 a).trans (f1 a)
    refine sm_go_if (t := 16) (q := .eq) (off := 5) rfl rfl (fun c2 => ?_) (fun _ => bad h2 _ z2 y2 f2)
    have c2 : q2.toInt = 0 := c2
    have ht := k2 c2
    have fr : ∀ a : Nat, a ∉ kcc9.2.2.2.1 → h2[a]? = h[a]? := fun a _ => f2 a
    obtain ⟨fs, m0, m1, m2⟩ := cp_main z2
    obtain ⟨fz, p1, p2⟩ := cp_sz z2
    have inr := cp_in hr.1 hr.2
    have int := cp_in ht.1 ht.2
    have ir := aw_ix (i := r) hr.1
    have it := aw_ix (i := t) ht.1
    have sr := p2 r.toNatClampNeg (by omega)
    have stt := p2 t.toNatClampNeg (by omega)
    refine sm_go_st (i := .iload 5) (n := 2) (t := (18, [(0, .ref 0), (1, .int r), (2, .int i), (3, .int t), (4, .int j), (5, .int n)], [.int n], h2)) rfl rfl ?_
    refine sm_go_if (t := 27) (q := .ge) (off := 9) rfl rfl (fun c3 => ?_) (fun c3 => ?_)
    rotate_left
    · show sm_Go cp_B (sm_Ex 200 sm_ML sm_B 2) (cp_Q [.ref 0, .int r, .int i, .int t, .int j, .int n] h) 21 [(0, .ref 0), (1, .int r), (2, .int i), (3, .int t), (4, .int j), (5, .int n)] [] h2
      refine sm_go_st (i := .aload_n 0) (n := 1) (t := (22, [(0, .ref 0), (1, .int r), (2, .int i), (3, .int t), (4, .int j), (5, .int n)], [.ref 0], h2)) rfl rfl ?_
      refine sm_go_st (i := .iconst 5) (n := 1) (t := (23, [(0, .ref 0), (1, .int r), (2, .int i), (3, .int t), (4, .int j), (5, .int n)], [.int 5, .ref 0], h2)) rfl rfl ?_
      exact cp_no (d := 1) 5 (by decide) rfl rfl z2 y2 fr
    have c3 : 0 ≤ n.toInt := c3
    have no1 : sm_Go cp_B (sm_Ex 200 sm_ML sm_B 2) (cp_Q [.ref 0, .int r, .int i, .int t, .int j, .int n] h) 47 [(0, .ref 0), (1, .int r), (2, .int i), (3, .int t), (4, .int j), (5, .int n)] [] h2 := by
      refine sm_go_st (i := .aload_n 0) (n := 1) (t := (48, [(0, .ref 0), (1, .int r), (2, .int i), (3, .int t), (4, .int j), (5, .int n)], [.ref 0], h2)) rfl rfl ?_
      refine sm_go_st (i := .iconst 1) (n := 1) (t := (49, [(0, .ref 0), (1, .int r), (2, .int i), (3, .int t), (4, .int j), (5, .int n)], [.int 1, .ref 0], h2)) rfl rfl ?_
      exact cp_no (d := 1) 1 (by decide) rfl rfl z2 y2 fr
    refine sm_go_st (i := .aload_n 0) (n := 1) (t := (28, [(0, .ref 0), (1, .int r), (2, .int i), (3, .int t), (4, .int j), (5, .int n)], [.ref 0], h2)) rfl rfl ?_
    refine sm_go_gf (r := []) (v := .ref 1) rfl rfl m0 m1 ?_
    refine sm_go_st (i := .iload_n 1) (n := 1) (t := (32, [(0, .ref 0), (1, .int r), (2, .int i), (3, .int t), (4, .int j), (5, .int n)], [.int r, .ref 1], h2)) rfl rfl ?_
    refine sm_go_ia (r := []) rfl p1 (by decide) inr ?_
    refine sm_go_st (i := .iconst (-1)) (n := 1) (t := (34, [(0, .ref 0), (1, .int r), (2, .int i), (3, .int t), (4, .int j), (5, .int n)], [.int (-1), .int (fz r.toNatClampNeg)], h2)) rfl rfl ?_
    refine sm_go_ic (t := 47) (q := .eq) (off := 13) rfl rfl (fun _ => no1) (fun c4 => ?_)
    refine sm_go_st (i := .aload_n 0) (n := 1) (t := (38, [(0, .ref 0), (1, .int r), (2, .int i), (3, .int t), (4, .int j), (5, .int n)], [.ref 0], h2)) rfl rfl ?_
    refine sm_go_gf (r := []) (v := .ref 1) rfl rfl m0 m1 ?_
    refine sm_go_st (i := .iload_n 3) (n := 1) (t := (42, [(0, .ref 0), (1, .int r), (2, .int i), (3, .int t), (4, .int j), (5, .int n)], [.int t, .ref 1], h2)) rfl rfl ?_
    refine sm_go_ia (r := []) rfl p1 (by decide) int ?_
    refine sm_go_st (i := .iconst (-1)) (n := 1) (t := (44, [(0, .ref 0), (1, .int r), (2, .int i), (3, .int t), (4, .int j), (5, .int n)], [.int (-1), .int (fz t.toNatClampNeg)], h2)) rfl rfl ?_
    refine sm_go_ic (t := 53) (q := .ne) (off := 9) rfl rfl (fun c5 => ?_) (fun _ => no1)
    have no2 : sm_Go cp_B (sm_Ex 200 sm_ML sm_B 2) (cp_Q [.ref 0, .int r, .int i, .int t, .int j, .int n] h) 84 [(0, .ref 0), (1, .int r), (2, .int i), (3, .int t), (4, .int j), (5, .int n)] [] h2 := by
      refine sm_go_st (i := .aload_n 0) (n := 1) (t := (85, [(0, .ref 0), (1, .int r), (2, .int i), (3, .int t), (4, .int j), (5, .int n)], [.ref 0], h2)) rfl rfl ?_
      refine sm_go_st (i := .iconst 2) (n := 1) (t := (86, [(0, .ref 0), (1, .int r), (2, .int i), (3, .int t), (4, .int j), (5, .int n)], [.int 2, .ref 0], h2)) rfl rfl ?_
      exact cp_no (d := 1) 2 (by decide) rfl rfl z2 y2 fr
    refine sm_go_st (i := .iload_n 2) (n := 1) (t := (54, [(0, .ref 0), (1, .int r), (2, .int i), (3, .int t), (4, .int j), (5, .int n)], [.int i], h2)) rfl rfl ?_
    refine sm_go_st (i := .iload 5) (n := 2) (t := (56, [(0, .ref 0), (1, .int r), (2, .int i), (3, .int t), (4, .int j), (5, .int n)], [.int n, .int i], h2)) rfl rfl ?_
    refine sm_go_st (i := .aload_n 0) (n := 1) (t := (57, [(0, .ref 0), (1, .int r), (2, .int i), (3, .int t), (4, .int j), (5, .int n)], [.ref 0, .int n, .int i], h2)) rfl rfl ?_
    refine sm_go_gf (r := [.int n, .int i]) (v := .ref 1) rfl rfl m0 m1 ?_
    refine sm_go_st (i := .iload_n 1) (n := 1) (t := (61, [(0, .ref 0), (1, .int r), (2, .int i), (3, .int t), (4, .int j), (5, .int n)], [.int r, .ref 1, .int n, .int i], h2)) rfl rfl ?_
    refine sm_go_ia (r := [.int n, .int i]) rfl p1 (by decide) inr ?_
    obtain ⟨b1, u1, v1⟩ := cp_ib (d := 1) i n (fz r.toNatClampNeg) h2
    refine sm_go_cl (i := .invokestatic 88) (n := 3) (k := 9) (vs := [.int i, .int n, .int (fz r.toNatClampNeg)]) (r := []) rfl ⟨rfl, by decide, Or.inr (Or.inl ⟨88, 2, rfl, rfl, rfl⟩)⟩ u1 ?_
    refine sm_go_if (t := 84) (q := .ne) (off := 19) rfl rfl (fun _ => no2) (fun c6 => ?_)
    have c6 : ¬ ¬ b1.toInt = 0 := c6
    have w1 := v1 (Classical.not_not.mp c6)
    refine sm_go_st (i := .iload 4) (n := 2) (t := (70, [(0, .ref 0), (1, .int r), (2, .int i), (3, .int t), (4, .int j), (5, .int n)], [.int j], h2)) rfl rfl ?_
    refine sm_go_st (i := .iload 5) (n := 2) (t := (72, [(0, .ref 0), (1, .int r), (2, .int i), (3, .int t), (4, .int j), (5, .int n)], [.int n, .int j], h2)) rfl rfl ?_
    refine sm_go_st (i := .aload_n 0) (n := 1) (t := (73, [(0, .ref 0), (1, .int r), (2, .int i), (3, .int t), (4, .int j), (5, .int n)], [.ref 0, .int n, .int j], h2)) rfl rfl ?_
    refine sm_go_gf (r := [.int n, .int j]) (v := .ref 1) rfl rfl m0 m1 ?_
    refine sm_go_st (i := .iload_n 3) (n := 1) (t := (77, [(0, .ref 0), (1, .int r), (2, .int i), (3, .int t), (4, .int j), (5, .int n)], [.int t, .ref 1, .int n, .int j], h2)) rfl rfl ?_
    refine sm_go_ia (r := [.int n, .int j]) rfl p1 (by decide) int ?_
    obtain ⟨b2, u2, v2⟩ := cp_ib (d := 1) j n (fz t.toNatClampNeg) h2
    refine sm_go_cl (i := .invokestatic 88) (n := 3) (k := 9) (vs := [.int j, .int n, .int (fz t.toNatClampNeg)]) (r := []) rfl ⟨rfl, by decide, Or.inr (Or.inl ⟨88, 2, rfl, rfl, rfl⟩)⟩ u2 ?_
    refine sm_go_if (t := 90) (q := .eq) (off := 9) rfl rfl (fun c7 => ?_) (fun _ => no2)
    have c7 : b2.toInt = 0 := c7
    have w2 := v2 c7
    have n9 := n.toInt_lt
    have sb : ∀ x : Int32, -1 ≤ x.toInt → x.toInt ≤ 40 → (x - n).toInt = x.toInt - n.toInt := fun x a b => by
      rw [Int32.toInt_sub, Int.bmod_eq_of_le (by omega) (by omega)]
    rw [sb _ sr.1 sr.2] at w1
    rw [sb _ stt.1 stt.2] at w2
    obtain ⟨g, g0, g1⟩ := cp_rows z2
    obtain ⟨fa, ga⟩ := cp_row z2 r.toNatClampNeg (by omega)
    obtain ⟨fb, gb⟩ := cp_row z2 t.toNatClampNeg (by omega)
    refine sm_go_st (i := .aload_n 0) (n := 1) (t := (91, [(0, .ref 0), (1, .int r), (2, .int i), (3, .int t), (4, .int j), (5, .int n)], [.ref 0], h2)) rfl rfl ?_
    refine sm_go_gf (r := []) (v := .ref 2) rfl rfl m0 m2 ?_
    refine sm_go_st (i := .iload_n 1) (n := 1) (t := (95, [(0, .ref 0), (1, .int r), (2, .int i), (3, .int t), (4, .int j), (5, .int n)], [.int r, .ref 2], h2)) rfl rfl ?_
    refine sm_go_aa (r := []) rfl g0 (by decide) inr (g1 _ (by omega)) ?_
    refine sm_go_st (i := .iload_n 2) (n := 1) (t := (97, [(0, .ref 0), (1, .int r), (2, .int i), (3, .int t), (4, .int j), (5, .int n)], [.int i, .ref (3 + r.toNatClampNeg)], h2)) rfl rfl ?_
    refine sm_go_st (i := .aload_n 0) (n := 1) (t := (98, [(0, .ref 0), (1, .int r), (2, .int i), (3, .int t), (4, .int j), (5, .int n)], [.ref 0, .int i, .ref (3 + r.toNatClampNeg)], h2)) rfl rfl ?_
    refine sm_go_gf (r := [.int i, .ref (3 + r.toNatClampNeg)]) (v := .ref 2) rfl rfl m0 m2 ?_
    refine sm_go_st (i := .iload_n 3) (n := 1) (t := (102, [(0, .ref 0), (1, .int r), (2, .int i), (3, .int t), (4, .int j), (5, .int n)], [.int t, .ref 2, .int i, .ref (3 + r.toNatClampNeg)], h2)) rfl rfl ?_
    refine sm_go_aa (r := [.int i, .ref (3 + r.toNatClampNeg)]) rfl g0 (by decide) int (g1 _ (by omega)) ?_
    refine sm_go_st (i := .iload 4) (n := 2) (t := (105, [(0, .ref 0), (1, .int r), (2, .int i), (3, .int t), (4, .int j), (5, .int n)], [.int j, .ref (3 + t.toNatClampNeg), .int i, .ref (3 + r.toNatClampNeg)], h2)) rfl rfl ?_
    refine sm_go_st (i := .iload 5) (n := 2) (t := (107, [(0, .ref 0), (1, .int r), (2, .int i), (3, .int t), (4, .int j), (5, .int n)], [.int n, .int j, .ref (3 + t.toNatClampNeg), .int i, .ref (3 + r.toNatClampNeg)], h2)) rfl rfl ?_
    have xi := aw_ix (i := i) w1.1
    have xj := aw_ix (i := j) w2.1
    have xn := aw_ix (i := n) c3
    refine sm_go_ac rfl rfl ga gb (cp_nl w1.1) (cp_nl w2.1) (cp_nl c3) (by omega) (by omega) ?_
    generalize hg : h2.set (3 + t.toNatClampNeg) (.inl (0, 40, .inl (va_cpy fa fb i.toNatClampNeg j.toNatClampNeg n.toNatClampNeg))) = h3
    have z3 : aw_h cp_H h3 := by rw [← hg]; exact cp_set z2 _ (by omega) _
    have y3 : ps_h h3 := by
      rw [← hg]
      refine ps_P _ _ _ ?_ y2
      have k : ∀ b ∈ ai_pc, 9 < b := by decide
      intro z
      have := k _ z
      omega
    refine sm_go_st (i := .iconst 1) (n := 1) (t := (111, [(0, .ref 0), (1, .int r), (2, .int i), (3, .int t), (4, .int j), (5, .int n)], [.int 1], h3)) rfl rfl ?_
    refine sm_go_rt (o := some (.int 1)) (i := .ireturn) (n := 1) rfl ⟨rfl, Or.inl ⟨rfl, 1, rfl, rfl, Or.inl rfl⟩⟩ ⟨y3, fun a ha => ?_, cp_end z3 1 (Or.inr (Or.inr rfl))⟩
    have hne : 3 + t.toNatClampNeg ≠ a := by
      intro z
      apply ha
      rw [← z]
      rcases (show t.toNatClampNeg = 0 ∨ t.toNatClampNeg = 1 ∨ t.toNatClampNeg = 2 ∨ t.toNatClampNeg = 3 ∨ t.toNatClampNeg = 4 ∨ t.toNatClampNeg = 5 by omega) with q | q | q | q | q | q <;> rw [q] <;> decide
    rw [← hg, List.getElem?_set_ne hne]
    exact fr a ha
  | [], hv => exact hv.elim
  | [_], hv => exact hv.2.elim
  | [_, _], hv => exact hv.2.2.elim
  | [_, _, _], hv => exact hv.2.2.2.elim
  | [_, _, _, _], hv => exact hv.2.2.2.2.elim
  | [_, _, _, _, _], hv => exact hv.2.2.2.2.2.elim
  | _ :: _ :: _ :: _ :: _ :: _ :: _ :: _, hv => exact hv.2.2.2.2.2.2.elim
/-! What was walked by hand, gathered: all contracts of the class hold. -/
theorem ko_perm {Psi : List va_E → Prop} {X : sm_X} {k : Nat} {A : List aw_V} {H H' : aw_H} {W : List Nat} {E : List (List ar_R × Option aw_V × aw_H)} (hs : ∀ q ∈ H, q ∈ H') (hc : ak_ok Psi X (k, A, H, W, E)) : ak_ok Psi X (k, A, H', W, E) :=
  fun vs h hv hh hp => hc vs h hv (fun q hq => hh q (hs q hq)) hp
theorem ko_sw {q r : Nat × aw_A} : ∀ x ∈ [q, r], x ∈ [r, q] := by
  intro x hx
  simp only [List.mem_cons, List.not_mem_nil, or_false] at hx ⊢
  exact hx.symm
theorem ko_d2 : ak_ok ps_h (sm_Ex 200 sm_ML sm_B 1) kcc2 :=
  ko_perm (H := [(47, dt_o 47 [(-1, 40)]), (42, dt_o 42 [(0, 40)])]) ko_sw (dt_ok (d := 0) (t := 47) (o := 42) (rt := [(-1, 40)]) (by decide) (by decide) (by decide) (by decide) (by decide))
theorem ko_d3 : ak_ok ps_h (sm_Ex 200 sm_ML sm_B 1) kcc3 :=
  dt_ok (d := 0) (t := 42) (o := 47) (rt := [(0, 40)]) (by decide) (by decide) (by decide) (by decide) (by decide)
theorem ko_d4 : ak_ok ps_h (sm_Ex 200 sm_ML sm_B 1) kcc4 :=
  ko_perm (H := [(51, dt_o 51 [(-1, 40)]), (42, dt_o 42 [(0, 40)])]) ko_sw (dt_ok (d := 0) (t := 51) (o := 42) (rt := [(-1, 40)]) (by decide) (by decide) (by decide) (by decide) (by decide))
theorem ko_d5 : ak_ok ps_h (sm_Ex 200 sm_ML sm_B 1) kcc5 :=
  dt_ok (d := 0) (t := 42) (o := 51) (rt := [(0, 40)]) (by decide) (by decide) (by decide) (by decide) (by decide)
theorem ko_d6 : ak_ok ps_h (sm_Ex 200 sm_ML sm_B 1) kcc6 :=
  ko_perm (H := [(55, dt_o 55 [(-1, 40)]), (42, dt_o 42 [(0, 40)])]) ko_sw (dt_ok (d := 0) (t := 55) (o := 42) (rt := [(-1, 40)]) (by decide) (by decide) (by decide) (by decide) (by decide))
theorem ko_d7 : ak_ok ps_h (sm_Ex 200 sm_ML sm_B 1) kcc7 :=
  dt_ok (d := 0) (t := 42) (o := 55) (rt := [(0, 40)]) (by decide) (by decide) (by decide) (by decide) (by decide)
theorem ko_a0 : ak_ok ps_h (sm_Ex 200 sm_ML sm_B 1) kcc0 :=
  da_ok (d := 0) [(0, 0), (2, 3)] ar_t32 (fun x y hx _ e => by
    subst e
    obtain ⟨q, hq, h1, h2⟩ := hx
    simp only [List.mem_cons, List.not_mem_nil, or_false] at hq
    rcases hq with rfl | rfl
    · exact absurd h2 (by decide)
    · exact absurd h1 (by decide))
theorem ko_a1 : ak_ok ps_h (sm_Ex 200 sm_ML sm_B 1) kcc1 :=
  da_ok (d := 0) [(1, 1)] [(0, 7)] (fun x y _ hy _ => ar_1 hy)
theorem ko_h : ko_H ps_h := ⟨ko_a0, ko_a1, ko_d2, ko_d3, ko_d4, ko_d5, ko_d6, ko_d7, dg_ok, cp_ok⟩
