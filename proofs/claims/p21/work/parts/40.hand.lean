/-! Methods walked by hand over the small machine: the tools. -/
def sm_Go (B : sm_P) (X : sm_X) (P : Option Value → List va_E → Prop) (pc : Nat) (lv : sm_L) (st : List Value) (h : List va_E) : Prop := ∃ f o h', sm_rn B X f pc lv st h o h' ∧ P o h'
section HAND
variable {B : sm_P} {X : sm_X} {P : Option Value → List va_E → Prop} {pc : Nat} {lv : sm_L} {st : List Value} {h : List va_E}
theorem sm_go_st {i : Instr} {n : Nat} {t : sm_T} (hi : B.1 pc = some (i, n)) (hs : sm_step B.2.1 i n pc lv st h = some t) (k : sm_Go B X P t.1 t.2.1 t.2.2.1 t.2.2.2) : sm_Go B X P pc lv st h := by
  obtain ⟨f, o, h', hr, hp⟩ := k
  exact ⟨f + 1, o, h', ⟨i, n, hi, Or.inr (Or.inl ⟨t, hs, hr⟩)⟩, hp⟩
theorem sm_go_rt {i : Instr} {n : Nat} {o : Option Value} (hi : B.1 pc = some (i, n)) (hr : sm_ret B.2.2.2 i n st o) (hp : P o h) : sm_Go B X P pc lv st h := ⟨1, o, h, ⟨i, n, hi, Or.inl ⟨hr, rfl⟩⟩, hp⟩
theorem sm_go_cl {i : Instr} {n k : Nat} {vs r : List Value} {o1 : Option Value} {h1 : List va_E} (hi : B.1 pc = some (i, n)) (hc : sm_cal B.2.2.1 i n st h k vs r) (hx : X k vs h o1 h1) (kk : sm_Go B X P (pc + 3) lv (o1.toList ++ r) h1) : sm_Go B X P pc lv st h := by
  obtain ⟨f, o, h', hr, hp⟩ := kk
  exact ⟨f + 1, o, h', ⟨i, n, hi, Or.inr (Or.inr ⟨k, vs, r, o1, h1, hc, hx, hr⟩)⟩, hp⟩
/-- a branch -/
theorem sm_go_ic {q : Jvm.ClassFile.Cond} {off : Int} {t : Nat} {x y : Int32} {r : List Value} (hi : B.1 pc = some (.if_icmp q off, 3)) (ht : sm_j pc off = some t) (k1 : ar_holds q x.toInt y.toInt → sm_Go B X P t lv r h) (k2 : ¬ ar_holds q x.toInt y.toInt → sm_Go B X P (pc + 3) lv r h) : sm_Go B X P pc lv (.int y :: .int x :: r) h := by
  refine sm_go_st (t := (if sm_cmp q x y = true then t else pc + 3, lv, r, h)) hi (show (sm_j pc off).bind _ = _ by rw [ht]; rfl) ?_
  have e := ar_smcmp q x y
  by_cases hc : sm_cmp q x y = true
  · show sm_Go B X P (if sm_cmp q x y = true then t else pc + 3) lv r h
    rw [if_pos hc]
    exact k1 (e.mp hc)
  · show sm_Go B X P (if sm_cmp q x y = true then t else pc + 3) lv r h
    rw [if_neg hc]
    exact k2 (fun z => hc (e.mpr z))
theorem sm_go_if {q : Jvm.ClassFile.Cond} {off : Int} {t : Nat} {x : Int32} {r : List Value} (hi : B.1 pc = some (.ifCond q off, 3)) (ht : sm_j pc off = some t) (k1 : ar_holds q x.toInt 0 → sm_Go B X P t lv r h) (k2 : ¬ ar_holds q x.toInt 0 → sm_Go B X P (pc + 3) lv r h) : sm_Go B X P pc lv (.int x :: r) h := by
  refine sm_go_st (t := (if sm_cmp q x 0 = true then t else pc + 3, lv, r, h)) hi (show (sm_j pc off).bind _ = _ by rw [ht]; rfl) ?_
  have e := ar_smcmp q x 0
  by_cases hc : sm_cmp q x 0 = true
  · show sm_Go B X P (if sm_cmp q x 0 = true then t else pc + 3) lv r h
    rw [if_pos hc]
    exact k1 (e.mp hc)
  · show sm_Go B X P (if sm_cmp q x 0 = true then t else pc + 3) lv r h
    rw [if_neg hc]
    exact k2 (fun z => hc (e.mpr z))
/-- a row's place read, written; a field read, written -/
theorem sm_go_ia {a n : Nat} {f : Nat → Int32} {i : Int32} {r : List Value} (hi : B.1 pc = some (.iaload, 1)) (he : h[a]? = some (.inl (0, n, .inl f))) (ha : a < 998) (hin : ¬ (i < 0 ∨ n ≤ i.toNatClampNeg)) (k : sm_Go B X P (pc + 1) lv (.int (f i.toNatClampNeg) :: r) h) : sm_Go B X P pc lv (.int i :: .ref a :: r) h := by
  refine sm_go_st (t := (pc + 1, lv, .int (f i.toNatClampNeg) :: r, h)) hi ?_ k
  show (if a = 999 then _ else if a = 998 then _ else _) = _
  rw [if_neg (by omega), if_neg (by omega), aw_ints_of he]
  show (if _ then _ else _) = _
  rw [if_neg hin]
theorem sm_go_is {a n : Nat} {f : Nat → Int32} {i x : Int32} {r : List Value} (hi : B.1 pc = some (.iastore, 1)) (he : h[a]? = some (.inl (0, n, .inl f))) (hin : ¬ (i < 0 ∨ n ≤ i.toNatClampNeg)) (k : sm_Go B X P (pc + 1) lv r (h.set a (.inl (0, n, .inl (upd f i.toNatClampNeg x))))) : sm_Go B X P pc lv (.int x :: .int i :: .ref a :: r) h := by
  refine sm_go_st (t := (pc + 1, lv, r, h.set a (.inl (0, n, .inl (upd f i.toNatClampNeg x))))) hi ?_ k
  show (sm_ints h a).bind _ = _
  rw [aw_ints_of he]
  show (if _ then _ else _) = _
  rw [if_neg hin]
theorem sm_go_gf {x ci k t a : Nat} {fs : List Value} {v : Value} {r : List Value} (hi : B.1 pc = some (.getfield x, 3)) (hf : B.2.1.1 x = some (ci, k, t)) (he : h[a]? = some (.inr (ci, fs))) (hv : fs[k]? = some v) (kk : sm_Go B X P (pc + 3) lv (v :: r) h) : sm_Go B X P pc lv (.ref a :: r) h := by
  refine sm_go_st (t := (pc + 3, lv, v :: r, h)) hi ?_ kk
  have ho : sm_obj h a ci = some fs := by unfold sm_obj; rw [he]; exact if_pos rfl
  show (B.2.1.1 x).bind _ = _
  rw [hf]
  show (sm_obj h a ci).bind _ = _
  rw [ho]
  show (fs[k]?).bind _ = _
  rw [hv]
  rfl
theorem sm_go_pf {x ci k a : Nat} {fs : List Value} {v : Int32} {r : List Value} (hi : B.1 pc = some (.putfield x, 3)) (hf : B.2.1.1 x = some (ci, k, 0)) (he : h[a]? = some (.inr (ci, fs))) (hl : k < fs.length) (kk : sm_Go B X P (pc + 3) lv r (h.set a (.inr (ci, fs.set k (.int v))))) : sm_Go B X P pc lv (.int v :: .ref a :: r) h := by
  refine sm_go_st (t := (pc + 3, lv, r, h.set a (.inr (ci, fs.set k (.int v))))) hi ?_ kk
  have ho : sm_obj h a ci = some fs := by unfold sm_obj; rw [he]; exact if_pos rfl
  show (B.2.1.1 x).bind _ = _
  rw [hf]
  show (if (0 : Nat) = 0 then (sm_obj h a ci).bind (fun fs => if k < fs.length then some (pc + 3, lv, r, h.set a (.inr (ci, fs.set k (.int v)))) else none) else none) = _
  rw [if_pos rfl, ho]
  show (if k < fs.length then _ else _) = _
  rw [if_pos hl]
end HAND
/-- a method by hand: what is to be shown -/
theorem sm_hand {Psi : List va_E → Prop} {c : ak_C} {B : sm_P} {d : Nat} (hk : c.1 < 200) (hB : sm_B c.1 = B) (hn : ai_n c.2.1 0 ≤ sm_ML c.1) (H : ∀ (vs : List Value) (h : List va_E), ak_as c.2.1 vs → aw_h c.2.2.1 h → Psi h → sm_Go B (sm_Ex 200 sm_ML sm_B d) (fun o h' => Psi h' ∧ (∀ a, a ∉ c.2.2.2.1 → h'[a]? = h[a]?) ∧ ak_end c vs o h') 0 (lv_args 0 vs) [] h) : ak_ok Psi (sm_Ex 200 sm_ML sm_B (d + 1)) c := by
  intro vs h hv hh hp
  obtain ⟨f, o, h', hr, h1, h2, h3⟩ := H vs h hv hh hp
  obtain ⟨n1, -⟩ := ai_n_s (i := 0) hv
  rw [← hB] at hr
  exact ⟨o, h', ⟨hk, by omega, f, hr⟩, h1, h2, h3⟩
theorem sm_vi {r : ar_R} {w : Value} (h : aw_m (.inr (false, r)) w) : ∃ x : Int32, w = .int x ∧ ar_in x.toInt r := h
theorem ar_1 {x a b : Int} (h : ar_in x [(a, b)]) : a ≤ x ∧ x ≤ b := by
  obtain ⟨q, hq, h1, h2⟩ := h
  rw [List.mem_singleton] at hq
  subst hq
  exact ⟨h1, h2⟩
theorem ar_o {x a b : Int} (h1 : a ≤ x) (h2 : x ≤ b) : ar_in x [(a, b)] := ⟨_, List.mem_cons_self, h1, h2⟩
/-- a checked method's contract -/
theorem ai_ok {Psi : List va_E → Prop} {cs : List ak_C} {c : ak_C} {B : sm_P} {wd : List Nat} {nL nf d fuel : Nat} {hd : List Nat} {fk : List (Nat × aw_G × Int × Nat)} {us : List (Nat × aw_S)} (hk : Nat.blt c.1 200 = true) (hB : sm_B c.1 = B) (hL : sm_ML c.1 = nL) (hP : ∀ (h : List va_E) (a : Nat) (e : va_E), a ∉ ai_pc → Psi h → Psi (h.set a e)) (hcs : ∀ c' ∈ cs, ak_ok Psi (sm_Ex 200 sm_ML sm_B d) c') (e : ai_chk cs c B wd nL nf hd fk fuel us = true) : ak_ok Psi (sm_Ex 200 sm_ML sm_B (d + 1)) c := by
  subst hB
  subst hL
  exact ai_chk_s (Nat.le_of_ble_eq_true hk) hcs hP e
theorem ak_nil {Psi : List va_E → Prop} {X : sm_X} : ∀ c' ∈ ([] : List ak_C), ak_ok Psi X c' := fun _ h => absurd h List.not_mem_nil
theorem ak_cons {Psi : List va_E → Prop} {X : sm_X} {c : ak_C} {cs : List ak_C} (h : ak_ok Psi X c) (hs : ∀ c' ∈ cs, ak_ok Psi X c') : ∀ c' ∈ c :: cs, ak_ok Psi X c' := List.forall_mem_cons.mpr ⟨h, hs⟩

