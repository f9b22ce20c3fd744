section FW
variable {d : Nat} {B : sm_P} {pc : Nat} {ls st : List Value} {M : fl_M} {J : fl_J} {s s' : fl_S}
/-- what is to be known of a method's tables -/
def fw_B (B : sm_P) : Prop := fl_K B.2.1 ∧ (∀ x q, B.2.1.1 x = some q → q.1 < 4) ∧ ut_B B
theorem fw_1 (hB : fw_B B) {i : Instr} {n : Nat} (hi : B.1 pc = some (i, n)) (hc : fw_c B.2.1 i n pc ls st = true) (hf : fl_step B.2.1 i pc ls st M J = some s') (k : fw d B s') : fw d B (pc, ls, st, M, J) := by
  intro h lv hH hl
  obtain ⟨hh, rfl, rfl⟩ := hH
  obtain ⟨t, ls', h1, h2, h3, h4⟩ := fw_st hB.1 hB.2.1 hc hh hl
  have h2 := hf.symm.trans h2
  cases h2
  obtain ⟨g, o, h', hr⟩ := k t.2.2.2 t.2.1 ⟨h3, rfl, rfl⟩ h4
  exact ⟨g + 1, o, h', ⟨i, n, hi, Or.inr (Or.inl ⟨t, h1, hr⟩)⟩⟩
/-- many of them -/
def fw_m (B : sm_P) : Nat → fl_S → Option fl_S
  | 0, s => some s
  | m + 1, s => (B.1 s.1).bind fun q => if fw_c B.2.1 q.1 q.2 s.1 s.2.1 s.2.2.1 = true then (fl_step B.2.1 q.1 s.1 s.2.1 s.2.2.1 s.2.2.2.1 s.2.2.2.2).bind (fw_m B m) else none
theorem fw_n (hB : fw_B B) (m : Nat) : ∀ {s s' : fl_S}, fw_m B m s = some s' → fw d B s' → fw d B s := by
  induction m with
  | zero => intro s s' h k; cases h; exact k
  | succ m ih =>
    intro s s' h k
    unfold fw_m at h
    obtain ⟨q, hq, h⟩ := sm_bd h
    obtain ⟨h1, h⟩ := sm_if h
    obtain ⟨t, ht, h⟩ := sm_bd h
    exact fw_1 (pc := s.1) (ls := s.2.1) (st := s.2.2.1) (M := s.2.2.2.1) (J := s.2.2.2.2) hB hq h1 ht (ih h k)
theorem fw_ic (hB : fw_B B) {q : Jvm.ClassFile.Cond} {off : Int} {t : Nat} {x y : Int32} {c : Prop} [Decidable c] (hi : B.1 pc = some (.if_icmp q off, 3)) (ht : sm_j pc off = some t) (hb : sm_cmp q x y = true ↔ c) (k1 : c → fw d B (t, ls, st, M, J)) (k2 : ¬ c → fw d B (pc + 3, ls, st, M, J)) : fw d B (pc, ls, .int y :: .int x :: st, M, J) := by
  refine fw_1 (s' := (if sm_cmp q x y = true then t else pc + 3, ls, st, M, J)) hB hi ?_ ?_ ?_
  · show (Nat.beq 3 3 && ((sm_j pc off).isSome && (true && true))) = true
    rw [ht]
    rfl
  · show (sm_j pc off).bind _ = _
    rw [ht]
    rfl
  · by_cases hc : c
    · rw [if_pos (hb.mpr hc)]; exact k1 hc
    · rw [if_neg (fun z => hc (hb.mp z))]; exact k2 hc
theorem fw_if (hB : fw_B B) {q : Jvm.ClassFile.Cond} {off : Int} {t : Nat} {x : Int32} {c : Prop} [Decidable c] (hi : B.1 pc = some (.ifCond q off, 3)) (ht : sm_j pc off = some t) (hb : sm_cmp q x 0 = true ↔ c) (k1 : c → fw d B (t, ls, st, M, J)) (k2 : ¬ c → fw d B (pc + 3, ls, st, M, J)) : fw d B (pc, ls, .int x :: st, M, J) := by
  refine fw_1 (s' := (if sm_cmp q x 0 = true then t else pc + 3, ls, st, M, J)) hB hi ?_ ?_ ?_
  · show (Nat.beq 3 3 && ((sm_j pc off).isSome && true)) = true
    rw [ht]
    rfl
  · show (sm_j pc off).bind _ = _
    rw [ht]
    rfl
  · by_cases hc : c
    · rw [if_pos (hb.mpr hc)]; exact k1 hc
    · rw [if_neg (fun z => hc (hb.mp z))]; exact k2 hc
/-- a step known as such -/
theorem fw_s (hB : fw_B B) {i : Instr} {n : Nat} {pc' : Nat} {st' : List Value} {M' : fl_M} {J' : fl_J} (hi : B.1 pc = some (i, n)) (hs : ∀ (h : List va_E) (lv : sm_L), fw_H M J h → fw_lr B.2.1.2.2.2.2.2.1 lv ls → ∃ h', sm_step B.2.1 i n pc lv st h = some (pc', lv, st', h')) (hf : fl_step B.2.1 i pc ls st M J = some (pc', ls, st', M', J')) (k : fw d B (pc', ls, st', M', J')) : fw d B (pc, ls, st, M, J) := by
  intro h lv hH hl
  obtain ⟨h1, hs1⟩ := hs h lv hH hl
  obtain ⟨hh, rfl, rfl⟩ := hH
  obtain ⟨ls2, f1, f2, f3⟩ := fl_sim hB.1 hs1 hl.1 hh
  have f1 := hf.symm.trans f1
  cases f1
  obtain ⟨g, o, h', hr⟩ := k h1 lv ⟨f3, rfl, rfl⟩ hl
  exact ⟨g + 1, o, h', ⟨i, n, hi, Or.inr (Or.inl ⟨_, hs1, hr⟩)⟩⟩
theorem fw_ia (hB : fw_B B) {a : Nat} {i : Int32} (hi : B.1 pc = some (.iaload, 1)) (hk : fl_kd a = 0) (ha : a < 98) (h1 : 0 ≤ i.toInt) (h2 : i.toInt < (fl_len a : Int)) (k : fw d B (pc + 1, ls, .int (M a i.toNatClampNeg) :: st, M, J)) : fw d B (pc, ls, .int i :: .ref a :: st, M, J) := by
  refine fw_s (st' := .int (M a i.toNatClampNeg) :: st) hB hi (fun h lv hH hl => ⟨h, ?_⟩) rfl k
  obtain ⟨hh, rfl, rfl⟩ := hH
  have he := fw_arr hh hk (by decide) ha
  show (if a = 999 then _ else if a = 998 then _ else (sm_ints h a).bind _) = _
  rw [if_neg (by omega), if_neg (by omega), aw_ints_of he]
  show (if i < 0 ∨ fl_len a ≤ i.toNatClampNeg then none else _) = _
  rw [if_neg (by rw [fi_l, fi_i0, fi_cl]; omega)]
theorem fw_k9 (hB : fw_B B) {i : Int32} (hi : B.1 pc = some (.iaload, 1)) (h1 : 0 ≤ i.toInt) (h2 : i.toInt < 6) (k : fw d B (pc + 1, ls, .int (M 999 i.toNatClampNeg) :: st, M, J)) : fw d B (pc, ls, .int i :: .ref 999 :: st, M, J) := by
  refine fw_s (st' := .int (M 999 i.toNatClampNeg) :: st) hB hi (fun h lv hH hl => ⟨h, ?_⟩) rfl k
  obtain ⟨hh, rfl, rfl⟩ := hH
  show (if i < 0 ∨ 6 ≤ i.toNatClampNeg then none else some (pc + 1, lv, Value.int (sm_kl i.toNatClampNeg) :: st, h)) = _
  rw [if_neg (by rw [fi_l, fi_i0, fi_cl]; omega)]
  rfl
theorem fw_ba (hB : fw_B B) {a : Nat} {i : Int32} (hi : B.1 pc = some (.baload, 1)) (hk : fl_kd a = 1) (ha : a < 98) (h1 : 0 ≤ i.toInt) (h2 : i.toInt < (fl_len a : Int)) (k : fw d B (pc + 1, ls, .int (M a i.toNatClampNeg) :: st, M, J)) : fw d B (pc, ls, .int i :: .ref a :: st, M, J) := by
  refine fw_s (st' := .int (M a i.toNatClampNeg) :: st) hB hi (fun h lv hH hl => ⟨h, ?_⟩) rfl k
  obtain ⟨hh, rfl, rfl⟩ := hH
  have he := fw_arr hh hk (by decide) ha
  show (sm_byts h a).bind _ = _
  rw [aw_byts_of he]
  show (if i < 0 ∨ fl_len a ≤ i.toNatClampNeg then none else _) = _
  rw [if_neg (by rw [fi_l, fi_i0, fi_cl]; omega)]
theorem fw_aa (hB : fw_B B) {a : Nat} {i : Int32} (hi : B.1 pc = some (.aaload, 1)) (hk : 2 ≤ fl_kd a ∧ fl_kd a < 5) (ha : a < 98) (h1 : 0 ≤ i.toInt) (h2 : i.toInt < (fl_len a : Int)) (k : fw d B (pc + 1, ls, .ref (fl_ar a i.toNatClampNeg) :: st, M, J)) : fw d B (pc, ls, .int i :: .ref a :: st, M, J) := by
  refine fw_s (st' := .ref (fl_ar a i.toNatClampNeg) :: st) hB hi (fun h lv hH hl => ⟨h, ?_⟩) rfl k
  obtain ⟨hh, rfl, rfl⟩ := hH
  obtain ⟨f, he, hf⟩ := fw_refs hh rfl hk.1 hk.2 ha
  have hr : sm_refs h a = some (fl_kd a, fl_len a, f) := by unfold sm_refs; rw [he]; exact if_pos hk
  show (sm_refs h a).bind _ = _
  rw [hr]
  show (if i < 0 ∨ fl_len a ≤ i.toNatClampNeg then none else (f i.toNatClampNeg).bind _) = _
  rw [if_neg (by rw [fi_l, fi_i0, fi_cl]; omega), hf _ (by rw [fi_cl]; omega)]
  rfl
theorem fw_ia2 (hB : fw_B B) {a : Nat} {i x : Int32} (hi : B.1 pc = some (.iastore, 1)) (hk : fl_kd a = 0) (ha : a < 98) (h1 : 0 ≤ i.toInt) (h2 : i.toInt < (fl_len a : Int)) (k : fw d B (pc + 1, ls, st, fl_u M a i.toNatClampNeg x, J)) : fw d B (pc, ls, .int x :: .int i :: .ref a :: st, M, J) := by
  refine fw_s (st' := st) hB hi (fun h lv hH hl => ?_) rfl k
  obtain ⟨hh, rfl, rfl⟩ := hH
  have he := fw_arr hh hk (by decide) ha
  refine ⟨h.set a (.inl (0, fl_len a, .inl (upd (fm_i h a) i.toNatClampNeg x))), ?_⟩
  show (sm_ints h a).bind _ = _
  rw [aw_ints_of he]
  show (if i < 0 ∨ fl_len a ≤ i.toNatClampNeg then none else _) = _
  rw [if_neg (by rw [fi_l, fi_i0, fi_cl]; omega)]
/-- what is to be known of a call: a run of it is there, and what it answers -/
def fw_C (d k : Nat) (vs : List Value) (M : fl_M) (J : fl_J) : Prop := ∀ h : List va_E, fw_H M J h → ∃ o h', sm_Ex 200 sm_ML sm_B d k vs h o h'
theorem fw_call (hB : fw_B B) {i : Instr} {n k : Nat} {vs r : List Value} {o : Option Value} {M' : fl_M} {J' : fl_J} (hi : B.1 pc = some (i, n)) (hc : ∀ h, fw_H M J h → sm_cal B.2.2.1 i n st h k vs r) (hx : fw_C d k vs M J) (hF : fl_C k vs M J (o, M', J')) (kk : fw d B (pc + 3, ls, o.toList ++ r, M', J')) : fw d B (pc, ls, st, M, J) := by
  intro h lv hH hl
  have hc1 := hc h hH
  obtain ⟨o1, h1, x⟩ := hx h hH
  obtain ⟨hh, rfl, rfl⟩ := hH
  obtain ⟨s1, e1, e2, e3⟩ := fl_use x hh hF
  obtain ⟨g, o2, h', hr⟩ := kk h1 lv ⟨s1, e2, e3⟩ hl
  have e1 : o1 = o := e1
  subst e1
  exact ⟨g + 1, o2, h', ⟨i, n, hi, Or.inr (Or.inr ⟨k, vs, r, o1, h1, hc1, x, hr⟩)⟩⟩
theorem fw_re {i : Instr} {n : Nat} {o : Option Value} (hi : B.1 pc = some (i, n)) (hr : sm_ret B.2.2.2 i n st o) : fw d B (pc, ls, st, M, J) := fun h _ _ _ => ⟨1, o, h, ⟨i, n, hi, Or.inl ⟨hr, rfl⟩⟩⟩
end FW

/-! Both at once: a run is there, and what it comes to. -/
def tw (d : Nat) (B : sm_P) (s : fl_S) (r : fl_Q) : Prop := fw d B s ∧ fl_dn B s r
def tw_C (d k : Nat) (vs : List Value) (M : fl_M) (J : fl_J) (r : fl_Q) : Prop := fw_C d k vs M J ∧ fl_C k vs M J r
theorem fw_go1 {B : sm_P} {i : Instr} {n pc : Nat} {ls st : List Value} {M : fl_M} {J : fl_J} {s' : fl_S} (hi : B.1 pc = some (i, n)) (hc : fw_c B.2.1 i n pc ls st = true) (hf : fl_step B.2.1 i pc ls st M J = some s') : fl_go B (pc, ls, st, M, J) s' := by
  refine fl_i1 (fun d f => ?_)
  have e : fl_one B (fl_ex d f) (pc, ls, st, M, J) = (fl_step B.2.1 i pc ls st M J).map .inr := by
    unfold fl_one
    dsimp only
    rw [hi]
    cases i with
    | ireturn => cases hc
    | lreturn => cases hc
    | return_ => cases hc
    | invokevirtual x => cases hc
    | invokestatic x => cases hc
    | _ => rfl
  rw [e, hf]
  rfl
theorem fw_gon {B : sm_P} (m : Nat) : ∀ {s s' : fl_S}, fw_m B m s = some s' → fl_go B s s' := by
  induction m with
  | zero => intro s s' h; cases h; exact fl_rfl
  | succ m ih =>
    intro s s' h
    unfold fw_m at h
    obtain ⟨q, hq, h⟩ := sm_bd h
    obtain ⟨h1, h⟩ := sm_if h
    obtain ⟨t, ht, h⟩ := sm_bd h
    exact fl_tr (fw_go1 (pc := s.1) (ls := s.2.1) (st := s.2.2.1) (M := s.2.2.2.1) (J := s.2.2.2.2) hq h1 ht) (ih h)
section TW
variable {d : Nat} {B : sm_P} {pc : Nat} {ls st : List Value} {M : fl_M} {J : fl_J} {s s' : fl_S} {r : fl_Q}
theorem tw_n (hB : fw_B B) (m : Nat) (h : fw_m B m s = some s') (k : tw d B s' r) : tw d B s r := ⟨fw_n hB m h k.1, fl_td (fw_gon m h) k.2⟩
theorem tw_ic (hB : fw_B B) {q : Jvm.ClassFile.Cond} {off : Int} {t : Nat} {x y : Int32} {c : Prop} [Decidable c] (hi : B.1 pc = some (.if_icmp q off, 3)) (ht : sm_j pc off = some t) (hb : sm_cmp q x y = true ↔ c) (k1 : c → tw d B (t, ls, st, M, J) r) (k2 : ¬ c → tw d B (pc + 3, ls, st, M, J) r) : tw d B (pc, ls, .int y :: .int x :: st, M, J) r :=
  ⟨fw_ic hB hi ht hb (fun z => (k1 z).1) (fun z => (k2 z).1), fl_dtwo (fl_ic hi ht) hb (fun z => (k1 z).2) (fun z => (k2 z).2)⟩
theorem tw_if (hB : fw_B B) {q : Jvm.ClassFile.Cond} {off : Int} {t : Nat} {x : Int32} {c : Prop} [Decidable c] (hi : B.1 pc = some (.ifCond q off, 3)) (ht : sm_j pc off = some t) (hb : sm_cmp q x 0 = true ↔ c) (k1 : c → tw d B (t, ls, st, M, J) r) (k2 : ¬ c → tw d B (pc + 3, ls, st, M, J) r) : tw d B (pc, ls, .int x :: st, M, J) r :=
  ⟨fw_if hB hi ht hb (fun z => (k1 z).1) (fun z => (k2 z).1), fl_dtwo (fl_if hi ht) hb (fun z => (k1 z).2) (fun z => (k2 z).2)⟩
/-- the same, the condition's other way first -/
theorem tw_icN (hB : fw_B B) {q : Jvm.ClassFile.Cond} {off : Int} {t : Nat} {x y : Int32} {c : Prop} [Decidable c] (hi : B.1 pc = some (.if_icmp q off, 3)) (ht : sm_j pc off = some t) (hb : sm_cmp q x y = true ↔ ¬ c) (k1 : c → tw d B (pc + 3, ls, st, M, J) r) (k2 : ¬ c → tw d B (t, ls, st, M, J) r) : tw d B (pc, ls, .int y :: .int x :: st, M, J) r :=
  tw_ic hB hi ht hb k2 (fun z => k1 (Decidable.not_not.mp z))
theorem tw_ifN (hB : fw_B B) {q : Jvm.ClassFile.Cond} {off : Int} {t : Nat} {x : Int32} {c : Prop} [Decidable c] (hi : B.1 pc = some (.ifCond q off, 3)) (ht : sm_j pc off = some t) (hb : sm_cmp q x 0 = true ↔ ¬ c) (k1 : c → tw d B (pc + 3, ls, st, M, J) r) (k2 : ¬ c → tw d B (t, ls, st, M, J) r) : tw d B (pc, ls, .int x :: st, M, J) r :=
  tw_if hB hi ht hb k2 (fun z => k1 (Decidable.not_not.mp z))
theorem tw_ia (hB : fw_B B) {a : Nat} {i : Int32} (hi : B.1 pc = some (.iaload, 1)) (hk : fl_kd a = 0) (ha : a < 98) (h1 : 0 ≤ i.toInt) (h2 : i.toInt < (fl_len a : Int)) (k : tw d B (pc + 1, ls, .int (M a i.toNatClampNeg) :: st, M, J) r) : tw d B (pc, ls, .int i :: .ref a :: st, M, J) r :=
  ⟨fw_ia hB hi hk ha h1 h2 k.1, fl_td (fl_i1 (fun d f => by unfold fl_one; dsimp only; rw [hi]; rfl)) k.2⟩
theorem tw_k9 (hB : fw_B B) {i : Int32} (hi : B.1 pc = some (.iaload, 1)) (h1 : 0 ≤ i.toInt) (h2 : i.toInt < 6) (k : tw d B (pc + 1, ls, .int (M 999 i.toNatClampNeg) :: st, M, J) r) : tw d B (pc, ls, .int i :: .ref 999 :: st, M, J) r :=
  ⟨fw_k9 hB hi h1 h2 k.1, fl_td (fl_i1 (fun d f => by unfold fl_one; dsimp only; rw [hi]; rfl)) k.2⟩
theorem tw_ba (hB : fw_B B) {a : Nat} {i : Int32} (hi : B.1 pc = some (.baload, 1)) (hk : fl_kd a = 1) (ha : a < 98) (h1 : 0 ≤ i.toInt) (h2 : i.toInt < (fl_len a : Int)) (k : tw d B (pc + 1, ls, .int (M a i.toNatClampNeg) :: st, M, J) r) : tw d B (pc, ls, .int i :: .ref a :: st, M, J) r :=
  ⟨fw_ba hB hi hk ha h1 h2 k.1, fl_td (fl_i1 (fun d f => by unfold fl_one; dsimp only; rw [hi]; rfl)) k.2⟩
theorem tw_aa (hB : fw_B B) {a : Nat} {i : Int32} (hi : B.1 pc = some (.aaload, 1)) (hk : 2 ≤ fl_kd a ∧ fl_kd a < 5) (ha : a < 98) (h1 : 0 ≤ i.toInt) (h2 : i.toInt < (fl_len a : Int)) (k : tw d B (pc + 1, ls, .ref (fl_ar a i.toNatClampNeg) :: st, M, J) r) : tw d B (pc, ls, .int i :: .ref a :: st, M, J) r :=
  ⟨fw_aa hB hi hk ha h1 h2 k.1, fl_td (fl_i1 (fun d f => by unfold fl_one; dsimp only; rw [hi]; rfl)) k.2⟩
theorem tw_is (hB : fw_B B) {a : Nat} {i x : Int32} (hi : B.1 pc = some (.iastore, 1)) (hk : fl_kd a = 0) (ha : a < 98) (h1 : 0 ≤ i.toInt) (h2 : i.toInt < (fl_len a : Int)) (k : tw d B (pc + 1, ls, st, fl_u M a i.toNatClampNeg x, J) r) : tw d B (pc, ls, .int x :: .int i :: .ref a :: st, M, J) r :=
  ⟨fw_ia2 hB hi hk ha h1 h2 k.1, fl_td (fl_i1 (fun d f => by unfold fl_one; dsimp only; rw [hi]; rfl)) k.2⟩
/-- calls -/
theorem tw_cv (hB : fw_B B) {x k np ci m b : Nat} {As st0 st' : List Value} {o : Option Value} {M' : fl_M} {J' : fl_J} (hi : B.1 pc = some (.invokevirtual x, 3)) (hc : B.2.2.1 x = some (0, k, np, ci)) (hm : m = np + 1) (hn : np = As.length) (hst : st = As.reverse ++ .ref b :: st0) (hcat : (st0.map fun v => v.category).sum ≤ 8) (hkd : fl_kd b = 10 + ci) (hci : ci < 4) (hC : tw_C d k (.ref b :: As) M J (o, M', J')) (hr : o.toList ++ st0 = st') (kk : tw d B (pc + 3, ls, st', M', J') r) : tw d B (pc, ls, st, M, J) r := by
  subst hst
  subst hn
  subst hr
  refine ⟨fw_call hB hi (fun h hH => ?_) hC.1 hC.2 kk.1, fl_td (fl_cv hi hc hm ?_ hC.2 ?_) kk.2⟩
  · obtain ⟨fs, hf, -⟩ := fw_obj hH.1 hkd hci
    exact ⟨rfl, hcat, Or.inl ⟨x, ci, b, As, rfl, hc, rfl, rfl, fs, hf⟩⟩
  · subst hm
    rw [show As.reverse ++ Value.ref b :: st0 = (As.reverse ++ [.ref b]) ++ st0 by simp, List.take_left' (by simp)]
    simp
  · subst hm
    rw [show As.reverse ++ Value.ref b :: st0 = (As.reverse ++ [.ref b]) ++ st0 by simp, List.drop_left' (by simp)]
theorem tw_cs (hB : fw_B B) {x k np ci t : Nat} {vs st0 st' : List Value} {o : Option Value} {M' : fl_M} {J' : fl_J} (hi : B.1 pc = some (.invokestatic x, 3)) (hc : B.2.2.1 x = some (t, k, np, ci)) (ht : t = 1 ∨ t = 2) (hn : np = vs.length) (hst : st = vs.reverse ++ st0) (hcat : (st0.map fun v => v.category).sum ≤ 8) (hC : tw_C d k vs M J (o, M', J')) (hr : o.toList ++ st0 = st') (kk : tw d B (pc + 3, ls, st', M', J') r) : tw d B (pc, ls, st, M, J) r := by
  subst hst
  subst hn
  subst hr
  refine ⟨fw_call hB hi (fun h hH => ?_) hC.1 hC.2 kk.1, fl_td (fl_cs hi hc ?_ hC.2 ?_) kk.2⟩
  · rcases ht with rfl | rfl
    · exact ⟨rfl, hcat, Or.inr (Or.inl ⟨x, ci, rfl, hc, rfl⟩)⟩
    · exact ⟨rfl, hcat, Or.inr (Or.inr ⟨x, ci, rfl, hc, rfl⟩)⟩
  · rw [List.take_left' (by simp)]
    simp
  · rw [List.drop_left' (by simp)]
theorem tw_ri {v : Int32} (hi : B.1 pc = some (.ireturn, 1)) (hr : B.2.2.2 = some .int) (e : (some (.int v), M, J) = r) : tw d B (pc, ls, [.int v], M, J) r :=
  ⟨fw_re (o := some (.int v)) hi ⟨rfl, Or.inl ⟨rfl, v, rfl, rfl, Or.inl hr⟩⟩, fl_rt hi (fun X => by unfold fl_one; dsimp only; rw [hi]; rfl) e⟩
theorem tw_rb {v : Int32} (hi : B.1 pc = some (.ireturn, 1)) (hr : B.2.2.2 = some .boolean) (hv : v = 0 ∨ v = 1) (e : (some (.int v), M, J) = r) : tw d B (pc, ls, [.int v], M, J) r :=
  ⟨fw_re (o := some (.int v)) hi ⟨rfl, Or.inl ⟨rfl, v, rfl, rfl, Or.inr ⟨hr, hv⟩⟩⟩, fl_rt hi (fun X => by unfold fl_one; dsimp only; rw [hi]; rfl) e⟩
theorem tw_rv (hi : B.1 pc = some (.return_, 1)) (hr : B.2.2.2 = none) (e : (none, M, J) = r) : tw d B (pc, ls, [], M, J) r :=
  ⟨fw_re (o := none) hi ⟨rfl, Or.inr (Or.inr ⟨rfl, rfl, rfl, hr⟩)⟩, fl_rt hi (fun X => by unfold fl_one; dsimp only; rw [hi]; rfl) e⟩
theorem tw_de {r' : fl_Q} (h : tw d B s r') (e : r' = r) : tw d B s r := e ▸ h
theorem tw_dc {c : Prop} [Decidable c] (h1 : c → tw d B s r) (h2 : ¬ c → tw d B s r) : tw d B s r := by
  by_cases hc : c
  · exact h1 hc
  · exact h2 hc
end TW
theorem tw_Co {d k : Nat} {B : sm_P} {vs ls : List Value} {M : fl_M} {J : fl_J} {r : fl_Q} (hk : k < 200) (hB : sm_B k = B) (hl : fl_args (sm_ML k) vs = ls) (hv : (lg_sl vs).length ≤ sm_ML k) (hg : ∀ (i : Nat) (v : Value), ls[i]? = some v → v ≠ .null → sm_get (lv_args 0 vs) i = some v) (h : tw d B (0, ls, [], M, J) r) : tw_C (d + 1) k vs M J r := by
  refine ⟨fun hp hH => ?_, fl_Co hB hl h.2⟩
  have hv2 : (fl_sl vs).length ≤ sm_ML k := by rw [fl_sl_len]; exact hv
  have e : B.2.1.2.2.2.2.2.1 = sm_ML k := by rw [← hB]; rfl
  obtain ⟨g, o, h', hr⟩ := h.1 hp (lv_args 0 vs) hH ⟨⟨by
    rw [e, ← hl]
    unfold fl_args
    rw [List.length_append, List.length_replicate]
    omega, fun q hq => by rw [← hl]; exact fl_sl_at vs [] _ q hq⟩, hg⟩
  exact ⟨o, h', hk, hv, g, by rw [hB]; exact hr⟩
theorem fw_kok : (List.range 4).all (fun o => (sm_fl o).all fun q => decide (q.2.1 < 4)) = true := by decide +kernel
theorem fw_sB {k : Nat} (hk : k < 200) : fw_B (sm_B k) := by
  refine ⟨fl_Kn hk, fun x q h => ?_, ut_sB hk⟩
  have h : sm_lk (sm_fl (sm_O k)) x = some q := h
  obtain ⟨g1, g2, g3, g4, g5, g6, g7, g8, g9⟩ := sm_mgood_all _ (sm_m_in (k := k) (by rw [sm_md_len]; exact hk))
  exact of_decide_eq_true (List.all_eq_true.mp (List.all_eq_true.mp fw_kok (sm_O k) (List.mem_range.mpr g7)) _ (sm_lk_s h))
theorem tw_sh {d : Nat} {B : sm_P} {s : fl_S} {r : fl_Q} (h : tw d B s r) : tw d B s r := h
theorem tw_Ce {d k : Nat} {vs : List Value} {M : fl_M} {J : fl_J} {r r' : fl_Q} (h : tw_C d k vs M J r) (e : r = r') : tw_C d k vs M J r' := e ▸ h
/-! Reading a text: figures, letters of kinds, blanks. -/
def fg (b : Nat → Int32) (n q lo hi : Int32) : Bool := decide (q < n) && (!decide (b q.toNatClampNeg - 48 < lo) && !decide (hi < b q.toNatClampNeg - 48))
