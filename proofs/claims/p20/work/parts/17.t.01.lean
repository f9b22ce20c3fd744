def tw (d : Nat) (B : sm_P) (s : fl_S) (r : fl_Q) : Prop := fw d B s ∧ fl_dn B s r
def tw_C (d k : Nat) (vs : List Value) (M : fl_M) (J : fl_J) (r : fl_Q) : Prop := fw_C d k vs M J ∧ fl_C k vs M J r
theorem fw_go1 {B : sm_P} {i : Instr} {n pc : Nat} {ls st : List Value} {M : fl_M} {J : fl_J} {s' : fl_S} (hi : B.1 pc = some (i, n)) (hc : fw_c B.2.1 i n pc ls st = true) (hf : fl_step B.2.1 i pc ls st M J = some s') : fl_go B (pc, ls, st, M, J) s' := by
  refine fl_i1 (fun d f => ?_)
  have e : fl_one B (fl_ex d f) (pc, ls, st, M, J) = (fl_step B.2.1 i pc ls st M J).map .inr := by
    unfold fl_one
    dsimp only
    rw [hi]
    cases i with
    | ireturn => cases hc
    | lreturn => cases hc
    | return_ => cases hc
    | invokevirtual x => cases hc
    | invokestatic x => cases hc
    | _ => rfl
  rw [e, hf]
  rfl
theorem fw_gon {B : sm_P} (m : Nat) : ∀ {s s' : fl_S}, fw_m B m s = some s' → fl_go B s s' := by
  induction m with
  | zero => intro s s' h; cases h; exact fl_rfl
  | succ m ih =>
    intro s s' h
    unfold fw_m at h
    obtain ⟨q, hq, h⟩ := sm_bd h
    obtain ⟨h1, h⟩ := sm_if h
    obtain ⟨t, ht, h⟩ := sm_bd h
    exact fl_tr (fw_go1 (pc := s.1) (ls := s.2.1) (st := s.2.2.1) (M := s.2.2.2.1) (J := s.2.2.2.2) hq h1 ht) (ih h)
section TW
variable {d : Nat} {B : sm_P} {pc : Nat} {ls st : List Value} {M : fl_M} {J : fl_J} {s s' : fl_S} {r : fl_Q}
theorem tw_n (hB : fw_B B) (m : Nat) (h : fw_m B m s = some s') (k : tw d B s' r) : tw d B s r := ⟨fw_n hB m h k.1, fl_td (fw_gon m h) k.2⟩
theorem tw_ic (hB : fw_B B) {q : Jvm.ClassFile.Cond} {off : Int} {t : Nat} {x y : Int32} {c : Prop} [Decidable c] (hi : B.1 pc = some (.if_icmp q off, 3)) (ht : sm_j pc off = some t) (hb : sm_cmp q x y = true ↔ c) (k1 : c → tw d B (t, ls, st, M, J) r) (k2 : ¬ c → tw d B (pc + 3, ls, st, M, J) r) : tw d B (pc, ls, .int y :: .int x :: st, M, J) r :=
  ⟨fw_ic hB hi ht hb (fun z => (k1 z).1) (fun z => (k2 z).1), fl_dtwo (fl_ic hi ht) hb (fun z => (k1 z).2) (fun z => (k2 z).2)⟩
theorem tw_if (hB : fw_B B) {q : Jvm.ClassFile.Cond} {off : Int} {t : Nat} {x : Int32} {c : Prop} [Decidable c] (hi : B.1 pc = some (.ifCond q off, 3)) (ht : sm_j pc off = some t) (hb : sm_cmp q x 0 = true ↔ c) (k1 : c → tw d B (t, ls, st, M, J) r) (k2 : ¬ c → tw d B (pc + 3, ls, st, M, J) r) : tw d B (pc, ls, .int x :: st, M, J) r :=
  ⟨fw_if hB hi ht hb (fun z => (k1 z).1) (fun z => (k2 z).1), fl_dtwo (fl_if hi ht) hb (fun z => (k1 z).2) (fun z => (k2 z).2)⟩
/-- the same, the condition's other way first -/
theorem tw_icN (hB : fw_B B) {q : Jvm.ClassFile.Cond} {off : Int} {t : Nat} {x y : Int32} {c : Prop} [Decidable c] (hi : B.1 pc = some (.if_icmp q off, 3)) (ht : sm_j pc off = some t) (hb : sm_cmp q x y = true ↔ ¬ c) (k1 : c → tw d B (pc + 3, ls, st, M, J) r) (k2 : ¬ c → tw d B (t, ls, st, M, J) r) : tw d B (pc, ls, .int y :: .int x :: st, M, J) r :=
  tw_ic hB hi ht hb k2 (fun z => k1 (Decidable.not_not.mp z))
theorem tw_ifN (hB : fw_B B) {q : Jvm.ClassFile.Cond} {off : Int} {t : Nat} {x : Int32} {c : Prop} [Decidable c] (hi : B.1 pc = some (.ifCond q off, 3)) (ht : sm_j pc off = some t) (hb : sm_cmp q x 0 = true ↔ ¬ c) (k1 : c → tw d B (pc + 3, ls, st, M, J) r) (k2 : ¬ c → tw d B (t, ls, st, M, J) r) : tw d B (pc, ls, .int x :: st, M, J) r :=
  tw_if hB hi ht hb k2 (fun z => k1 (Decidable.not_not.mp z))
theorem tw_ia (hB : fw_B B) {a : Nat} {i : Int32} (hi : B.1 pc = some (.iaload, 1)) (hk : fl_kd a = 0) (ha : a < 98) (h1 : 0 ≤ i.toInt) (h2 : i.toInt < (fl_len a : Int)) (k : tw d B (pc + 1, ls, .int (M a i.toNatClampNeg) :: st, M, J) r) : tw d B (pc, ls, .int i :: .ref a :: st, M, J) r :=
  ⟨fw_ia hB hi hk ha h1 h2 k.1, fl_td (fl_i1 (fun d f => by unfold fl_one; dsimp only; rw [hi]; rfl)) k.2⟩
theorem tw_k9 (hB : fw_B B) {i : Int32} (hi : B.1 pc = some (.iaload, 1)) (h1 : 0 ≤ i.toInt) (h2 : i.toInt < 6) (k : tw d B (pc + 1, ls, .int (M 999 i.toNatClampNeg) :: st, M, J) r) : tw d B (pc, ls, .int i :: .ref 999 :: st, M, J) r :=
  ⟨fw_k9 hB hi h1 h2 k.1, fl_td (fl_i1 (fun d f => by unfold fl_one; dsimp only; rw [hi]; rfl)) k.2⟩
theorem tw_ba (hB : fw_B B) {a : Nat} {i : Int32} (hi : B.1 pc = some (.baload, 1)) (hk : fl_kd a = 1) (ha : a < 98) (h1 : 0 ≤ i.toInt) (h2 : i.toInt < (fl_len a : Int)) (k : tw d B (pc + 1, ls, .int (M a i.toNatClampNeg) :: st, M, J) r) : tw d B (pc, ls, .int i :: .ref a :: st, M, J) r :=
  ⟨fw_ba hB hi hk ha h1 h2 k.1, fl_td (fl_i1 (fun d f => by unfold fl_one; dsimp only; rw [hi]; rfl)) k.2⟩
theorem tw_aa (hB : fw_B B) {a : Nat} {i : Int32} (hi : B.1 pc = some (.aaload, 1)) (hk : 2 ≤ fl_kd a ∧ fl_kd a < 5) (ha : a < 98) (h1 : 0 ≤ i.toInt) (h2 : i.toInt < (fl_len a : Int)) (k : tw d B (pc + 1, ls, .ref (fl_ar a i.toNatClampNeg) :: st, M, J) r) : tw d B (pc, ls, .int i :: .ref a :: st, M, J) r :=
  ⟨fw_aa hB hi hk ha h1 h2 k.1, fl_td (fl_i1 (fun d f => by unfold fl_one; dsimp only; rw [hi]; rfl)) k.2⟩
theorem tw_is (hB : fw_B B) {a : Nat} {i x : Int32} (hi : B.1 pc = some (.iastore, 1)) (hk : fl_kd a = 0) (ha : a < 98) (h1 : 0 ≤ i.toInt) (h2 : i.toInt < (fl_len a : Int)) (k : tw d B (pc + 1, ls, st, fl_u M a i.toNatClampNeg x, J) r) : tw d B (pc, ls, .int x :: .int i :: .ref a :: st, M, J) r :=
  ⟨fw_ia2 hB hi hk ha h1 h2 k.1, fl_td (fl_i1 (fun d f => by unfold fl_one; dsimp only; rw [hi]; rfl)) k.2⟩
/-- calls -/
theorem tw_cv (hB : fw_B B) {x k np ci m b : Nat} {As st0 st' : List Value} {o : Option Value} {M' : fl_M} {J' : fl_J} (hi : B.1 pc = some (.invokevirtual x, 3)) (hc : B.2.2.1 x = some (0, k, np, ci)) (hm : m = np + 1) (hn : np = As.length) (hst : st = As.reverse ++ .ref b :: st0) (hcat : (st0.map fun v => v.category).sum ≤ 8) (hkd : fl_kd b = 10 + ci) (hci : ci < 4) (hC : tw_C d k (.ref b :: As) M J (o, M', J')) (hr : o.toList ++ st0 = st') (kk : tw d B (pc + 3, ls, st', M', J') r) : tw d B (pc, ls, st, M, J) r := by
  subst hst
  subst hn
  subst hr
  refine ⟨fw_call hB hi (fun h hH => ?_) hC.1 hC.2 kk.1, fl_td (fl_cv hi hc hm ?_ hC.2 ?_) kk.2⟩
  · obtain ⟨fs, hf, -⟩ := fw_obj hH.1 hkd hci
    exact ⟨rfl, hcat, Or.inl ⟨x, ci, b, As, rfl, hc, rfl, rfl, fs, hf⟩⟩
  · subst hm
    rw [show As.reverse ++ Value.ref b :: st0 = (As.reverse ++ [.ref b]) ++ st0 by simp, List.take_left' (by simp)]
    simp
  · subst hm
    rw [show As.reverse ++ Value.ref b :: st0 = (As.reverse ++ [.ref b]) ++ st0 by simp, List.drop_left' (by simp)]
theorem tw_cs (hB : fw_B B) {x k np ci t : Nat} {vs st0 st' : List Value} {o : Option Value} {M' : fl_M} {J' : fl_J} (hi : B.1 pc = some (.invokestatic x, 3)) (hc : B.2.2.1 x = some (t, k, np, ci)) (ht : t = 1 ∨ t = 2) (hn : np = vs.length) (hst : st = vs.reverse ++ st0) (hcat : (st0.map fun v => v.category).sum ≤ 8) (hC : tw_C d k vs M J (o, M', J')) (hr : o.toList ++ st0 = st') (kk : tw d B (pc + 3, ls, st', M', J') r) : tw d B (pc, ls, st, M, J) r := by
  subst hst
  subst hn
  subst hr
  refine ⟨fw_call hB hi (fun h hH => ?_) hC.1 hC.2 kk.1, fl_td (fl_cs hi hc ?_ hC.2 ?_) kk.2⟩
  · rcases ht with rfl | rfl
    · exact ⟨rfl, hcat, Or.inr (Or.inl ⟨x, ci, rfl, hc, rfl⟩)⟩
    · exact ⟨rfl, hcat, Or.inr (Or.inr ⟨x, ci, rfl, hc, rfl⟩)⟩
  · rw [List.take_left' (by simp)]
    simp
  · rw [List.drop_left' (by simp)]
theorem tw_ri {v : Int32} (hi : B.1 pc = some (.ireturn, 1)) (hr : B.2.2.2 = some .int) (e : (some (.int v), M, J) = r) : tw d B (pc, ls, [.int v], M, J) r :=
  ⟨fw_re (o := some (.int v)) hi ⟨rfl, Or.inl ⟨rfl, v, rfl, rfl, Or.inl hr⟩⟩, fl_rt hi (fun X => by unfold fl_one; dsimp only; rw [hi]; rfl) e⟩
theorem tw_rb {v : Int32} (hi : B.1 pc = some (.ireturn, 1)) (hr : B.2.2.2 = some .boolean) (hv : v = 0 ∨ v = 1) (e : (some (.int v), M, J) = r) : tw d B (pc, ls, [.int v], M, J) r :=
  ⟨fw_re (o := some (.int v)) hi ⟨rfl, Or.inl ⟨rfl, v, rfl, rfl, Or.inr ⟨hr, hv⟩⟩⟩, fl_rt hi (fun X => by unfold fl_one; dsimp only; rw [hi]; rfl) e⟩
theorem tw_rv (hi : B.1 pc = some (.return_, 1)) (hr : B.2.2.2 = none) (e : (none, M, J) = r) : tw d B (pc, ls, [], M, J) r :=
  ⟨fw_re (o := none) hi ⟨rfl, Or.inr (Or.inr ⟨rfl, rfl, rfl, hr⟩)⟩, fl_rt hi (fun X => by unfold fl_one; dsimp only; rw [hi]; rfl) e⟩
theorem tw_de {r' : fl_Q} (h : tw d B s r') (e : r' = r) : tw d B s r := e ▸ h
theorem tw_dc {c : Prop} [Decidable c] (h1 : c → tw d B s r) (h2 : ¬ c → tw d B s r) : tw d B s r := by
  by_cases hc : c
  · exact h1 hc
  · exact h2 hc
end TW
theorem tw_Co {d k : Nat} {B : sm_P} {vs ls : List Value} {M : fl_M} {J : fl_J} {r : fl_Q} (hk : k < 200) (hB : sm_B k = B) (hl : fl_args (sm_ML k) vs = ls) (hv : (lg_sl vs).length ≤ sm_ML k) (hg : ∀ (i : Nat) (v : Value), ls[i]? = some v → v ≠ .null → sm_get (lv_args 0 vs) i = some v) (h : tw d B (0, ls, [], M, J) r) : tw_C (d + 1) k vs M J r := by
  refine ⟨fun hp hH => ?_, fl_Co hB hl h.2⟩
  have hv2 : (fl_sl vs).length ≤ sm_ML k := by rw [fl_sl_len]; exact hv
  have e : B.2.1.2.2.2.2.2.1 = sm_ML k := by rw [← hB]; rfl
  obtain ⟨g, o, h', hr⟩ := h.1 hp (lv_args 0 vs) hH ⟨⟨by
    rw [e, ← hl]
    unfold fl_args
    rw [List.length_append, List.length_replicate]
    omega, fun q hq => by rw [← hl]; exact fl_sl_at vs [] _ q hq⟩, hg⟩
  exact ⟨o, h', hk, hv, g, by rw [hB]; exact hr⟩
theorem fw_kok : (List.range 4).all (fun o => (sm_fl o).all fun q => decide (q.2.1 < 4)) = true := by decide +kernel
theorem fw_sB {k : Nat} (hk : k < 200) : fw_B (sm_B k) := by
  refine ⟨fl_Kn hk, fun x q h => ?_, ut_sB hk⟩
  have h : sm_lk (sm_fl (sm_O k)) x = some q := h
  obtain ⟨g1, g2, g3, g4, g5, g6, g7, g8, g9⟩ := sm_mgood_all _ (sm_m_in (k := k) (by rw [sm_md_len]; exact hk))
  exact of_decide_eq_true (List.all_eq_true.mp (List.all_eq_true.mp fw_kok (sm_O k) (List.mem_range.mpr g7)) _ (sm_lk_s h))
theorem tw_sh {d : Nat} {B : sm_P} {s : fl_S} {r : fl_Q} (h : tw d B s r) : tw d B s r := h
theorem tw_Ce {d k : Nat} {vs : List Value} {M : fl_M} {J : fl_J} {r r' : fl_Q} (h : tw_C d k vs M J r) (e : r = r') : tw_C d k vs M J r' := e ▸ h
/-! Reading a text: figures, letters of kinds, blanks. -/
def fg (b : Nat → Int32) (n q lo hi : Int32) : Bool := decide (q < n) && (!decide (b q.toNatClampNeg - 48 < lo) && !decide (hi < b q.toNatClampNeg - 48))
theorem fg_lt {b : Nat → Int32} {n q lo hi : Int32} (h : fg b n q lo hi = true) : q.toInt < n.toInt := by
  obtain ⟨h1, -⟩ := sm_an h
  exact fi_l.mp (of_decide_eq_true h1)
theorem fg_eq {b : Nat → Int32} {n q lo hi : Int32} (h : q.toInt ≤ n.toInt) : (if q < n then (if (b q.toNatClampNeg) - 48 < lo then q else (if hi < (b q.toNatClampNeg) - 48 then q else (-9))) else n) = if fg b n q lo hi = true then (-9) else q := by
  unfold fg
  by_cases h1 : q < n
  · by_cases h2 : b q.toNatClampNeg - 48 < lo
    · simp [h1, h2]
    · by_cases h3 : hi < b q.toNatClampNeg - 48
      · simp [h1, h2, h3]
      · simp [h1, h2, h3]
  · have e : n = q := by
      rw [fi_l] at h1
      rw [fi_e]
      omega
    simp [h1, e]
/-- the kind that a letter tells -/
def fk (c : Int32) : Int32 := if c = 109 then 0 else if c = 121 then 1 else if c = 111 then 2 else if c = 104 then 3 else if c = 119 then 4 else if c = 103 then 5 else (-9)
theorem fi_p1 {p : Int32} (h : p.toInt < 2147483647) : (p + 1).toInt = p.toInt + 1 := by
  have := p.le_toInt
  rw [fi_add (by rw [fi_i1]; omega) (by rw [fi_i1]; omega), fi_i1]
def fB20 : sm_P := (fun pc => sm_ch sm_t20 pc, sm_Kn 2 2 none, fun x => sm_lk sm_ca2 x, some .int)
theorem cr_20 (d : Nat) (M : fl_M) (J : fl_J) (c : Int32) : tw_C (d + 1) 20 [.int c] M J (some (.int (if (M 999 0) = c then 0 else (if (M 999 1) = c then 1 else (if (M 999 2) = c then 2 else (if (M 999 3) = c then 3 else (if (M 999 4) = c then 4 else (if (M 999 5) = c then 5 else (-9)))))))), M, J) := by
  have hB : fw_B fB20 := fw_sB (k := 20) (by decide)
  refine tw_Co (d := d + 0) (B := fB20) (by decide) rfl rfl (show (1 : Nat) ≤ 2 by decide) ?_ ?_
  · intro i v hv hn
    match i, hv with
    | 0, hv => cases hv; rfl
    | 1, hv => cases hv; exact absurd rfl hn
    | _ + 2, hv => cases hv
  exact tw_n (s' := (12, [.int c, .int 0], [.int 0, .ref 999], M, J)) hB 7 rfl <|
  tw_k9 hB rfl (by decide) (by decide) <|
  tw_n (s' := (14, [.int c, .int 0], [.int c, .int (M 999 0)], M, J)) hB 1 rfl <|
  tw_icN hB (t := 19) rfl rfl fl_cF (fun h1 =>
   tw_n (s' := (18, [.int c, .int 0], [.int 0], M, J)) hB 1 rfl <|
   tw_ri rfl rfl (by first | (simp only [if_pos h1]; done) | rfl)) (fun h1 =>
   tw_n (s' := (12, [.int c, .int 1], [.int 1, .ref 999], M, J)) hB 7 rfl <|
   tw_k9 hB rfl (by decide) (by decide) <|
   tw_n (s' := (14, [.int c, .int 1], [.int c, .int (M 999 1)], M, J)) hB 1 rfl <|
   tw_icN hB (t := 19) rfl rfl fl_cF (fun h2 =>
    tw_n (s' := (18, [.int c, .int 1], [.int 1], M, J)) hB 1 rfl <|
    tw_ri rfl rfl (by first | (simp only [if_neg h1, if_pos h2]; done) | rfl)) (fun h2 =>
    tw_n (s' := (12, [.int c, .int 2], [.int 2, .ref 999], M, J)) hB 7 rfl <|
    tw_k9 hB rfl (by decide) (by decide) <|
    tw_n (s' := (14, [.int c, .int 2], [.int c, .int (M 999 2)], M, J)) hB 1 rfl <|
    tw_icN hB (t := 19) rfl rfl fl_cF (fun h3 =>
     tw_n (s' := (18, [.int c, .int 2], [.int 2], M, J)) hB 1 rfl <|
     tw_ri rfl rfl (by first | (simp only [if_neg h1, if_neg h2, if_pos h3]; done) | rfl)) (fun h3 =>
     tw_n (s' := (12, [.int c, .int 3], [.int 3, .ref 999], M, J)) hB 7 rfl <|
     tw_k9 hB rfl (by decide) (by decide) <|
     tw_n (s' := (14, [.int c, .int 3], [.int c, .int (M 999 3)], M, J)) hB 1 rfl <|
     tw_icN hB (t := 19) rfl rfl fl_cF (fun h4 =>
      tw_n (s' := (18, [.int c, .int 3], [.int 3], M, J)) hB 1 rfl <|
      tw_ri rfl rfl (by first | (simp only [if_neg h1, if_neg h2, if_neg h3, if_pos h4]; done) | rfl)) (fun h4 =>
      tw_n (s' := (12, [.int c, .int 4], [.int 4, .ref 999], M, J)) hB 7 rfl <|
      tw_k9 hB rfl (by decide) (by decide) <|
      tw_n (s' := (14, [.int c, .int 4], [.int c, .int (M 999 4)], M, J)) hB 1 rfl <|
      tw_icN hB (t := 19) rfl rfl fl_cF (fun h5 =>
       tw_n (s' := (18, [.int c, .int 4], [.int 4], M, J)) hB 1 rfl <|
       tw_ri rfl rfl (by first | (simp only [if_neg h1, if_neg h2, if_neg h3, if_neg h4, if_pos h5]; done) | rfl)) (fun h5 =>
       tw_n (s' := (12, [.int c, .int 5], [.int 5, .ref 999], M, J)) hB 7 rfl <|
       tw_k9 hB rfl (by decide) (by decide) <|
       tw_n (s' := (14, [.int c, .int 5], [.int c, .int (M 999 5)], M, J)) hB 1 rfl <|
       tw_icN hB (t := 19) rfl rfl fl_cF (fun h6 =>
        tw_n (s' := (18, [.int c, .int 5], [.int 5], M, J)) hB 1 rfl <|
        tw_ri rfl rfl (by first | (simp only [if_neg h1, if_neg h2, if_neg h3, if_neg h4, if_neg h5, if_pos h6]; done) | rfl)) (fun h6 =>
        tw_n (s' := (27, [.int c, .int 6], [.int (-9)], M, J)) hB 6 rfl <|
        tw_ri rfl rfl (by first | (simp only [if_neg h1, if_neg h2, if_neg h3, if_neg h4, if_neg h5, if_neg h6]; done) | rfl)))))))
theorem fk_eq (M : fl_M) (c : Int32) (h : M 999 = sm_kl) : (if (M 999 0) = c then 0 else (if (M 999 1) = c then 1 else (if (M 999 2) = c then 2 else (if (M 999 3) = c then 3 else (if (M 999 4) = c then 4 else (if (M 999 5) = c then 5 else (-9))))))) = fk c := by
  rw [h]
  unfold fk
  simp only [show sm_kl 0 = 109 from rfl, show sm_kl 1 = 121 from rfl, show sm_kl 2 = 111 from rfl, show sm_kl 3 = 104 from rfl, show sm_kl 4 = 119 from rfl, show sm_kl 5 = 103 from rfl, @eq_comm Int32 _ c]
theorem cc_20 (d : Nat) (M : fl_M) (J : fl_J) (c : Int32) (h : M 999 = sm_kl) : tw_C (d + 1) 20 [.int c] M J (some (.int (fk c)), M, J) := tw_Ce (cr_20 d M J c) (by rw [fk_eq M c h])
def fB18 : sm_P := (fun pc => sm_ch sm_t18 pc, sm_Kn 2 6 none, fun x => sm_lk sm_ca2 x, some .int)
theorem cr_18 (d : Nat) (M : fl_M) (J : fl_J) (size p lo hi : Int32) (a : Nat) (hk : fl_kd a = 1) (hl : fl_len a = 60) (hq : 0 ≤ p.toInt) (hs : size.toInt ≤ 60) : tw_C (d + 1) 18 [.ref a, .int size, .int p, .int lo, .int hi] M J (some (.int (if p < size then (if ((M a p.toNatClampNeg) - 48) < lo then p else (if hi < ((M a p.toNatClampNeg) - 48) then p else (-9))) else size)), M, J) := by
  have hB : fw_B fB18 := fw_sB (k := 18) (by decide)
  refine tw_Co (d := d + 0) (B := fB18) (by decide) rfl rfl (show (5 : Nat) ≤ 6 by decide) ?_ ?_
  · intro i v hv hn
    match i, hv with
    | 0, hv => cases hv; rfl
    | 1, hv => cases hv; rfl
    | 2, hv => cases hv; rfl
    | 3, hv => cases hv; rfl
    | 4, hv => cases hv; rfl
    | 5, hv => cases hv; exact absurd rfl hn
    | _ + 6, hv => cases hv
  exact tw_n (s' := (2, [.ref a, .int size, .int p, .int lo, .int hi, .null], [.int size, .int p], M, J)) hB 2 rfl <|
  tw_ic hB (t := 7) rfl rfl fl_cT (fun h1 =>
   tw_n (s' := (9, [.ref a, .int size, .int p, .int lo, .int hi, .null], [.int p, .ref a], M, J)) hB 2 rfl <|
   tw_ba hB rfl hk (fw_98 hk (by decide)) (by omega) (by have z := fi_l.mp h1; rw [hl]; omega) <|
   tw_n (s' := (18, [.ref a, .int size, .int p, .int lo, .int hi, .int ((M a p.toNatClampNeg) - 48)], [.int lo, .int ((M a p.toNatClampNeg) - 48)], M, J)) hB 5 rfl <|
   tw_ic hB (t := 28) rfl rfl fl_cT (fun h2 =>
    tw_n (s' := (34, [.ref a, .int size, .int p, .int lo, .int hi, .int ((M a p.toNatClampNeg) - 48)], [.int p], M, J)) hB 2 rfl <|
    tw_ri rfl rfl (by first | (simp only [if_pos h1, if_pos h2]; done) | rfl)) (fun h2 =>
    tw_n (s' := (25, [.ref a, .int size, .int p, .int lo, .int hi, .int ((M a p.toNatClampNeg) - 48)], [.int hi, .int ((M a p.toNatClampNeg) - 48)], M, J)) hB 2 rfl <|
    tw_icN hB (t := 32) rfl rfl fl_nle (fun h3 =>
     tw_n (s' := (34, [.ref a, .int size, .int p, .int lo, .int hi, .int ((M a p.toNatClampNeg) - 48)], [.int p], M, J)) hB 2 rfl <|
     tw_ri rfl rfl (by first | (simp only [if_pos h1, if_neg h2, if_pos h3]; done) | rfl)) (fun h3 =>
     tw_n (s' := (34, [.ref a, .int size, .int p, .int lo, .int hi, .int ((M a p.toNatClampNeg) - 48)], [.int (-9)], M, J)) hB 1 rfl <|
     tw_ri rfl rfl (by first | (simp only [if_pos h1, if_neg h2, if_neg h3]; done) | rfl)))) (fun h1 =>
   tw_n (s' := (6, [.ref a, .int size, .int p, .int lo, .int hi, .null], [.int size], M, J)) hB 1 rfl <|
   tw_ri rfl rfl (by first | (simp only [if_neg h1]; done) | rfl))
theorem cc_18 (d : Nat) (M : fl_M) (J : fl_J) (a : Nat) (size p lo hi : Int32) (hk : fl_kd a = 1) (hl : fl_len a = 60) (hq : 0 ≤ p.toInt) (hs : size.toInt ≤ 60) (hn : p.toInt ≤ size.toInt) : tw_C (d + 1) 18 [.ref a, .int size, .int p, .int lo, .int hi] M J (some (.int (if fg (M a) size p lo hi = true then (-9) else p)), M, J) := tw_Ce (cr_18 d M J size p lo hi a hk hl hq hs) (by rw [← fg_eq hn])
def fB17 : sm_P := (fun pc => sm_ch sm_t17 pc, sm_Kn 2 6 none, fun x => sm_lk sm_ca2 x, some .int)
