/-! A run is there: fault, register (both sides). -/
theorem fi_944 : (944 : Int32).toInt = 944 := rfl
section FWR
variable {d : Nat} {B : sm_P} {pc : Nat} {ls st : List Value} {M : fl_M} {J : fl_J} {s s' : fl_S}
theorem fw_icN (hB : fw_B B) {q : Jvm.ClassFile.Cond} {off : Int} {t : Nat} {x y : Int32} {c : Prop} [Decidable c] (hi : B.1 pc = some (.if_icmp q off, 3)) (ht : sm_j pc off = some t) (hb : sm_cmp q x y = true ↔ ¬ c) (k1 : c → fw d B (pc + 3, ls, st, M, J)) (k2 : ¬ c → fw d B (t, ls, st, M, J)) : fw d B (pc, ls, .int y :: .int x :: st, M, J) :=
  fw_ic hB hi ht hb k2 (fun z => k1 (Decidable.not_not.mp z))
theorem fw_ifN (hB : fw_B B) {q : Jvm.ClassFile.Cond} {off : Int} {t : Nat} {x : Int32} {c : Prop} [Decidable c] (hi : B.1 pc = some (.ifCond q off, 3)) (ht : sm_j pc off = some t) (hb : sm_cmp q x 0 = true ↔ ¬ c) (k1 : c → fw d B (pc + 3, ls, st, M, J)) (k2 : ¬ c → fw d B (t, ls, st, M, J)) : fw d B (pc, ls, .int x :: st, M, J) :=
  fw_if hB hi ht hb k2 (fun z => k1 (Decidable.not_not.mp z))
theorem fw_cv (hB : fw_B B) {x k np ci m b : Nat} {As st0 st' : List Value} {o : Option Value} {M' : fl_M} {J' : fl_J} (hi : B.1 pc = some (.invokevirtual x, 3)) (hc : B.2.2.1 x = some (0, k, np, ci)) (hm : m = np + 1) (hn : np = As.length) (hst : st = As.reverse ++ .ref b :: st0) (hcat : (st0.map fun v => v.category).sum ≤ 8) (hkd : fl_kd b = 10 + ci) (hci : ci < 4) (hC : tw_C d k (.ref b :: As) M J (o, M', J')) (hr : o.toList ++ st0 = st') (kk : fw d B (pc + 3, ls, st', M', J')) : fw d B (pc, ls, st, M, J) := by
  subst hst
  subst hn
  subst hr
  refine fw_call hB hi (fun h hH => ?_) hC.1 hC.2 kk
  obtain ⟨fs, hf, -⟩ := fw_obj hH.1 hkd hci
  exact ⟨rfl, hcat, Or.inl ⟨x, ci, b, As, rfl, hc, rfl, rfl, fs, hf⟩⟩
theorem fw_cs (hB : fw_B B) {x k np ci t : Nat} {vs st0 st' : List Value} {o : Option Value} {M' : fl_M} {J' : fl_J} (hi : B.1 pc = some (.invokestatic x, 3)) (hc : B.2.2.1 x = some (t, k, np, ci)) (ht : t = 1 ∨ t = 2) (hn : np = vs.length) (hst : st = vs.reverse ++ st0) (hcat : (st0.map fun v => v.category).sum ≤ 8) (hC : tw_C d k vs M J (o, M', J')) (hr : o.toList ++ st0 = st') (kk : fw d B (pc + 3, ls, st', M', J')) : fw d B (pc, ls, st, M, J) := by
  subst hst
  subst hn
  subst hr
  refine fw_call hB hi (fun h hH => ?_) hC.1 hC.2 kk
  rcases ht with rfl | rfl
  · exact ⟨rfl, hcat, Or.inr (Or.inl ⟨x, ci, rfl, hc, rfl⟩)⟩
  · exact ⟨rfl, hcat, Or.inr (Or.inr ⟨x, ci, rfl, hc, rfl⟩)⟩
theorem fw_ri {v : Int32} (hi : B.1 pc = some (.ireturn, 1)) (hr : B.2.2.2 = some .int) : fw d B (pc, ls, [.int v], M, J) := fw_re (o := some (.int v)) hi ⟨rfl, Or.inl ⟨rfl, v, rfl, rfl, Or.inl hr⟩⟩
theorem fw_rv (hi : B.1 pc = some (.return_, 1)) (hr : B.2.2.2 = none) : fw d B (pc, ls, [], M, J) := fw_re (o := none) hi ⟨rfl, Or.inr (Or.inr ⟨rfl, rfl, rfl, hr⟩)⟩
theorem fw_d2 (hB : fw_B B) {v w : Value} (hi : B.1 pc = some (.dup2, 1)) (hv : v.category = 1) (hw : w.category = 1) (k : fw d B (pc + 1, ls, v :: w :: v :: w :: st, M, J)) : fw d B (pc, ls, v :: w :: st, M, J) := by
  refine fw_s (st' := v :: w :: v :: w :: st) hB hi (fun h lv hH hl => ⟨h, ?_⟩) rfl k
  show (if v.category = 1 ∧ w.category = 1 then _ else none) = _
  rw [if_pos ⟨hv, hw⟩]
theorem tw_d2 {r : fl_Q} (hB : fw_B B) {v w : Value} (hi : B.1 pc = some (.dup2, 1)) (hv : v.category = 1) (hw : w.category = 1) (k : tw d B (pc + 1, ls, v :: w :: v :: w :: st, M, J) r) : tw d B (pc, ls, v :: w :: st, M, J) r :=
  ⟨fw_d2 hB hi hv hw k.1, fl_td (fl_i1 (fun d f => by unfold fl_one; dsimp only; rw [hi]; rfl)) k.2⟩
theorem fw_pf (hB : fw_B B) {a x ci j : Nat} {v : Int32} (hi : B.1 pc = some (.putfield x, 3)) (hx : B.2.1.1 x = some (ci, j, 0)) (hkd : fl_kd a = 10 + ci) (hci : ci < 4) (hj : j < fl_nf ci) (k : fw d B (pc + 3, ls, st, fl_u M a j v, J)) : fw d B (pc, ls, .int v :: .ref a :: st, M, J) := by
  refine fw_s (st' := st) hB hi (fun h lv hH hl => ?_) ?_ k
  · obtain ⟨hh, rfl, rfl⟩ := hH
    obtain ⟨fs, hf, hl2⟩ := fw_obj hh hkd hci
    refine ⟨h.set a (.inr (ci, fs.set j (.int v))), ?_⟩
    show (B.2.1.1 x).bind _ = _
    rw [hx]
    show (sm_obj h a ci).bind _ = _
    rw [hf]
    show (if j < fs.length then _ else _) = _
    rw [if_pos (by rw [hl2]; exact hj)]
  · show (B.2.1.1 x).bind _ = _
    rw [hx]
    rfl
theorem kd46 {i : Int32} (h0 : 0 ≤ i.toInt) (h3 : i.toInt < 3) : fl_kd (fl_ar 46 i.toNatClampNeg) = 10 + 0 := by
  have e := fi_cl i
  have : i.toNatClampNeg = 0 ∨ i.toNatClampNeg = 1 ∨ i.toNatClampNeg = 2 := by omega
  rcases this with h | h | h <;> rw [h] <;> rfl
theorem fw_sh (h : fw d B s) : fw d B s := h
end FWR
theorem fw_Co {d k : Nat} {B : sm_P} {vs ls : List Value} {M : fl_M} {J : fl_J} (hk : k < 200) (hB : sm_B k = B) (hl : fl_args (sm_ML k) vs = ls) (hv : (lg_sl vs).length ≤ sm_ML k) (hg : ∀ (i : Nat) (v : Value), ls[i]? = some v → v ≠ .null → sm_get (lv_args 0 vs) i = some v) (h : fw d B (0, ls, [], M, J)) : fw_C (d + 1) k vs M J := by
  intro hp hH
  have hv2 : (fl_sl vs).length ≤ sm_ML k := by rw [fl_sl_len]; exact hv
  have e : B.2.1.2.2.2.2.2.1 = sm_ML k := by rw [← hB]; rfl
  obtain ⟨g, o, h', hr⟩ := h hp (lv_args 0 vs) hH ⟨⟨by
    rw [e, ← hl]
    unfold fl_args
    rw [List.length_append, List.length_replicate]
    omega, fun q hq => by rw [← hl]; exact fl_sl_at vs [] _ q hq⟩, hg⟩
  exact ⟨o, h', hk, hv, g, by rw [hB]; exact hr⟩
theorem t4 {t : Int32} (h : ¬ ((t < 0) ∨ (¬ (t < 4)))) : 0 ≤ t.toInt ∧ t.toInt < 4 := by
  have a : ¬ t < 0 := fun z => h (Or.inl z)
  have b : t < 4 := Decidable.not_not.mp (fun z => h (Or.inr z))
  rw [fi_l, fi_i0] at a
  rw [fi_l, fi_i4] at b
  exact ⟨by omega, b⟩
theorem t3 {t : Int32} (h : (¬ (t < 0)) ∧ (¬ (3 < t))) : 0 ≤ t.toInt ∧ t.toInt < 4 := by
  obtain ⟨a, b⟩ := h
  rw [fi_l, fi_i0] at a
  rw [fi_l, fi_i3] at b
  exact ⟨by omega, by omega⟩
theorem tq {t : Int32} (h0 : 0 ≤ t.toInt) (h4 : t.toInt < 4) : t.toNatClampNeg < 4 := by
  have := fi_cl t
  omega
theorem ct_15 (d : Nat) (M : fl_M) (J : fl_J) (t : Int32) (h0 : 0 ≤ t.toInt) (h4 : t.toInt < 4) (hs : ∀ q, q < 4 → (M 9 q).toInt ≤ 60) (hK : M 999 = sm_kl) : tw_C (d + 3) 15 [.ref 0, .int t] M J (some (.int (ra_v M t)), ra_M M t, J) :=
  cc_15 d M J t h0 (by omega) (hs _ (tq h0 h4)) hK
theorem ct_120 (d : Nat) (M : fl_M) (J : fl_J) (t : Int32) (h0 : 0 ≤ t.toInt) (h4 : t.toInt < 4) (hs : ∀ q, q < 4 → (M 89 q).toInt ≤ 60) (hz : ¬ M 89 t.toNatClampNeg < 0) : tw_C (d + 5) 120 [.ref 81, .int t] M J (some (.int (fo_v M t)), fo_M M t, J) :=
  cc_120 d M J t h0 (by omega) (by rw [fi_l, fi_i0] at hz; omega) (hs _ (tq h0 h4))
set_option maxRecDepth 8000 in
theorem cu_12 (d : Nat) (M : fl_M) (J : fl_J) (t : Int32) : tw_C (d + 1) 12 [.int t] M J (some (.int (if (t < 0) ∨ (¬ (t < 4)) then 1 else 0)), M, J) := by
  have hB : fw_B fB12 := fw_sB (k := 12) (by decide)
  refine tw_Co (d := d + 0) (B := fB12) (by decide) rfl rfl (show (1 : Nat) ≤ 1 by decide) ?_ ?_
  · intro i v hv hn
    match i, hv with
    | 0, hv => cases hv; rfl
    | _ + 1, hv => cases hv
  exact tw_n (s' := (1, [.int t], [.int t], M, J)) hB 1 rfl <|
  tw_if hB (t := 9) rfl rfl fl_cT (fun h1 =>
   tw_n (s' := (14, [.int t], [.int 1], M, J)) hB 2 rfl <|
   tw_rb rfl rfl (by first | decide | (split <;> decide)) (by simp [h1])) (fun h1 =>
   tw_n (s' := (6, [.int t], [.int 4, .int t], M, J)) hB 2 rfl <|
   tw_ic hB (t := 13) rfl rfl fl_cT (fun h2 =>
    tw_n (s' := (14, [.int t], [.int 0], M, J)) hB 1 rfl <|
    tw_rb rfl rfl (by first | decide | (split <;> decide)) (by simp [h1, h2])) (fun h2 =>
    tw_n (s' := (14, [.int t], [.int 1], M, J)) hB 2 rfl <|
    tw_rb rfl rfl (by first | decide | (split <;> decide)) (by simp [h1, h2])))
set_option maxRecDepth 8000 in
theorem cu_117 (d : Nat) (M : fl_M) (J : fl_J) (t : Int32) : tw_C (d + 2) 117 [.int t] M J (some (.int (if (¬ (t < 0)) ∧ (¬ (3 < t)) then 1 else 0)), M, J) := by
  have hB : fw_B fB117 := fw_sB (k := 117) (by decide)
  refine tw_Co (d := d + 1) (B := fB117) (by decide) rfl rfl (show (1 : Nat) ≤ 1 by decide) ?_ ?_
  · intro i v hv hn
    match i, hv with
    | 0, hv => cases hv; rfl
    | _ + 1, hv => cases hv
  exact tw_n (s' := (6, [.int t], [.long 3, .long 0, .long t.toInt64], M, J)) hB 4 rfl <|
  tw_cs hB (st0 := []) (o := some (.int (if (¬ (t < 0)) ∧ (¬ (3 < t)) then 1 else 0))) rfl rfl (by decide) rfl rfl (show (0 : Nat) ≤ 8 by decide) (ct_105i _ M J t 0 3) rfl <|
  tw_sh (s := (9, [.int t], [.int (if (¬ (t < 0)) ∧ (¬ (3 < t)) then 1 else 0)], M, J)) <|
  tw_rb rfl rfl (by first | decide | (split <;> decide)) (rfl)
set_option maxRecDepth 8000 in
theorem cu_2 (d : Nat) (M : fl_M) (J : fl_J) (v : Int32) (h0 : 0 ≤ v.toInt) (h5 : v.toInt ≤ 5) : tw_C (d + 1) 2 [.ref 0, .int v] M J (some (.int (-3)), (fl_u (fl_u M 0 11 v) 80 v.toNatClampNeg ((M 80 v.toNatClampNeg) + 1)), J) := by
  have hB : fw_B fB2 := fw_sB (k := 2) (by decide)
  refine tw_Co (d := d + 0) (B := fB2) (by decide) rfl rfl (show (2 : Nat) ≤ 2 by decide) ?_ ?_
  · intro i v hv hn
    match i, hv with
    | 0, hv => cases hv; rfl
    | 1, hv => cases hv; rfl
    | _ + 2, hv => cases hv
  exact tw_n (s' := (10, [.ref 0, .int v], [.int v, .ref 80], (fl_u M 0 11 v), J)) hB 6 rfl <|
  tw_d2 hB rfl rfl rfl <|
  tw_ia hB rfl rfl (by decide) h0 (show v.toInt < 6 by omega) <|
  tw_n (s' := (14, [.ref 0, .int v], [.int ((M 80 v.toNatClampNeg) + 1), .int v, .ref 80], (fl_u M 0 11 v), J)) hB 2 rfl <|
  tw_is hB rfl rfl (by decide) h0 (show v.toInt < 6 by omega) <|
  tw_n (s' := (17, [.ref 0, .int v], [.int (-3)], (fl_u (fl_u M 0 11 v) 80 v.toNatClampNeg ((M 80 v.toNatClampNeg) + 1)), J)) hB 1 rfl <|
  tw_ri rfl rfl (rfl)
set_option maxRecDepth 8000 in
theorem cu_106 (d : Nat) (M : fl_M) (J : fl_J) (v : Int32) (h0 : 0 ≤ v.toInt) (h5 : v.toInt ≤ 5) : tw_C (d + 1) 106 [.ref 81, .int v] M J (some (.int (-3)), (fl_u (fl_u M 81 14 v) 91 v.toNatClampNeg ((M 91 v.toNatClampNeg) + 1)), J) := by
  have hB : fw_B fB106 := fw_sB (k := 106) (by decide)
  refine tw_Co (d := d + 0) (B := fB106) (by decide) rfl rfl (show (2 : Nat) ≤ 2 by decide) ?_ ?_
  · intro i v hv hn
    match i, hv with
    | 0, hv => cases hv; rfl
    | 1, hv => cases hv; rfl
    | _ + 2, hv => cases hv
  exact tw_n (s' := (10, [.ref 81, .int v], [.int v, .ref 91], (fl_u M 81 14 v), J)) hB 6 rfl <|
  tw_d2 hB rfl rfl rfl <|
  tw_ia hB rfl rfl (by decide) h0 (show v.toInt < 6 by omega) <|
  tw_n (s' := (14, [.ref 81, .int v], [.int ((M 91 v.toNatClampNeg) + 1), .int v, .ref 91], (fl_u M 81 14 v), J)) hB 2 rfl <|
  tw_is hB rfl rfl (by decide) h0 (show v.toInt < 6 by omega) <|
  tw_n (s' := (17, [.ref 81, .int v], [.int (-3)], (fl_u (fl_u M 81 14 v) 91 v.toNatClampNeg ((M 91 v.toNatClampNeg) + 1)), J)) hB 1 rfl <|
  tw_ri rfl rfl (rfl)
set_option maxRecDepth 8000 in
theorem fs_22_0 (d : Nat) (M : fl_M) (J : fl_J) (q1 : fw d fB22 (18, [.ref 24, .int 0], [], (fl_u (fl_u (fl_u M 24 2 0) 24 3 (-9)) 24 4 0), J)) : fw d fB22 (0, [.ref 24, .null], [], M, J) := by
  have hB : fw_B fB22 := fw_sB (k := 22) (by decide)
  exact fw_n (s' := (18, [.ref 24, .int 0], [], (fl_u (fl_u (fl_u M 24 2 0) 24 3 (-9)) 24 4 0), J)) hB 11 rfl <|
  q1
set_option maxRecDepth 8000 in
theorem fs_22_18 (d : Nat) (M : fl_M) (J : fl_J) (i : Int32) (hi : 0 ≤ i.toInt) (h8 : (M 24 0).toInt ≤ 8) (q1 : (i < (M 24 0)) → fw d fB22 (18, [.ref 24, .int (i + 1)], [], (fl_u (fl_u M 27 i.toNatClampNeg (M 26 i.toNatClampNeg)) 28 i.toNatClampNeg 0), J)) (q2 : (¬ (i < (M 24 0))) → fw d fB22 (53, [.ref 24, .int 0], [], M, J)) : fw d fB22 (18, [.ref 24, .int i], [], M, J) := by
  have hB : fw_B fB22 := fw_sB (k := 22) (by decide)
  exact fw_n (s' := (23, [.ref 24, .int i], [.int (M 24 0), .int i], M, J)) hB 3 rfl <|
  fw_icN hB (t := 51) rfl rfl fl_nlt (fun h1 =>
   fw_n (s' := (36, [.ref 24, .int i], [.int i, .ref 26, .int i, .ref 27], M, J)) hB 6 rfl <|
   fw_ia hB rfl rfl (by decide) (by have z : i.toInt < (M 24 0).toInt := fi_l.mp h1; show 0 ≤ (i).toInt; omega) (by have z : i.toInt < (M 24 0).toInt := fi_l.mp h1; show (i).toInt < 8; omega) <|
   fw_ia2 hB rfl rfl (by decide) (by have z : i.toInt < (M 24 0).toInt := fi_l.mp h1; show 0 ≤ (i).toInt; omega) (by have z : i.toInt < (M 24 0).toInt := fi_l.mp h1; show (i).toInt < 8; omega) <|
   fw_n (s' := (44, [.ref 24, .int i], [.int 0, .int i, .ref 28], (fl_u M 27 i.toNatClampNeg (M 26 i.toNatClampNeg)), J)) hB 4 rfl <|
   fw_ia2 hB rfl rfl (by decide) (by have z : i.toInt < (M 24 0).toInt := fi_l.mp h1; show 0 ≤ (i).toInt; omega) (by have z : i.toInt < (M 24 0).toInt := fi_l.mp h1; show (i).toInt < 8; omega) <|
   fw_n (s' := (18, [.ref 24, .int (i + 1)], [], (fl_u (fl_u M 27 i.toNatClampNeg (M 26 i.toNatClampNeg)) 28 i.toNatClampNeg 0), J)) hB 2 rfl <|
   (q1 h1)) (fun h1 =>
   fw_n (s' := (53, [.ref 24, .int 0], [], M, J)) hB 2 rfl <|
   (q2 h1))
set_option maxRecDepth 8000 in
theorem fs_22_53 (d : Nat) (M : fl_M) (J : fl_J) (i : Int32) (hi : 0 ≤ i.toInt) (h4 : (M 24 1).toInt ≤ 4) (q1 : (i < (M 24 1)) → fw d fB22 (53, [.ref 24, .int (i + 1)], [], (fl_u M 32 i.toNatClampNeg (M 31 i.toNatClampNeg)), J)) : fw d fB22 (53, [.ref 24, .int i], [], M, J) := by
  have hB : fw_B fB22 := fw_sB (k := 22) (by decide)
  exact fw_n (s' := (58, [.ref 24, .int i], [.int (M 24 1), .int i], M, J)) hB 3 rfl <|
  fw_icN hB (t := 79) rfl rfl fl_nlt (fun h1 =>
   fw_n (s' := (71, [.ref 24, .int i], [.int i, .ref 31, .int i, .ref 32], M, J)) hB 6 rfl <|
   fw_ia hB rfl rfl (by decide) (by have z : i.toInt < (M 24 1).toInt := fi_l.mp h1; show 0 ≤ (i).toInt; omega) (by have z : i.toInt < (M 24 1).toInt := fi_l.mp h1; show (i).toInt < 4; omega) <|
   fw_ia2 hB rfl rfl (by decide) (by have z : i.toInt < (M 24 1).toInt := fi_l.mp h1; show 0 ≤ (i).toInt; omega) (by have z : i.toInt < (M 24 1).toInt := fi_l.mp h1; show (i).toInt < 4; omega) <|
   fw_n (s' := (53, [.ref 24, .int (i + 1)], [], (fl_u M 32 i.toNatClampNeg (M 31 i.toNatClampNeg)), J)) hB 2 rfl <|
   (q1 h1)) (fun h1 =>
   fw_rv rfl rfl)
set_option maxRecDepth 8000 in
theorem fs_23_0 (d : Nat) (M : fl_M) (J : fl_J) (q1 : fw d fB23 (42, [.ref 15, .ref 24, .int 0], [], (fl_u (fl_u (fl_u (fl_u (fl_u M 15 0 (M 24 0)) 15 1 (M 24 1)) 15 2 (M 24 2)) 15 3 (M 24 3)) 15 4 (M 24 4)), J)) : fw d fB23 (0, [.ref 15, .ref 24, .null], [], M, J) := by
  have hB : fw_B fB23 := fw_sB (k := 23) (by decide)
  exact fw_n (s' := (42, [.ref 15, .ref 24, .int 0], [], (fl_u (fl_u (fl_u (fl_u (fl_u M 15 0 (M 24 0)) 15 1 (M 24 1)) 15 2 (M 24 2)) 15 3 (M 24 3)) 15 4 (M 24 4)), J)) hB 22 rfl <|
  q1
set_option maxRecDepth 8000 in
theorem fs_23_42 (d : Nat) (M : fl_M) (J : fl_J) (i : Int32) (hi : 0 ≤ i.toInt) (h8 : (M 15 0).toInt ≤ 8) (q1 : (i < (M 15 0)) → fw d fB23 (42, [.ref 15, .ref 24, .int (i + 1)], [], (fl_u (fl_u (fl_u (fl_u M 16 i.toNatClampNeg (M 25 i.toNatClampNeg)) 17 i.toNatClampNeg (M 26 i.toNatClampNeg)) 18 i.toNatClampNeg (M 27 i.toNatClampNeg)) 19 i.toNatClampNeg (M 28 i.toNatClampNeg)), J)) (q2 : (¬ (i < (M 15 0))) → fw d fB23 (106, [.ref 15, .ref 24, .int 0], [], M, J)) : fw d fB23 (42, [.ref 15, .ref 24, .int i], [], M, J) := by
  have hB : fw_B fB23 := fw_sB (k := 23) (by decide)
  exact fw_n (s' := (47, [.ref 15, .ref 24, .int i], [.int (M 15 0), .int i], M, J)) hB 3 rfl <|
  fw_icN hB (t := 104) rfl rfl fl_nlt (fun h1 =>
   fw_n (s' := (60, [.ref 15, .ref 24, .int i], [.int i, .ref 25, .int i, .ref 16], M, J)) hB 6 rfl <|
   fw_ia hB rfl rfl (by decide) (by have z : i.toInt < (M 15 0).toInt := fi_l.mp h1; show 0 ≤ (i).toInt; omega) (by have z : i.toInt < (M 15 0).toInt := fi_l.mp h1; show (i).toInt < 8; omega) <|
   fw_ia2 hB rfl rfl (by decide) (by have z : i.toInt < (M 15 0).toInt := fi_l.mp h1; show 0 ≤ (i).toInt; omega) (by have z : i.toInt < (M 15 0).toInt := fi_l.mp h1; show (i).toInt < 8; omega) <|
   fw_n (s' := (72, [.ref 15, .ref 24, .int i], [.int i, .ref 26, .int i, .ref 17], (fl_u M 16 i.toNatClampNeg (M 25 i.toNatClampNeg)), J)) hB 6 rfl <|
   fw_ia hB rfl rfl (by decide) (by have z : i.toInt < (M 15 0).toInt := fi_l.mp h1; show 0 ≤ (i).toInt; omega) (by have z : i.toInt < (M 15 0).toInt := fi_l.mp h1; show (i).toInt < 8; omega) <|
   fw_ia2 hB rfl rfl (by decide) (by have z : i.toInt < (M 15 0).toInt := fi_l.mp h1; show 0 ≤ (i).toInt; omega) (by have z : i.toInt < (M 15 0).toInt := fi_l.mp h1; show (i).toInt < 8; omega) <|
   fw_n (s' := (84, [.ref 15, .ref 24, .int i], [.int i, .ref 27, .int i, .ref 18], (fl_u (fl_u M 16 i.toNatClampNeg (M 25 i.toNatClampNeg)) 17 i.toNatClampNeg (M 26 i.toNatClampNeg)), J)) hB 6 rfl <|
   fw_ia hB rfl rfl (by decide) (by have z : i.toInt < (M 15 0).toInt := fi_l.mp h1; show 0 ≤ (i).toInt; omega) (by have z : i.toInt < (M 15 0).toInt := fi_l.mp h1; show (i).toInt < 8; omega) <|
   fw_ia2 hB rfl rfl (by decide) (by have z : i.toInt < (M 15 0).toInt := fi_l.mp h1; show 0 ≤ (i).toInt; omega) (by have z : i.toInt < (M 15 0).toInt := fi_l.mp h1; show (i).toInt < 8; omega) <|
   fw_n (s' := (96, [.ref 15, .ref 24, .int i], [.int i, .ref 28, .int i, .ref 19], (fl_u (fl_u (fl_u M 16 i.toNatClampNeg (M 25 i.toNatClampNeg)) 17 i.toNatClampNeg (M 26 i.toNatClampNeg)) 18 i.toNatClampNeg (M 27 i.toNatClampNeg)), J)) hB 6 rfl <|
   fw_ia hB rfl rfl (by decide) (by have z : i.toInt < (M 15 0).toInt := fi_l.mp h1; show 0 ≤ (i).toInt; omega) (by have z : i.toInt < (M 15 0).toInt := fi_l.mp h1; show (i).toInt < 8; omega) <|
   fw_ia2 hB rfl rfl (by decide) (by have z : i.toInt < (M 15 0).toInt := fi_l.mp h1; show 0 ≤ (i).toInt; omega) (by have z : i.toInt < (M 15 0).toInt := fi_l.mp h1; show (i).toInt < 8; omega) <|
   fw_n (s' := (42, [.ref 15, .ref 24, .int (i + 1)], [], (fl_u (fl_u (fl_u (fl_u M 16 i.toNatClampNeg (M 25 i.toNatClampNeg)) 17 i.toNatClampNeg (M 26 i.toNatClampNeg)) 18 i.toNatClampNeg (M 27 i.toNatClampNeg)) 19 i.toNatClampNeg (M 28 i.toNatClampNeg)), J)) hB 2 rfl <|
   (q1 h1)) (fun h1 =>
   fw_n (s' := (106, [.ref 15, .ref 24, .int 0], [], M, J)) hB 2 rfl <|
   (q2 h1))
set_option maxRecDepth 8000 in
theorem fs_23_106 (d : Nat) (M : fl_M) (J : fl_J) (i : Int32) (hi : 0 ≤ i.toInt) (h4 : (M 15 1).toInt ≤ 4) (q1 : (i < (M 15 1)) → fw d fB23 (106, [.ref 15, .ref 24, .int (i + 1)], [], (fl_u (fl_u (fl_u (fl_u M 20 i.toNatClampNeg (M 29 i.toNatClampNeg)) 21 i.toNatClampNeg (M 30 i.toNatClampNeg)) 22 i.toNatClampNeg (M 31 i.toNatClampNeg)) 23 i.toNatClampNeg (M 32 i.toNatClampNeg)), J)) : fw d fB23 (106, [.ref 15, .ref 24, .int i], [], M, J) := by
  have hB : fw_B fB23 := fw_sB (k := 23) (by decide)
  exact fw_n (s' := (111, [.ref 15, .ref 24, .int i], [.int (M 15 1), .int i], M, J)) hB 3 rfl <|
  fw_icN hB (t := 168) rfl rfl fl_nlt (fun h1 =>
   fw_n (s' := (124, [.ref 15, .ref 24, .int i], [.int i, .ref 29, .int i, .ref 20], M, J)) hB 6 rfl <|
   fw_ia hB rfl rfl (by decide) (by have z : i.toInt < (M 15 1).toInt := fi_l.mp h1; show 0 ≤ (i).toInt; omega) (by have z : i.toInt < (M 15 1).toInt := fi_l.mp h1; show (i).toInt < 4; omega) <|
   fw_ia2 hB rfl rfl (by decide) (by have z : i.toInt < (M 15 1).toInt := fi_l.mp h1; show 0 ≤ (i).toInt; omega) (by have z : i.toInt < (M 15 1).toInt := fi_l.mp h1; show (i).toInt < 4; omega) <|
   fw_n (s' := (136, [.ref 15, .ref 24, .int i], [.int i, .ref 30, .int i, .ref 21], (fl_u M 20 i.toNatClampNeg (M 29 i.toNatClampNeg)), J)) hB 6 rfl <|
   fw_ia hB rfl rfl (by decide) (by have z : i.toInt < (M 15 1).toInt := fi_l.mp h1; show 0 ≤ (i).toInt; omega) (by have z : i.toInt < (M 15 1).toInt := fi_l.mp h1; show (i).toInt < 4; omega) <|
   fw_ia2 hB rfl rfl (by decide) (by have z : i.toInt < (M 15 1).toInt := fi_l.mp h1; show 0 ≤ (i).toInt; omega) (by have z : i.toInt < (M 15 1).toInt := fi_l.mp h1; show (i).toInt < 4; omega) <|
   fw_n (s' := (148, [.ref 15, .ref 24, .int i], [.int i, .ref 31, .int i, .ref 22], (fl_u (fl_u M 20 i.toNatClampNeg (M 29 i.toNatClampNeg)) 21 i.toNatClampNeg (M 30 i.toNatClampNeg)), J)) hB 6 rfl <|
   fw_ia hB rfl rfl (by decide) (by have z : i.toInt < (M 15 1).toInt := fi_l.mp h1; show 0 ≤ (i).toInt; omega) (by have z : i.toInt < (M 15 1).toInt := fi_l.mp h1; show (i).toInt < 4; omega) <|
   fw_ia2 hB rfl rfl (by decide) (by have z : i.toInt < (M 15 1).toInt := fi_l.mp h1; show 0 ≤ (i).toInt; omega) (by have z : i.toInt < (M 15 1).toInt := fi_l.mp h1; show (i).toInt < 4; omega) <|
   fw_n (s' := (160, [.ref 15, .ref 24, .int i], [.int i, .ref 32, .int i, .ref 23], (fl_u (fl_u (fl_u M 20 i.toNatClampNeg (M 29 i.toNatClampNeg)) 21 i.toNatClampNeg (M 30 i.toNatClampNeg)) 22 i.toNatClampNeg (M 31 i.toNatClampNeg)), J)) hB 6 rfl <|
   fw_ia hB rfl rfl (by decide) (by have z : i.toInt < (M 15 1).toInt := fi_l.mp h1; show 0 ≤ (i).toInt; omega) (by have z : i.toInt < (M 15 1).toInt := fi_l.mp h1; show (i).toInt < 4; omega) <|
   fw_ia2 hB rfl rfl (by decide) (by have z : i.toInt < (M 15 1).toInt := fi_l.mp h1; show 0 ≤ (i).toInt; omega) (by have z : i.toInt < (M 15 1).toInt := fi_l.mp h1; show (i).toInt < 4; omega) <|
   fw_n (s' := (106, [.ref 15, .ref 24, .int (i + 1)], [], (fl_u (fl_u (fl_u (fl_u M 20 i.toNatClampNeg (M 29 i.toNatClampNeg)) 21 i.toNatClampNeg (M 30 i.toNatClampNeg)) 22 i.toNatClampNeg (M 31 i.toNatClampNeg)) 23 i.toNatClampNeg (M 32 i.toNatClampNeg)), J)) hB 2 rfl <|
   (q1 h1)) (fun h1 =>
   fw_rv rfl rfl)
set_option maxRecDepth 8000 in
theorem fs_21_66 (d : Nat) (M : fl_M) (J : fl_J) (t i : Int32) (hi : 0 ≤ i.toInt) (q1 : (i < 3) → fw d fB21 (66, [.ref 0, .int t, .int (i + 1)], [], (fl_u M (fl_ar 46 i.toNatClampNeg) 0 (-1)), J)) : fw d fB21 (66, [.ref 0, .int t, .int i], [], M, J) := by
  have hB : fw_B fB21 := fw_sB (k := 21) (by decide)
  exact fw_n (s' := (68, [.ref 0, .int t, .int i], [.int 3, .int i], M, J)) hB 2 rfl <|
  fw_icN hB (t := 87) rfl rfl fl_nlt (fun h1 =>
   fw_n (s' := (76, [.ref 0, .int t, .int i], [.int i, .ref 46], M, J)) hB 3 rfl <|
   fw_aa hB rfl (by decide) (by decide) (by have z : i.toInt < 3 := fi_l.mp h1; show 0 ≤ (i).toInt; omega) (by have z : i.toInt < 3 := fi_l.mp h1; show (i).toInt < 3; omega) <|
   fw_n (s' := (78, [.ref 0, .int t, .int i], [.int (-1), .ref (fl_ar 46 i.toNatClampNeg)], M, J)) hB 1 rfl <|
   fw_pf (ci := 0) (j := 0) hB rfl rfl (kd46 hi (fi_l.mp h1)) (by decide) (by decide) <|
   fw_n (s' := (66, [.ref 0, .int t, .int (i + 1)], [], (fl_u M (fl_ar 46 i.toNatClampNeg) 0 (-1)), J)) hB 2 rfl <|
   (q1 h1)) (fun h1 =>
   fw_n (s' := (94, [.ref 0, .int t, .int i], [.int (M 15 1)], M, J)) hB 3 rfl <|
   fw_ri rfl rfl)
set_option maxRecDepth 8000 in
theorem fs_129_39 (d : Nat) (M : fl_M) (J : fl_J) (t i : Int32) (hi : 0 ≤ i.toInt) (q1 : (i < 944) → fw d fB129 (39, [.ref 81, .int t, .int (i + 1)], [], (fl_u M 82 i.toNatClampNeg 0), J)) (q2 : (¬ (i < 944)) → fw d fB129 (85, [.ref 81, .int t, .int 0], [], (fl_u (fl_u (fl_u M 82 2 (-9)) 81 1 (M 81 19)) 81 4 (M 81 22)), J)) : fw d fB129 (39, [.ref 81, .int t, .int i], [], M, J) := by
  have hB : fw_B fB129 := fw_sB (k := 129) (by decide)
  exact fw_n (s' := (43, [.ref 81, .int t, .int i], [.int 944, .int i], M, J)) hB 2 rfl <|
  fw_icN hB (t := 59) rfl rfl fl_nlt (fun h1 =>
   fw_n (s' := (52, [.ref 81, .int t, .int i], [.int 0, .int i, .ref 82], M, J)) hB 4 rfl <|
   fw_ia2 hB rfl rfl (by decide) (by have z : i.toInt < 944 := fi_l.mp h1; show 0 ≤ (i).toInt; omega) (by have z : i.toInt < 944 := fi_l.mp h1; show (i).toInt < 3800; omega) <|
   fw_n (s' := (39, [.ref 81, .int t, .int (i + 1)], [], (fl_u M 82 i.toNatClampNeg 0), J)) hB 2 rfl <|
   (q1 h1)) (fun h1 =>
   fw_n (s' := (66, [.ref 81, .int t, .int i], [.int (-9), .int 2, .ref 82], M, J)) hB 4 rfl <|
   fw_ia2 hB rfl rfl (by decide) (by decide) (by decide) <|
   fw_n (s' := (85, [.ref 81, .int t, .int 0], [], (fl_u (fl_u (fl_u M 82 2 (-9)) 81 1 (M 81 19)) 81 4 (M 81 22)), J)) hB 10 rfl <|
   (q2 h1))
set_option maxRecDepth 8000 in
theorem fs_129_85 (d : Nat) (M : fl_M) (J : fl_J) (t i : Int32) (hi : 0 ≤ i.toInt) (hi8 : i.toInt ≤ 8) (h8 : (M 81 1).toInt ≤ 8) (q1 : (i < (M 81 1)) → fw d fB129 (85, [.ref 81, .int t, .int (i + 1)], [], (fl_u (fl_u (fl_u M 83 i.toNatClampNeg (M 92 i.toNatClampNeg)) 84 i.toNatClampNeg (M 93 i.toNatClampNeg)) 82 ((4 + i).toNatClampNeg) (M 93 i.toNatClampNeg)), J)) (q2 : (¬ (i < (M 81 1))) → fw d fB129 (139, [.ref 81, .int t, .int 0], [], M, J)) : fw d fB129 (85, [.ref 81, .int t, .int i], [], M, J) := by
  have hB : fw_B fB129 := fw_sB (k := 129) (by decide)
  have e4 : (4 + i).toInt = 4 + i.toInt := by rw [fi_add (by rw [fi_i4]; omega) (by rw [fi_i4]; omega), fi_i4]
  exact fw_n (s' := (90, [.ref 81, .int t, .int i], [.int (M 81 1), .int i], M, J)) hB 3 rfl <|
  fw_icN hB (t := 137) rfl rfl fl_nlt (fun h1 =>
   fw_n (s' := (103, [.ref 81, .int t, .int i], [.int i, .ref 92, .int i, .ref 83], M, J)) hB 6 rfl <|
   fw_ia hB rfl rfl (by decide) (by have z : i.toInt < (M 81 1).toInt := fi_l.mp h1; show 0 ≤ (i).toInt; omega) (by have z : i.toInt < (M 81 1).toInt := fi_l.mp h1; show (i).toInt < 8; omega) <|
   fw_ia2 hB rfl rfl (by decide) (by have z : i.toInt < (M 81 1).toInt := fi_l.mp h1; show 0 ≤ (i).toInt; omega) (by have z : i.toInt < (M 81 1).toInt := fi_l.mp h1; show (i).toInt < 8; omega) <|
   fw_n (s' := (115, [.ref 81, .int t, .int i], [.int i, .ref 93, .int i, .ref 84], (fl_u M 83 i.toNatClampNeg (M 92 i.toNatClampNeg)), J)) hB 6 rfl <|
   fw_ia hB rfl rfl (by decide) (by have z : i.toInt < (M 81 1).toInt := fi_l.mp h1; show 0 ≤ (i).toInt; omega) (by have z : i.toInt < (M 81 1).toInt := fi_l.mp h1; show (i).toInt < 8; omega) <|
   fw_ia2 hB rfl rfl (by decide) (by have z : i.toInt < (M 81 1).toInt := fi_l.mp h1; show 0 ≤ (i).toInt; omega) (by have z : i.toInt < (M 81 1).toInt := fi_l.mp h1; show (i).toInt < 8; omega) <|
   fw_n (s' := (129, [.ref 81, .int t, .int i], [.int i, .ref 93, .int (4 + i), .ref 82], (fl_u (fl_u M 83 i.toNatClampNeg (M 92 i.toNatClampNeg)) 84 i.toNatClampNeg (M 93 i.toNatClampNeg)), J)) hB 8 rfl <|
   fw_ia hB rfl rfl (by decide) (by have z : i.toInt < (M 81 1).toInt := fi_l.mp h1; show 0 ≤ (i).toInt; omega) (by have z : i.toInt < (M 81 1).toInt := fi_l.mp h1; show (i).toInt < 8; omega) <|
   fw_ia2 hB rfl rfl (by decide) (by have z : i.toInt < (M 81 1).toInt := fi_l.mp h1; show 0 ≤ (4 + i).toInt; omega) (by have z : i.toInt < (M 81 1).toInt := fi_l.mp h1; show (4 + i).toInt < 3800; omega) <|
   fw_n (s' := (85, [.ref 81, .int t, .int (i + 1)], [], (fl_u (fl_u (fl_u M 83 i.toNatClampNeg (M 92 i.toNatClampNeg)) 84 i.toNatClampNeg (M 93 i.toNatClampNeg)) 82 ((4 + i).toNatClampNeg) (M 93 i.toNatClampNeg)), J)) hB 2 rfl <|
   (q1 h1)) (fun h1 =>
   fw_n (s' := (139, [.ref 81, .int t, .int 0], [], M, J)) hB 2 rfl <|
   (q2 h1))
set_option maxRecDepth 8000 in
theorem fs_129_139 (d : Nat) (M : fl_M) (J : fl_J) (t i : Int32) (hi : 0 ≤ i.toInt) (hi4 : i.toInt ≤ 4) (h4 : (M 81 4).toInt ≤ 4) (q1 : (i < (M 81 4)) → fw d fB129 (139, [.ref 81, .int t, .int (i + 1)], [], (fl_u (fl_u (fl_u M 85 i.toNatClampNeg (M 94 ((3 * i).toNatClampNeg))) 82 ((20 + i).toNatClampNeg) (M 94 (((3 * i) + 1).toNatClampNeg))) 86 i.toNatClampNeg (M 94 (((3 * i) + 2).toNatClampNeg))), J)) (q2 : (¬ (i < (M 81 4))) → fw d fB129 (204, [.ref 81, .int t, .int 1], [], M, J)) : fw d fB129 (139, [.ref 81, .int t, .int i], [], M, J) := by
  have hB : fw_B fB129 := fw_sB (k := 129) (by decide)
  have e20 : (20 + i).toInt = 20 + i.toInt := by rw [fi_add (by rw [fj_20]; omega) (by rw [fj_20]; omega), fj_20]
  have e3 : (3 * i).toInt = 3 * i.toInt := by rw [fi_mul (by rw [fi_i3]; omega) (by rw [fi_i3]; omega), fi_i3]
  have e31 : ((3 * i) + 1).toInt = 3 * i.toInt + 1 := by rw [fi_p1 (by omega), e3]
  have e32 : ((3 * i) + 2).toInt = 3 * i.toInt + 2 := by rw [fi_add (by rw [fj_2]; omega) (by rw [fj_2]; omega), e3, fj_2]
  exact fw_n (s' := (144, [.ref 81, .int t, .int i], [.int (M 81 4), .int i], M, J)) hB 3 rfl <|
  fw_icN hB (t := 202) rfl rfl fl_nlt (fun h1 =>
   fw_n (s' := (159, [.ref 81, .int t, .int i], [.int (3 * i), .ref 94, .int i, .ref 85], M, J)) hB 8 rfl <|
   fw_ia hB rfl rfl (by decide) (by have z : i.toInt < (M 81 4).toInt := fi_l.mp h1; show 0 ≤ (3 * i).toInt; omega) (by have z : i.toInt < (M 81 4).toInt := fi_l.mp h1; show (3 * i).toInt < 12; omega) <|
   fw_ia2 hB rfl rfl (by decide) (by have z : i.toInt < (M 81 4).toInt := fi_l.mp h1; show 0 ≤ (i).toInt; omega) (by have z : i.toInt < (M 81 4).toInt := fi_l.mp h1; show (i).toInt < 4; omega) <|
   fw_n (s' := (178, [.ref 81, .int t, .int i], [.int ((3 * i) + 1), .ref 94, .int (20 + i), .ref 82], (fl_u M 85 i.toNatClampNeg (M 94 ((3 * i).toNatClampNeg))), J)) hB 12 rfl <|
   fw_ia hB rfl rfl (by decide) (by have z : i.toInt < (M 81 4).toInt := fi_l.mp h1; show 0 ≤ ((3 * i) + 1).toInt; omega) (by have z : i.toInt < (M 81 4).toInt := fi_l.mp h1; show ((3 * i) + 1).toInt < 12; omega) <|
   fw_ia2 hB rfl rfl (by decide) (by have z : i.toInt < (M 81 4).toInt := fi_l.mp h1; show 0 ≤ (20 + i).toInt; omega) (by have z : i.toInt < (M 81 4).toInt := fi_l.mp h1; show (20 + i).toInt < 3800; omega) <|
   fw_n (s' := (194, [.ref 81, .int t, .int i], [.int ((3 * i) + 2), .ref 94, .int i, .ref 86], (fl_u (fl_u M 85 i.toNatClampNeg (M 94 ((3 * i).toNatClampNeg))) 82 ((20 + i).toNatClampNeg) (M 94 (((3 * i) + 1).toNatClampNeg))), J)) hB 10 rfl <|
   fw_ia hB rfl rfl (by decide) (by have z : i.toInt < (M 81 4).toInt := fi_l.mp h1; show 0 ≤ ((3 * i) + 2).toInt; omega) (by have z : i.toInt < (M 81 4).toInt := fi_l.mp h1; show ((3 * i) + 2).toInt < 12; omega) <|
   fw_ia2 hB rfl rfl (by decide) (by have z : i.toInt < (M 81 4).toInt := fi_l.mp h1; show 0 ≤ (i).toInt; omega) (by have z : i.toInt < (M 81 4).toInt := fi_l.mp h1; show (i).toInt < 4; omega) <|
   fw_n (s' := (139, [.ref 81, .int t, .int (i + 1)], [], (fl_u (fl_u (fl_u M 85 i.toNatClampNeg (M 94 ((3 * i).toNatClampNeg))) 82 ((20 + i).toNatClampNeg) (M 94 (((3 * i) + 1).toNatClampNeg))) 86 i.toNatClampNeg (M 94 (((3 * i) + 2).toNatClampNeg))), J)) hB 2 rfl <|
   (q1 h1)) (fun h1 =>
   fw_n (s' := (204, [.ref 81, .int t, .int 1], [], M, J)) hB 2 rfl <|
   (q2 h1))
set_option maxRecDepth 8000 in
theorem fs_129_204 (d : Nat) (M : fl_M) (J : fl_J) (t i : Int32) (hi : 0 ≤ i.toInt) (hi4 : i.toInt ≤ 4) (q1 : (i < 4) → fw d fB129 (204, [.ref 81, .int t, .int (i + 1)], [], (fl_u M 82 (((944 * i) + 0).toNatClampNeg) (-1)), J)) : fw d fB129 (204, [.ref 81, .int t, .int i], [], M, J) := by
  have hB : fw_B fB129 := fw_sB (k := 129) (by decide)
  have e9 : ((944 * i) + 0).toInt = 944 * i.toInt := by rw [Int32.add_zero, fi_mul (by rw [fi_944]; omega) (by rw [fi_944]; omega), fi_944]
  exact fw_n (s' := (206, [.ref 81, .int t, .int i], [.int 4, .int i], M, J)) hB 2 rfl <|
  fw_icN hB (t := 228) rfl rfl fl_nlt (fun h1 =>
   fw_n (s' := (221, [.ref 81, .int t, .int i], [.int (-1), .int ((944 * i) + 0), .ref 82], M, J)) hB 8 rfl <|
   fw_ia2 hB rfl rfl (by decide) (by have z : i.toInt < 4 := fi_l.mp h1; show 0 ≤ ((944 * i) + 0).toInt; omega) (by have z : i.toInt < 4 := fi_l.mp h1; show ((944 * i) + 0).toInt < 3800; omega) <|
   fw_n (s' := (204, [.ref 81, .int t, .int (i + 1)], [], (fl_u M 82 (((944 * i) + 0).toNatClampNeg) (-1)), J)) hB 2 rfl <|
   (q1 h1)) (fun h1 =>
   fw_n (s' := (232, [.ref 81, .int t, .int i], [.int (M 81 4)], M, J)) hB 2 rfl <|
   fw_ri rfl rfl)
theorem fq_22b (d : Nat) (J : fl_J) : ∀ (n : Nat) (i : Int32) (M : fl_M), 0 ≤ i.toInt → (M 24 1).toInt ≤ 4 → 4 ≤ i.toInt + n → fw d fB22 (53, [.ref 24, .int i], [], M, J) := by
  intro n
  induction n with
  | zero => intro i M hi h4 hn; exact fs_22_53 d M J i hi h4 (fun z => by have z := fi_l.mp z; omega)
  | succ n ih =>
    intro i M hi h4 hn
    refine fs_22_53 d M J i hi h4 (fun z => ?_)
    have z := fi_l.mp z
    have e := fi_p1 (p := i) (by omega)
    exact ih _ _ (by omega) (by rw [fl_un (by decide)]; exact h4) (by omega)
theorem fq_22a (d : Nat) (J : fl_J) : ∀ (n : Nat) (i : Int32) (M : fl_M), 0 ≤ i.toInt → (M 24 0).toInt ≤ 8 → (M 24 1).toInt ≤ 4 → 8 ≤ i.toInt + n → fw d fB22 (18, [.ref 24, .int i], [], M, J) := by
  intro n
  induction n with
  | zero => intro i M hi h8 h4 hn; exact fs_22_18 d M J i hi h8 (fun z => by have z := fi_l.mp z; omega) (fun _ => fq_22b d J 4 _ _ (by decide) h4 (by decide))
  | succ n ih =>
    intro i M hi h8 h4 hn
    refine fs_22_18 d M J i hi h8 (fun z => ?_) (fun _ => fq_22b d J 4 _ _ (by decide) h4 (by decide))
    have z := fi_l.mp z
    have e := fi_p1 (p := i) (by omega)
    exact ih _ _ (by omega) (by rw [fl_un (by decide), fl_un (by decide)]; exact h8) (by rw [fl_un (by decide), fl_un (by decide)]; exact h4) (by omega)
theorem ct_22 (d : Nat) (M : fl_M) (J : fl_J) (h8 : (M 24 0).toInt ≤ 8) (h4 : (M 24 1).toInt ≤ 4) : tw_C (d + 1) 22 [.ref 24] M J (none, bgn 24 M, J) := by
  refine ⟨fw_Co (d := d) (B := fB22) (by decide) rfl rfl (show (1 : Nat) ≤ 2 by decide) ?_ ?_, cc_22 M J 24⟩
  · intro i v hv hn
    match i, hv with
    | 0, hv => cases hv; rfl
    | 1, hv => cases hv; exact absurd rfl hn
    | _ + 2, hv => cases hv
  · exact fs_22_0 d M J (fq_22a d J 8 _ _ (by decide) (by rw [fl_uo (Or.inr (by decide)), fl_uo (Or.inr (by decide)), fl_uo (Or.inr (by decide))]; exact h8) (by rw [fl_uo (Or.inr (by decide)), fl_uo (Or.inr (by decide)), fl_uo (Or.inr (by decide))]; exact h4) (by decide))
theorem fq_23b (d : Nat) (J : fl_J) : ∀ (n : Nat) (i : Int32) (M : fl_M), 0 ≤ i.toInt → (M 15 1).toInt ≤ 4 → 4 ≤ i.toInt + n → fw d fB23 (106, [.ref 15, .ref 24, .int i], [], M, J) := by
  intro n
  induction n with
  | zero => intro i M hi h4 hn; exact fs_23_106 d M J i hi h4 (fun z => by have z := fi_l.mp z; omega)
  | succ n ih =>
    intro i M hi h4 hn
    refine fs_23_106 d M J i hi h4 (fun z => ?_)
    have z := fi_l.mp z
    have e := fi_p1 (p := i) (by omega)
    exact ih _ _ (by omega) (by rw [fl_un (by decide), fl_un (by decide), fl_un (by decide), fl_un (by decide)]; exact h4) (by omega)
theorem fq_23a (d : Nat) (J : fl_J) : ∀ (n : Nat) (i : Int32) (M : fl_M), 0 ≤ i.toInt → (M 15 0).toInt ≤ 8 → (M 15 1).toInt ≤ 4 → 8 ≤ i.toInt + n → fw d fB23 (42, [.ref 15, .ref 24, .int i], [], M, J) := by
  intro n
  induction n with
  | zero => intro i M hi h8 h4 hn; exact fs_23_42 d M J i hi h8 (fun z => by have z := fi_l.mp z; omega) (fun _ => fq_23b d J 4 _ _ (by decide) h4 (by decide))
  | succ n ih =>
    intro i M hi h8 h4 hn
    refine fs_23_42 d M J i hi h8 (fun z => ?_) (fun _ => fq_23b d J 4 _ _ (by decide) h4 (by decide))
    have z := fi_l.mp z
    have e := fi_p1 (p := i) (by omega)
    exact ih _ _ (by omega) (by rw [fl_un (by decide), fl_un (by decide), fl_un (by decide), fl_un (by decide)]; exact h8) (by rw [fl_un (by decide), fl_un (by decide), fl_un (by decide), fl_un (by decide)]; exact h4) (by omega)
theorem ct_23 (d : Nat) (M : fl_M) (J : fl_J) (h8 : (M 24 0).toInt ≤ 8) (h4 : (M 24 1).toInt ≤ 4) : tw_C (d + 1) 23 [.ref 15, .ref 24] M J (none, m_23 15 24 M, J) := by
  refine ⟨fw_Co (d := d) (B := fB23) (by decide) rfl rfl (show (2 : Nat) ≤ 3 by decide) ?_ ?_, cc_23 M J 15 24⟩
  · intro i v hv hn
    match i, hv with
    | 0, hv => cases hv; rfl
    | 1, hv => cases hv; rfl
    | 2, hv => cases hv; exact absurd rfl hn
    | _ + 3, hv => cases hv
  · refine fs_23_0 d M J (fq_23a d J 8 _ _ (by decide) ?_ ?_ (by decide))
    · rw [fl_uo (Or.inr (by decide)), fl_uo (Or.inr (by decide)), fl_uo (Or.inr (by decide)), fl_uo (Or.inr (by decide)), fl_us]
      exact h8
    · rw [fl_uo (Or.inr (by decide)), fl_uo (Or.inr (by decide)), fl_uo (Or.inr (by decide)), fl_us]
      exact h4
theorem fq_21 (d : Nat) (J : fl_J) (t : Int32) : ∀ (n : Nat) (i : Int32) (M : fl_M), 0 ≤ i.toInt → 3 ≤ i.toInt + n → fw d fB21 (66, [.ref 0, .int t, .int i], [], M, J) := by
  intro n
  induction n with
  | zero => intro i M hi hn; exact fs_21_66 d M J t i hi (fun z => by have z : i.toInt < 3 := fi_l.mp z; omega)
  | succ n ih =>
    intro i M hi hn
    refine fs_21_66 d M J t i hi (fun z => ?_)
    have z : i.toInt < 3 := fi_l.mp z
    have e := fi_p1 (p := i) (by omega)
    exact ih _ _ (by omega) (by omega)
theorem fq_129d (d : Nat) (J : fl_J) (t : Int32) : ∀ (n : Nat) (i : Int32) (M : fl_M), 0 ≤ i.toInt → i.toInt ≤ 4 → 4 ≤ i.toInt + n → fw d fB129 (204, [.ref 81, .int t, .int i], [], M, J) := by
  intro n
  induction n with
  | zero => intro i M hi h4 hn; exact fs_129_204 d M J t i hi h4 (fun z => by have z : i.toInt < 4 := fi_l.mp z; omega)
  | succ n ih =>
    intro i M hi h4 hn
    refine fs_129_204 d M J t i hi h4 (fun z => ?_)
    have z : i.toInt < 4 := fi_l.mp z
    have e := fi_p1 (p := i) (by omega)
    exact ih _ _ (by omega) (by omega) (by omega)
theorem fq_129c (d : Nat) (J : fl_J) (t : Int32) : ∀ (n : Nat) (i : Int32) (M : fl_M), 0 ≤ i.toInt → i.toInt ≤ 4 → (M 81 4).toInt ≤ 4 → 4 ≤ i.toInt + n → fw d fB129 (139, [.ref 81, .int t, .int i], [], M, J) := by
  intro n
  induction n with
  | zero => intro i M hi h4 hm hn; exact fs_129_139 d M J t i hi h4 hm (fun z => by have z := fi_l.mp z; omega) (fun _ => fq_129d d J t 4 _ _ (by decide) (by decide) (by decide))
  | succ n ih =>
    intro i M hi h4 hm hn
    refine fs_129_139 d M J t i hi h4 hm (fun z => ?_) (fun _ => fq_129d d J t 4 _ _ (by decide) (by decide) (by decide))
    have z := fi_l.mp z
    have e := fi_p1 (p := i) (by omega)
    exact ih _ _ (by omega) (by omega) (by rw [fl_un (by decide), fl_un (by decide), fl_un (by decide)]; exact hm) (by omega)
theorem fq_129b (d : Nat) (J : fl_J) (t : Int32) : ∀ (n : Nat) (i : Int32) (M : fl_M), 0 ≤ i.toInt → i.toInt ≤ 8 → (M 81 1).toInt ≤ 8 → (M 81 4).toInt ≤ 4 → 8 ≤ i.toInt + n → fw d fB129 (85, [.ref 81, .int t, .int i], [], M, J) := by
  intro n
  induction n with
  | zero => intro i M hi h8 hl hm hn; exact fs_129_85 d M J t i hi h8 hl (fun z => by have z := fi_l.mp z; omega) (fun _ => fq_129c d J t 4 _ _ (by decide) (by decide) hm (by decide))
  | succ n ih =>
    intro i M hi h8 hl hm hn
    refine fs_129_85 d M J t i hi h8 hl (fun z => ?_) (fun _ => fq_129c d J t 4 _ _ (by decide) (by decide) hm (by decide))
    have z := fi_l.mp z
    have e := fi_p1 (p := i) (by omega)
    exact ih _ _ (by omega) (by omega) (by rw [fl_un (by decide), fl_un (by decide), fl_un (by decide)]; exact hl) (by rw [fl_un (by decide), fl_un (by decide), fl_un (by decide)]; exact hm) (by omega)
theorem fq_129a (d : Nat) (J : fl_J) (t : Int32) : ∀ (n : Nat) (i : Int32) (M : fl_M), 0 ≤ i.toInt → (M 81 19).toInt ≤ 8 → (M 81 22).toInt ≤ 4 → 944 ≤ i.toInt + n → fw d fB129 (39, [.ref 81, .int t, .int i], [], M, J) := by
  have out : ∀ (i : Int32) (M : fl_M), (M 81 19).toInt ≤ 8 → (M 81 22).toInt ≤ 4 → fw d fB129 (85, [.ref 81, .int t, .int 0], [], (fl_u (fl_u (fl_u M 82 2 (-9)) 81 1 (M 81 19)) 81 4 (M 81 22)), J) := by
    intro i M hl hm
    refine fq_129b d J t 8 _ _ (by decide) (by decide) ?_ ?_ (by decide)
    · rw [fl_uo (Or.inr (by decide)), fl_us]
      exact hl
    · rw [fl_us]
      exact hm
  intro n
  induction n with
  | zero => intro i M hi hl hm hn; exact fs_129_39 d M J t i hi (fun z => by have z : i.toInt < 944 := fi_l.mp z; omega) (fun _ => out i M hl hm)
  | succ n ih =>
    intro i M hi hl hm hn
    refine fs_129_39 d M J t i hi (fun z => ?_) (fun _ => out i M hl hm)
    have z : i.toInt < 944 := fi_l.mp z
    have e := fi_p1 (p := i) (by omega)
    exact ih _ _ (by omega) (by rw [fl_un (by decide)]; exact hl) (by rw [fl_un (by decide)]; exact hm) (by omega)
set_option maxRecDepth 8000 in
theorem fs_14 (d : Nat) (M : fl_M) (J : fl_J) (t : Int32) (hs : ∀ q, q < 4 → (M 9 q).toInt ≤ 60) (hK : M 999 = sm_kl) : fw (d + 3) fB14 (0, [.ref 0, .int t], [], M, J) := by
  have hB : fw_B fB14 := fw_sB (k := 14) (by decide)
  exact fw_n (s' := (1, [.ref 0, .int t], [.int t], M, J)) hB 1 rfl <|
  fw_cs hB (st0 := []) (o := some (.int (if (t < 0) ∨ (¬ (t < 4)) then 1 else 0))) rfl rfl (by decide) rfl rfl (show (0 : Nat) ≤ 8 by decide) (cu_12 _ M J t) rfl <|
  fw_sh (s := (4, [.ref 0, .int t], [.int (if (t < 0) ∨ (¬ (t < 4)) then 1 else 0)], M, J)) <|
  fw_ifN hB (t := 9) rfl rfl fl_b0 (fun h1 =>
   fw_n (s' := (8, [.ref 0, .int t], [.int (-1)], M, J)) hB 1 rfl <|
   fw_ri rfl rfl) (fun h1 =>
   fw_n (s' := (14, [.ref 0, .int t], [.int t, .ref 9], M, J)) hB 3 rfl <|
   fw_ia hB rfl rfl (by decide) (t4 h1).1 (show t.toInt < 4 from (t4 h1).2) <|
   fw_n (s' := (16, [.ref 0, .int t], [.int (-1), .int (M 9 t.toNatClampNeg)], M, J)) hB 1 rfl <|
   fw_icN hB (t := 25) rfl rfl fl_cF (fun h2 =>
    fw_n (s' := (21, [.ref 0, .int t], [.int 1, .ref 0], M, J)) hB 2 rfl <|
    fw_cv hB (st0 := []) (o := some (.int (-3))) rfl rfl rfl rfl rfl (show (0 : Nat) ≤ 8 by decide) rfl (by decide) (cu_2 _ M J 1 (by decide) (by decide)) rfl <|
    fw_sh (s := (24, [.ref 0, .int t], [.int (-3)], (fl_u (fl_u M 0 11 1) 80 1 ((M 80 1) + 1)), J)) <|
    fw_ri rfl rfl) (fun h2 =>
    fw_n (s' := (27, [.ref 0, .int t], [.int t, .ref 0], M, J)) hB 2 rfl <|
    fw_cv hB (st0 := []) (o := some (.int (ra_v M t))) rfl rfl rfl rfl rfl (show (0 : Nat) ≤ 8 by decide) rfl (by decide) (ct_15 _ M J t (t4 h1).1 (t4 h1).2 hs hK) rfl <|
    fw_sh (s := (30, [.ref 0, .int t], [.int (ra_v M t)], (ra_M M t), J)) <|
    fw_ri rfl rfl))
set_option maxRecDepth 8000 in
theorem fs_21 (d : Nat) (M : fl_M) (J : fl_J) (t : Int32) (hs : ∀ q, q < 4 → (M 9 q).toInt ≤ 60) (hK : M 999 = sm_kl) (cR : 0 ≤ t.toInt ∧ t.toInt < 4 → ((ra_M M t) 24 0).toInt ≤ 8 ∧ ((ra_M M t) 24 1).toInt ≤ 4) (cB : 0 ≤ t.toInt ∧ t.toInt < 4 → ((bgn 24 (ra_M M t)) 24 0).toInt ≤ 8 ∧ ((bgn 24 (ra_M M t)) 24 1).toInt ≤ 4) (q1 : (¬ ((t < 0) ∨ (¬ (t < 4)))) → (¬ ((M 9 t.toNatClampNeg) = (-1))) → ((ra_v M t) = (-9)) → fw (d + 3) fB21 (66, [.ref 0, .int t, .int 0], [], (fl_u (m_23 15 24 (bgn 24 (ra_M M t))) 42 0 0), J)) : fw (d + 3) fB21 (0, [.ref 0, .int t, .null], [], M, J) := by
  have hB : fw_B fB21 := fw_sB (k := 21) (by decide)
  exact fw_n (s' := (1, [.ref 0, .int t, .null], [.int t], M, J)) hB 1 rfl <|
  fw_cs hB (st0 := []) (o := some (.int (if (t < 0) ∨ (¬ (t < 4)) then 1 else 0))) rfl rfl (by decide) rfl rfl (show (0 : Nat) ≤ 8 by decide) (cu_12 _ M J t) rfl <|
  fw_sh (s := (4, [.ref 0, .int t, .null], [.int (if (t < 0) ∨ (¬ (t < 4)) then 1 else 0)], M, J)) <|
  fw_ifN hB (t := 9) rfl rfl fl_b0 (fun h1 =>
   fw_n (s' := (8, [.ref 0, .int t, .null], [.int (-1)], M, J)) hB 1 rfl <|
   fw_ri rfl rfl) (fun h1 =>
   fw_n (s' := (14, [.ref 0, .int t, .null], [.int t, .ref 9], M, J)) hB 3 rfl <|
   fw_ia hB rfl rfl (by decide) (t4 h1).1 (show t.toInt < 4 from (t4 h1).2) <|
   fw_n (s' := (16, [.ref 0, .int t, .null], [.int (-1), .int (M 9 t.toNatClampNeg)], M, J)) hB 1 rfl <|
   fw_icN hB (t := 25) rfl rfl fl_cF (fun h2 =>
    fw_n (s' := (21, [.ref 0, .int t, .null], [.int 1, .ref 0], M, J)) hB 2 rfl <|
    fw_cv hB (st0 := []) (o := some (.int (-3))) rfl rfl rfl rfl rfl (show (0 : Nat) ≤ 8 by decide) rfl (by decide) (cu_2 _ M J 1 (by decide) (by decide)) rfl <|
    fw_sh (s := (24, [.ref 0, .int t, .null], [.int (-3)], (fl_u (fl_u M 0 11 1) 80 1 ((M 80 1) + 1)), J)) <|
    fw_ri rfl rfl) (fun h2 =>
    fw_n (s' := (27, [.ref 0, .int t, .null], [.int t, .ref 0], M, J)) hB 2 rfl <|
    fw_cv hB (st0 := []) (o := some (.int (ra_v M t))) rfl rfl rfl rfl rfl (show (0 : Nat) ≤ 8 by decide) rfl (by decide) (ct_15 _ M J t (t4 h1).1 (t4 h1).2 hs hK) rfl <|
    fw_sh (s := (30, [.ref 0, .int t, .null], [.int (ra_v M t)], (ra_M M t), J)) <|
    fw_n (s' := (32, [.ref 0, .int t, .null], [.int (-9), .int (ra_v M t)], (ra_M M t), J)) hB 1 rfl <|
    fw_ic hB (t := 38) rfl rfl fl_cT (fun h3 =>
     fw_n (s' := (42, [.ref 0, .int t, .null], [.ref 24], (ra_M M t), J)) hB 2 rfl <|
     fw_cv hB (st0 := []) (o := none) rfl rfl rfl rfl rfl (show (0 : Nat) ≤ 8 by decide) rfl (by decide) (ct_22 _ (ra_M M t) J (cR (t4 h1)).1 (cR (t4 h1)).2) rfl <|
     fw_sh (s := (45, [.ref 0, .int t, .null], [], (bgn 24 (ra_M M t)), J)) <|
     fw_n (s' := (53, [.ref 0, .int t, .null], [.ref 24, .ref 15], (bgn 24 (ra_M M t)), J)) hB 4 rfl <|
     fw_cv hB (st0 := []) (o := none) rfl rfl rfl rfl rfl (show (0 : Nat) ≤ 8 by decide) rfl (by decide) (ct_23 _ (bgn 24 (ra_M M t)) J (cB (t4 h1)).1 (cB (t4 h1)).2) rfl <|
     fw_sh (s := (56, [.ref 0, .int t, .null], [], (m_23 15 24 (bgn 24 (ra_M M t))), J)) <|
     fx_gen (p := fun (Y : fl_M) => fw (d + 3) fB21 (56, [.ref 0, .int t, .null], [], Y, J)) (m_23 15 24 (bgn 24 (ra_M M t))) (fun Y eY =>
      fw_n (s' := (66, [.ref 0, .int t, .int 0], [], (fl_u Y 42 0 0), J)) hB 6 rfl <|
      (by subst eY; exact (q1 h1 h2 h3)))) (fun h3 =>
     fw_n (s' := (37, [.ref 0, .int t, .null], [.int (-4)], (ra_M M t), J)) hB 1 rfl <|
     fw_ri rfl rfl)))
set_option maxRecDepth 8000 in
theorem fs_119 (d : Nat) (M : fl_M) (J : fl_J) (t : Int32) (hs : ∀ q, q < 4 → (M 89 q).toInt ≤ 60) : fw (d + 5) fB119 (0, [.ref 81, .int t], [], M, J) := by
  have hB : fw_B fB119 := fw_sB (k := 119) (by decide)
  exact fw_n (s' := (1, [.ref 81, .int t], [.int t], M, J)) hB 1 rfl <|
  fw_cs hB (st0 := []) (o := some (.int (if (¬ (t < 0)) ∧ (¬ (3 < t)) then 1 else 0))) rfl rfl (by decide) rfl rfl (show (0 : Nat) ≤ 8 by decide) (cu_117 _ M J t) rfl <|
  fw_sh (s := (4, [.ref 81, .int t], [.int (if (¬ (t < 0)) ∧ (¬ (3 < t)) then 1 else 0)], M, J)) <|
  fw_if hB (t := 9) rfl rfl fl_b1 (fun h1 =>
   fw_n (s' := (14, [.ref 81, .int t], [.int t, .ref 89], M, J)) hB 3 rfl <|
   fw_ia hB rfl rfl (by decide) (t3 h1).1 (show t.toInt < 4 from (t3 h1).2) <|
   fw_ifN hB (t := 26) rfl rfl fl_nlt (fun h2 =>
    fw_n (s' := (20, [.ref 81, .int t], [.int 1, .ref 81], M, J)) hB 2 rfl <|
    fw_cv hB (st0 := []) (o := some (.int (-3))) rfl rfl rfl rfl rfl (show (0 : Nat) ≤ 8 by decide) rfl (by decide) (cu_106 _ M J 1 (by decide) (by decide)) rfl <|
    fw_sh (s := (23, [.ref 81, .int t], [.int (-3)], (fl_u (fl_u M 81 14 1) 91 1 ((M 91 1) + 1)), J)) <|
    fw_n (s' := (31, [.ref 81, .int t], [.int (-3)], (fl_u (fl_u M 81 14 1) 91 1 ((M 91 1) + 1)), J)) hB 1 rfl <|
    fw_ri rfl rfl) (fun h2 =>
    fw_n (s' := (28, [.ref 81, .int t], [.int t, .ref 81], M, J)) hB 2 rfl <|
    fw_cv hB (st0 := []) (o := some (.int (fo_v M t))) rfl rfl rfl rfl rfl (show (0 : Nat) ≤ 8 by decide) rfl (by decide) (ct_120 _ M J t (t3 h1).1 (t3 h1).2 hs h2) rfl <|
    fw_sh (s := (31, [.ref 81, .int t], [.int (fo_v M t)], (fo_M M t), J)) <|
    fw_ri rfl rfl)) (fun h1 =>
   fw_n (s' := (8, [.ref 81, .int t], [.int (-1)], M, J)) hB 1 rfl <|
   fw_ri rfl rfl)
set_option maxRecDepth 8000 in
theorem fs_129 (d : Nat) (M : fl_M) (J : fl_J) (t : Int32) (hs : ∀ q, q < 4 → (M 89 q).toInt ≤ 60) (q1 : ((¬ (t < 0)) ∧ (¬ (3 < t))) → (¬ ((M 89 t.toNatClampNeg) < 0)) → ((fo_v M t) = (-9)) → fw (d + 5) fB129 (39, [.ref 81, .int t, .int 0], [], (fo_M M t), J)) : fw (d + 5) fB129 (0, [.ref 81, .int t, .null], [], M, J) := by
  have hB : fw_B fB129 := fw_sB (k := 129) (by decide)
  exact fw_n (s' := (1, [.ref 81, .int t, .null], [.int t], M, J)) hB 1 rfl <|
  fw_cs hB (st0 := []) (o := some (.int (if (¬ (t < 0)) ∧ (¬ (3 < t)) then 1 else 0))) rfl rfl (by decide) rfl rfl (show (0 : Nat) ≤ 8 by decide) (cu_117 _ M J t) rfl <|
  fw_sh (s := (4, [.ref 81, .int t, .null], [.int (if (¬ (t < 0)) ∧ (¬ (3 < t)) then 1 else 0)], M, J)) <|
  fw_if hB (t := 9) rfl rfl fl_b1 (fun h1 =>
   fw_n (s' := (14, [.ref 81, .int t, .null], [.int t, .ref 89], M, J)) hB 3 rfl <|
   fw_ia hB rfl rfl (by decide) (t3 h1).1 (show t.toInt < 4 from (t3 h1).2) <|
   fw_ifN hB (t := 24) rfl rfl fl_nlt (fun h2 =>
    fw_n (s' := (20, [.ref 81, .int t, .null], [.int 1, .ref 81], M, J)) hB 2 rfl <|
    fw_cv hB (st0 := []) (o := some (.int (-3))) rfl rfl rfl rfl rfl (show (0 : Nat) ≤ 8 by decide) rfl (by decide) (cu_106 _ M J 1 (by decide) (by decide)) rfl <|
    fw_sh (s := (23, [.ref 81, .int t, .null], [.int (-3)], (fl_u (fl_u M 81 14 1) 91 1 ((M 91 1) + 1)), J)) <|
    fw_ri rfl rfl) (fun h2 =>
    fw_n (s' := (26, [.ref 81, .int t, .null], [.int t, .ref 81], M, J)) hB 2 rfl <|
    fw_cv hB (st0 := []) (o := some (.int (fo_v M t))) rfl rfl rfl rfl rfl (show (0 : Nat) ≤ 8 by decide) rfl (by decide) (ct_120 _ M J t (t3 h1).1 (t3 h1).2 hs h2) rfl <|
    fw_sh (s := (29, [.ref 81, .int t, .null], [.int (fo_v M t)], (fo_M M t), J)) <|
    fw_n (s' := (31, [.ref 81, .int t, .null], [.int (-9), .int (fo_v M t)], (fo_M M t), J)) hB 1 rfl <|
    fw_ic hB (t := 37) rfl rfl fl_cT (fun h3 =>
     fw_n (s' := (39, [.ref 81, .int t, .int 0], [], (fo_M M t), J)) hB 2 rfl <|
     (q1 h1 h2 h3)) (fun h3 =>
     fw_n (s' := (36, [.ref 81, .int t, .null], [.int (-4)], (fo_M M t), J)) hB 1 rfl <|
     fw_ri rfl rfl))) (fun h1 =>
   fw_n (s' := (8, [.ref 81, .int t, .null], [.int (-1)], M, J)) hB 1 rfl <|
   fw_ri rfl rfl)
section FWT
variable (d : Nat) (M : fl_M) (J : fl_J) (t : Int32)
theorem fw_14 (hs : ∀ q, q < 4 → (M 9 q).toInt ≤ 60) (hK : M 999 = sm_kl) : fw_C (d + 4) 14 [.ref 0, .int t] M J := by
  refine fw_Co (d := d + 3) (B := fB14) (by decide) rfl rfl (show (2 : Nat) ≤ 2 by decide) ?_ (fs_14 d M J t hs hK)
  intro i v hv hn
  match i, hv with
  | 0, hv => cases hv; rfl
  | 1, hv => cases hv; rfl
  | _ + 2, hv => cases hv
theorem fw_119 (hs : ∀ q, q < 4 → (M 89 q).toInt ≤ 60) : fw_C (d + 6) 119 [.ref 81, .int t] M J := by
  refine fw_Co (d := d + 5) (B := fB119) (by decide) rfl rfl (show (2 : Nat) ≤ 2 by decide) ?_ (fs_119 d M J t hs)
  intro i v hv hn
  match i, hv with
  | 0, hv => cases hv; rfl
  | 1, hv => cases hv; rfl
  | _ + 2, hv => cases hv
theorem bgn_24 (X : fl_M) : bgn 24 X 24 0 = X 24 0 ∧ bgn 24 X 24 1 = X 24 1 := by
  unfold bgn
  have a : ∀ (Y : fl_M) (j : Nat), lr_22_53 24 Y 24 j = Y 24 j := by
    intro Y j
    unfold lr_22_53 lq_22_53
    generalize (Y 24 1).toNatClampNeg = n
    induction n with
    | zero => rfl
    | succ n ih => rw [fx_it_s]; unfold ls_22_53; rw [fl_un (by decide)]; exact ih
  have b : ∀ (Y : fl_M) (j : Nat), lr_22_18 24 Y 24 j = Y 24 j := by
    intro Y j
    unfold lr_22_18 lq_22_18
    generalize (Y 24 0).toNatClampNeg = n
    induction n with
    | zero => rfl
    | succ n ih => rw [fx_it_s]; unfold ls_22_18; rw [fl_un (by decide), fl_un (by decide)]; exact ih
  exact ⟨by rw [a, b, fl_uo (Or.inr (by decide)), fl_uo (Or.inr (by decide)), fl_uo (Or.inr (by decide))], by rw [a, b, fl_uo (Or.inr (by decide)), fl_uo (Or.inr (by decide)), fl_uo (Or.inr (by decide))]⟩
theorem fw_21 (hs : ∀ q, q < 4 → (M 9 q).toInt ≤ 60) (hK : M 999 = sm_kl) (hr : ∀ j : Nat, j < 4 → 0 ≤ (M 31 j).toInt ∧ (M 31 j).toInt ≤ 7) : fw_C (d + 4) 21 [.ref 0, .int t] M J := by
  have cR : 0 ≤ t.toInt ∧ t.toInt < 4 → ((ra_M M t) 24 0).toInt ≤ 8 ∧ ((ra_M M t) 24 1).toInt ≤ 4 := fun h => by
    have q := (cq_ra hK h.1 (by omega) hr).1
    exact ⟨q.1.2, q.2.1.2⟩
  refine fw_Co (d := d + 3) (B := fB21) (by decide) rfl rfl (show (2 : Nat) ≤ 3 by decide) ?_ (fs_21 d M J t hs hK cR (fun h => ?_) (fun _ _ _ => fq_21 (d + 3) J t 3 _ _ (by decide) (by decide)))
  · intro i v hv hn
    match i, hv with
    | 0, hv => cases hv; rfl
    | 1, hv => cases hv; rfl
    | 2, hv => cases hv; exact absurd rfl hn
    | _ + 3, hv => cases hv
  · rw [(bgn_24 _).1, (bgn_24 _).2]
    exact cR h
theorem fw_129 (hs : ∀ q, q < 4 → (M 89 q).toInt ≤ 60) (hr : ∀ j : Nat, (j = 1 ∨ j = 4 ∨ j = 7 ∨ j = 10) → 0 ≤ (M 94 j).toInt ∧ (M 94 j).toInt ≤ 7) : fw_C (d + 6) 129 [.ref 81, .int t] M J := by
  refine fw_Co (d := d + 5) (B := fB129) (by decide) rfl rfl (show (2 : Nat) ≤ 3 by decide) ?_ (fs_129 d M J t hs (fun h1 h2 _ => ?_))
  · intro i v hv hn
    match i, hv with
    | 0, hv => cases hv; rfl
    | 1, hv => cases hv; rfl
    | 2, hv => cases hv; exact absurd rfl hn
    | _ + 3, hv => cases hv
  · obtain ⟨t0, t1⟩ := t3 h1
    rw [fi_l, fi_i0] at h2
    have q := (rz_fo t0 (by omega) (by omega) (hs _ (tq t0 t1)) hr).1
    exact fq_129a (d + 5) J t 944 _ _ (by decide) q.2.2.1.2 q.2.2.2.2 (by decide)
end FWT
