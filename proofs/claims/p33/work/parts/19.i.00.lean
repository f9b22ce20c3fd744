/-! A run is there: fault, register (both sides). -/
theorem fi_944 : (944 : Int32).toInt = 944 := rfl
section FWR
variable {d : Nat} {B : sm_P} {pc : Nat} {ls st : List Value} {M : fl_M} {J : fl_J} {s s' : fl_S}
theorem fw_icN (hB : fw_B B) {q : Jvm.ClassFile.Cond} {off : Int} {t : Nat} {x y : Int32} {c : Prop} [Decidable c] (hi : B.1 pc = some (.if_icmp q off, 3)) (ht : sm_j pc off = some t) (hb : sm_cmp q x y = true ↔ ¬ c) (k1 : c → fw d B (pc + 3, ls, st, M, J)) (k2 : ¬ c → fw d B (t, ls, st, M, J)) : fw d B (pc, ls, .int y :: .int x :: st, M, J) :=
  fw_ic hB hi ht hb k2 (fun z => k1 (Decidable.not_not.mp z))
theorem fw_ifN (hB : fw_B B) {q : Jvm.ClassFile.Cond} {off : Int} {t : Nat} {x : Int32} {c : Prop} [Decidable c] (hi : B.1 pc = some (.ifCond q off, 3)) (ht : sm_j pc off = some t) (hb : sm_cmp q x 0 = true ↔ ¬ c) (k1 : c → fw d B (pc + 3, ls, st, M, J)) (k2 : ¬ c → fw d B (t, ls, st, M, J)) : fw d B (pc, ls, .int x :: st, M, J) :=
  fw_if hB hi ht hb k2 (fun z => k1 (Decidable.not_not.mp z))
theorem fw_cv (hB : fw_B B) {x k np ci m b : Nat} {As st0 st' : List Value} {o : Option Value} {M' : fl_M} {J' : fl_J} (hi : B.1 pc = some (.invokevirtual x, 3)) (hc : B.2.2.1 x = some (0, k, np, ci)) (hm : m = np + 1) (hn : np = As.length) (hst : st = As.reverse ++ .ref b :: st0) (hcat : (st0.map fun v => v.category).sum ≤ 8) (hkd : fl_kd b = 10 + ci) (hci : ci < 4) (hC : tw_C d k (.ref b :: As) M J (o, M', J')) (hr : o.toList ++ st0 = st') (kk : fw d B (pc + 3, ls, st', M', J')) : fw d B (pc, ls, st, M, J) := by
  subst hst
  subst hn
  subst hr
  refine fw_call hB hi (fun h hH => ?_) hC.1 hC.2 kk
  obtain ⟨fs, hf, -⟩ := fw_obj hH.1 hkd hci
  exact ⟨rfl, hcat, Or.inl ⟨x, ci, b, As, rfl, hc, rfl, rfl, fs, hf⟩⟩
theorem fw_cs (hB : fw_B B) {x k np ci t : Nat} {vs st0 st' : List Value} {o : Option Value} {M' : fl_M} {J' : fl_J} (hi : B.1 pc = some (.invokestatic x, 3)) (hc : B.2.2.1 x = some (t, k, np, ci)) (ht : t = 1 ∨ t = 2) (hn : np = vs.length) (hst : st = vs.reverse ++ st0) (hcat : (st0.map fun v => v.category).sum ≤ 8) (hC : tw_C d k vs M J (o, M', J')) (hr : o.toList ++ st0 = st') (kk : fw d B (pc + 3, ls, st', M', J')) : fw d B (pc, ls, st, M, J) := by
  subst hst
  subst hn
  subst hr
  refine fw_call hB hi (fun h hH => ?_) hC.1 hC.2 kk
  rcases ht with rfl | rfl
  · exact ⟨rfl, hcat, Or.inr (Or.inl ⟨x, ci, rfl, hc, rfl⟩)⟩
  · exact ⟨rfl, hcat, Or.inr (Or.inr ⟨x, ci, rfl, hc, rfl⟩)⟩
theorem fw_ri {v : Int32} (hi : B.1 pc = some (.ireturn, 1)) (hr : B.2.2.2 = some .int) : fw d B (pc, ls, [.int v], M, J) := fw_re (o := some (.int v)) hi ⟨rfl, Or.inl ⟨rfl, v, rfl, rfl, Or.inl hr⟩⟩
theorem fw_rv (hi : B.1 pc = some (.return_, 1)) (hr : B.2.2.2 = none) : fw d B (pc, ls, [], M, J) := fw_re (o := none) hi ⟨rfl, Or.inr (Or.inr ⟨rfl, rfl, rfl, hr⟩)⟩
theorem fw_d2 (hB : fw_B B) {v w : Value} (hi : B.1 pc = some (.dup2, 1)) (hv : v.category = 1) (hw : w.category = 1) (k : fw d B (pc + 1, ls, v :: w :: v :: w :: st, M, J)) : fw d B (pc, ls, v :: w :: st, M, J) := by
  refine fw_s (st' := v :: w :: v :: w :: st) hB hi (fun h lv hH hl => ⟨h, ?_⟩) rfl k
  show (if v.category = 1 ∧ w.category = 1 then _ else none) = _
  rw [if_pos ⟨hv, hw⟩]
theorem tw_d2 {r : fl_Q} (hB : fw_B B) {v w : Value} (hi : B.1 pc = some (.dup2, 1)) (hv : v.category = 1) (hw : w.category = 1) (k : tw d B (pc + 1, ls, v :: w :: v :: w :: st, M, J) r) : tw d B (pc, ls, v :: w :: st, M, J) r :=
  ⟨fw_d2 hB hi hv hw k.1, fl_td (fl_i1 (fun d f => by unfold fl_one; dsimp only; rw [hi]; rfl)) k.2⟩
theorem fw_pf (hB : fw_B B) {a x ci j : Nat} {v : Int32} (hi : B.1 pc = some (.putfield x, 3)) (hx : B.2.1.1 x = some (ci, j, 0)) (hkd : fl_kd a = 10 + ci) (hci : ci < 4) (hj : j < fl_nf ci) (k : fw d B (pc + 3, ls, st, fl_u M a j v, J)) : fw d B (pc, ls, .int v :: .ref a :: st, M, J) := by
  refine fw_s (st' := st) hB hi (fun h lv hH hl => ?_) ?_ k
  · obtain ⟨hh, rfl, rfl⟩ := hH
    obtain ⟨fs, hf, hl2⟩ := fw_obj hh hkd hci
    refine ⟨h.set a (.inr (ci, fs.set j (.int v))), ?_⟩
    show (B.2.1.1 x).bind _ = _
    rw [hx]
    show (sm_obj h a ci).bind _ = _
    rw [hf]
    show (if j < fs.length then _ else _) = _
    rw [if_pos (by rw [hl2]; exact hj)]
  · show (B.2.1.1 x).bind _ = _
    rw [hx]
    rfl
theorem kd46 {i : Int32} (h0 : 0 ≤ i.toInt) (h3 : i.toInt < 3) : fl_kd (fl_ar 46 i.toNatClampNeg) = 10 + 0 := by
  have e := fi_cl i
  have : i.toNatClampNeg = 0 ∨ i.toNatClampNeg = 1 ∨ i.toNatClampNeg = 2 := by omega
  rcases this with h | h | h <;> rw [h] <;> rfl
theorem fw_sh (h : fw d B s) : fw d B s := h
end FWR
theorem fw_Co {d k : Nat} {B : sm_P} {vs ls : List Value} {M : fl_M} {J : fl_J} (hk : k < 200) (hB : sm_B k = B) (hl : fl_args (sm_ML k) vs = ls) (hv : (lg_sl vs).length ≤ sm_ML k) (hg : ∀ (i : Nat) (v : Value), ls[i]? = some v → v ≠ .null → sm_get (lv_args 0 vs) i = some v) (h : fw d B (0, ls, [], M, J)) : fw_C (d + 1) k vs M J := by
  intro hp hH
  have hv2 : (fl_sl vs).length ≤ sm_ML k := by rw [fl_sl_len]; exact hv
  have e : B.2.1.2.2.2.2.2.1 = sm_ML k := by rw [← hB]; rfl
  obtain ⟨g, o, h', hr⟩ := h hp (lv_args 0 vs) hH ⟨⟨by
    rw [e, ← hl]
    unfold fl_args
    rw [List.length_append, List.length_replicate]
    omega, fun q hq => by rw [← hl]; exact fl_sl_at vs [] _ q hq⟩, hg⟩
  exact ⟨o, h', hk, hv, g, by rw [hB]; exact hr⟩
theorem t4 {t : Int32} (h : ¬ ((t < 0) ∨ (¬ (t < 4)))) : 0 ≤ t.toInt ∧ t.toInt < 4 := by
  have a : ¬ t < 0 := fun z => h (Or.inl z)
  have b : t < 4 := Decidable.not_not.mp (fun z => h (Or.inr z))
  rw [fi_l, fi_i0] at a
  rw [fi_l, fi_i4] at b
  exact ⟨by omega, b⟩
theorem t3 {t : Int32} (h : (¬ (t < 0)) ∧ (¬ (3 < t))) : 0 ≤ t.toInt ∧ t.toInt < 4 := by
  obtain ⟨a, b⟩ := h
  rw [fi_l, fi_i0] at a
  rw [fi_l, fi_i3] at b
  exact ⟨by omega, by omega⟩
theorem tq {t : Int32} (h0 : 0 ≤ t.toInt) (h4 : t.toInt < 4) : t.toNatClampNeg < 4 := by
  have := fi_cl t
  omega
theorem ct_15 (d : Nat) (M : fl_M) (J : fl_J) (t : Int32) (h0 : 0 ≤ t.toInt) (h4 : t.toInt < 4) (hs : ∀ q, q < 4 → (M 9 q).toInt ≤ 60) (hK : M 999 = sm_kl) : tw_C (d + 3) 15 [.ref 0, .int t] M J (some (.int (ra_v M t)), ra_M M t, J) :=
  cc_15 d M J t h0 (by omega) (hs _ (tq h0 h4)) hK
theorem ct_120 (d : Nat) (M : fl_M) (J : fl_J) (t : Int32) (h0 : 0 ≤ t.toInt) (h4 : t.toInt < 4) (hs : ∀ q, q < 4 → (M 89 q).toInt ≤ 60) (hz : ¬ M 89 t.toNatClampNeg < 0) : tw_C (d + 5) 120 [.ref 81, .int t] M J (some (.int (fo_v M t)), fo_M M t, J) :=
  cc_120 d M J t h0 (by omega) (by rw [fi_l, fi_i0] at hz; omega) (hs _ (tq h0 h4))
set_option maxRecDepth 8000 in
theorem cu_12 (d : Nat) (M : fl_M) (J : fl_J) (t : Int32) : tw_C (d + 1) 12 [.int t] M J (some (.int (if (t < 0) ∨ (¬ (t < 4)) then 1 else 0)), M, J) := by
  have hB : fw_B fB12 := fw_sB (k := 12) (by decide)
  refine tw_Co (d := d + 0) (B := fB12) (by decide) rfl rfl (show (1 : Nat) ≤ 1 by decide) ?_ ?_
  · intro i v hv hn
    match i, hv with
    | 0, hv => cases hv; rfl
    | _ + 1, hv => cases hv
  exact tw_n (s' := (1, [.int t], [.int t], M, J)) hB 1 rfl <|
  tw_if hB (t := 9) rfl rfl fl_cT (fun h1 =>
   tw_n (s' := (14, [.int t], [.int 1], M, J)) hB 2 rfl <|
   tw_rb rfl rfl (by first | decide | (split <;> decide)) (by simp [h1])) (fun h1 =>
   tw_n (s' := (6, [.int t], [.int 4, .int t], M, J)) hB 2 rfl <|
   tw_ic hB (t := 13) rfl rfl fl_cT (fun h2 =>
    tw_n (s' := (14, [.int t], [.int 0], M, J)) hB 1 rfl <|
    tw_rb rfl rfl (by first | decide | (split <;> decide)) (by simp [h1, h2])) (fun h2 =>
    tw_n (s' := (14, [.int t], [.int 1], M, J)) hB 2 rfl <|
    tw_rb rfl rfl (by first | decide | (split <;> decide)) (by simp [h1, h2])))
set_option maxRecDepth 8000 in
theorem cu_117 (d : Nat) (M : fl_M) (J : fl_J) (t : Int32) : tw_C (d + 2) 117 [.int t] M J (some (.int (if (¬ (t < 0)) ∧ (¬ (3 < t)) then 1 else 0)), M, J) := by
  have hB : fw_B fB117 := fw_sB (k := 117) (by decide)
  refine tw_Co (d := d + 1) (B := fB117) (by decide) rfl rfl (show (1 : Nat) ≤ 1 by decide) ?_ ?_
  · intro i v hv hn
    match i, hv with
    | 0, hv => cases hv; rfl
    | _ + 1, hv => cases hv
  exact tw_n (s' := (6, [.int t], [.long 3, .long 0, .long t.toInt64], M, J)) hB 4 rfl <|
  tw_cs hB (st0 := []) (o := some (.int (if (¬ (t < 0)) ∧ (¬ (3 < t)) then 1 else 0))) rfl rfl (by decide) rfl rfl (show (0 : Nat) ≤ 8 by decide) (ct_105i _ M J t 0 3) rfl <|
  tw_sh (s := (9, [.int t], [.int (if (¬ (t < 0)) ∧ (¬ (3 < t)) then 1 else 0)], M, J)) <|
  tw_rb rfl rfl (by first | decide | (split <;> decide)) (rfl)
set_option maxRecDepth 8000 in
theorem cu_2 (d : Nat) (M : fl_M) (J : fl_J) (v : Int32) (h0 : 0 ≤ v.toInt) (h5 : v.toInt ≤ 5) : tw_C (d + 1) 2 [.ref 0, .int v] M J (some (.int (-3)), (fl_u (fl_u M 0 11 v) 80 v.toNatClampNeg ((M 80 v.toNatClampNeg) + 1)), J) := by
  have hB : fw_B fB2 := fw_sB (k := 2) (by decide)
  refine tw_Co (d := d + 0) (B := fB2) (by decide) rfl rfl (show (2 : Nat) ≤ 2 by decide) ?_ ?_
  · intro i v hv hn
    match i, hv with
    | 0, hv => cases hv; rfl
    | 1, hv => cases hv; rfl
    | _ + 2, hv => cases hv
  exact tw_n (s' := (10, [.ref 0, .int v], [.int v, .ref 80], (fl_u M 0 11 v), J)) hB 6 rfl <|
  tw_d2 hB rfl rfl rfl <|
  tw_ia hB rfl rfl (by decide) h0 (show v.toInt < 6 by omega) <|
  tw_n (s' := (14, [.ref 0, .int v], [.int ((M 80 v.toNatClampNeg) + 1), .int v, .ref 80], (fl_u M 0 11 v), J)) hB 2 rfl <|
  tw_is hB rfl rfl (by decide) h0 (show v.toInt < 6 by omega) <|
  tw_n (s' := (17, [.ref 0, .int v], [.int (-3)], (fl_u (fl_u M 0 11 v) 80 v.toNatClampNeg ((M 80 v.toNatClampNeg) + 1)), J)) hB 1 rfl <|
  tw_ri rfl rfl (rfl)
set_option maxRecDepth 8000 in
theorem cu_106 (d : Nat) (M : fl_M) (J : fl_J) (v : Int32) (h0 : 0 ≤ v.toInt) (h5 : v.toInt ≤ 5) : tw_C (d + 1) 106 [.ref 81, .int v] M J (some (.int (-3)), (fl_u (fl_u M 81 14 v) 91 v.toNatClampNeg ((M 91 v.toNatClampNeg) + 1)), J) := by
  have hB : fw_B fB106 := fw_sB (k := 106) (by decide)
  refine tw_Co (d := d + 0) (B := fB106) (by decide) rfl rfl (show (2 : Nat) ≤ 2 by decide) ?_ ?_
  · intro i v hv hn
    match i, hv with
    | 0, hv => cases hv; rfl
    | 1, hv => cases hv; rfl
    | _ + 2, hv => cases hv
  exact tw_n (s' := (10, [.ref 81, .int v], [.int v, .ref 91], (fl_u M 81 14 v), J)) hB 6 rfl <|
  tw_d2 hB rfl rfl rfl <|
  tw_ia hB rfl rfl (by decide) h0 (show v.toInt < 6 by omega) <|
  tw_n (s' := (14, [.ref 81, .int v], [.int ((M 91 v.toNatClampNeg) + 1), .int v, .ref 91], (fl_u M 81 14 v), J)) hB 2 rfl <|
  tw_is hB rfl rfl (by decide) h0 (show v.toInt < 6 by omega) <|
  tw_n (s' := (17, [.ref 81, .int v], [.int (-3)], (fl_u (fl_u M 81 14 v) 91 v.toNatClampNeg ((M 91 v.toNatClampNeg) + 1)), J)) hB 1 rfl <|
  tw_ri rfl rfl (rfl)
set_option maxRecDepth 8000 in
theorem fs_22_0 (d : Nat) (M : fl_M) (J : fl_J) (q1 : fw d fB22 (18, [.ref 24, .int 0], [], (fl_u (fl_u (fl_u M 24 2 0) 24 3 (-9)) 24 4 0), J)) : fw d fB22 (0, [.ref 24, .null], [], M, J) := by
  have hB : fw_B fB22 := fw_sB (k := 22) (by decide)
  exact fw_n (s' := (18, [.ref 24, .int 0], [], (fl_u (fl_u (fl_u M 24 2 0) 24 3 (-9)) 24 4 0), J)) hB 11 rfl <|
  q1
set_option maxRecDepth 8000 in
theorem fs_22_18 (d : Nat) (M : fl_M) (J : fl_J) (i : Int32) (hi : 0 ≤ i.toInt) (h8 : (M 24 0).toInt ≤ 8) (q1 : (i < (M 24 0)) → fw d fB22 (18, [.ref 24, .int (i + 1)], [], (fl_u (fl_u M 27 i.toNatClampNeg (M 26 i.toNatClampNeg)) 28 i.toNatClampNeg 0), J)) (q2 : (¬ (i < (M 24 0))) → fw d fB22 (53, [.ref 24, .int 0], [], M, J)) : fw d fB22 (18, [.ref 24, .int i], [], M, J) := by
  have hB : fw_B fB22 := fw_sB (k := 22) (by decide)
  exact fw_n (s' := (23, [.ref 24, .int i], [.int (M 24 0), .int i], M, J)) hB 3 rfl <|
  fw_icN hB (t := 51) rfl rfl fl_nlt (fun h1 =>
   fw_n (s' := (36, [.ref 24, .int i], [.int i, .ref 26, .int i, .ref 27], M, J)) hB 6 rfl <|
   fw_ia hB rfl rfl (by decide) (by have z : i.toInt < (M 24 0).toInt := fi_l.mp h1; show 0 ≤ (i).toInt; omega) (by have z : i.toInt < (M 24 0).toInt := fi_l.mp h1; show (i).toInt < 8; omega) <|
   fw_ia2 hB rfl rfl (by decide) (by have z : i.toInt < (M 24 0).toInt := fi_l.mp h1; show 0 ≤ (i).toInt; omega) (by have z : i.toInt < (M 24 0).toInt := fi_l.mp h1; show (i).toInt < 8; omega) <|
   fw_n (s' := (44, [.ref 24, .int i], [.int 0, .int i, .ref 28], (fl_u M 27 i.toNatClampNeg (M 26 i.toNatClampNeg)), J)) hB 4 rfl <|
   fw_ia2 hB rfl rfl (by decide) (by have z : i.toInt < (M 24 0).toInt := fi_l.mp h1; show 0 ≤ (i).toInt; omega) (by have z : i.toInt < (M 24 0).toInt := fi_l.mp h1; show (i).toInt < 8; omega) <|
   fw_n (s' := (18, [.ref 24, .int (i + 1)], [], (fl_u (fl_u M 27 i.toNatClampNeg (M 26 i.toNatClampNeg)) 28 i.toNatClampNeg 0), J)) hB 2 rfl <|
   (q1 h1)) (fun h1 =>
   fw_n (s' := (53, [.ref 24, .int 0], [], M, J)) hB 2 rfl <|
   (q2 h1))
set_option maxRecDepth 8000 in
theorem fs_22_53 (d : Nat) (M : fl_M) (J : fl_J) (i : Int32) (hi : 0 ≤ i.toInt) (h4 : (M 24 1).toInt ≤ 4) (q1 : (i < (M 24 1)) → fw d fB22 (53, [.ref 24, .int (i + 1)], [], (fl_u M 32 i.toNatClampNeg (M 31 i.toNatClampNeg)), J)) : fw d fB22 (53, [.ref 24, .int i], [], M, J) := by
  have hB : fw_B fB22 := fw_sB (k := 22) (by decide)
  exact fw_n (s' := (58, [.ref 24, .int i], [.int (M 24 1), .int i], M, J)) hB 3 rfl <|
  fw_icN hB (t := 79) rfl rfl fl_nlt (fun h1 =>
   fw_n (s' := (71, [.ref 24, .int i], [.int i, .ref 31, .int i, .ref 32], M, J)) hB 6 rfl <|
   fw_ia hB rfl rfl (by decide) (by have z : i.toInt < (M 24 1).toInt := fi_l.mp h1; show 0 ≤ (i).toInt; omega) (by have z : i.toInt < (M 24 1).toInt := fi_l.mp h1; show (i).toInt < 4; omega) <|
   fw_ia2 hB rfl rfl (by decide) (by have z : i.toInt < (M 24 1).toInt := fi_l.mp h1; show 0 ≤ (i).toInt; omega) (by have z : i.toInt < (M 24 1).toInt := fi_l.mp h1; show (i).toInt < 4; omega) <|
   fw_n (s' := (53, [.ref 24, .int (i + 1)], [], (fl_u M 32 i.toNatClampNeg (M 31 i.toNatClampNeg)), J)) hB 2 rfl <|
   (q1 h1)) (fun h1 =>
   fw_rv rfl rfl)
set_option maxRecDepth 8000 in
theorem fs_23_0 (d : Nat) (M : fl_M) (J : fl_J) (q1 : fw d fB23 (42, [.ref 15, .ref 24, .int 0], [], (fl_u (fl_u (fl_u (fl_u (fl_u M 15 0 (M 24 0)) 15 1 (M 24 1)) 15 2 (M 24 2)) 15 3 (M 24 3)) 15 4 (M 24 4)), J)) : fw d fB23 (0, [.ref 15, .ref 24, .null], [], M, J) := by
  have hB : fw_B fB23 := fw_sB (k := 23) (by decide)
  exact fw_n (s' := (42, [.ref 15, .ref 24, .int 0], [], (fl_u (fl_u (fl_u (fl_u (fl_u M 15 0 (M 24 0)) 15 1 (M 24 1)) 15 2 (M 24 2)) 15 3 (M 24 3)) 15 4 (M 24 4)), J)) hB 22 rfl <|
  q1
set_option maxRecDepth 8000 in
theorem fs_23_42 (d : Nat) (M : fl_M) (J : fl_J) (i : Int32) (hi : 0 ≤ i.toInt) (h8 : (M 15 0).toInt ≤ 8) (q1 : (i < (M 15 0)) → fw d fB23 (42, [.ref 15, .ref 24, .int (i + 1)], [], (fl_u (fl_u (fl_u (fl_u M 16 i.toNatClampNeg (M 25 i.toNatClampNeg)) 17 i.toNatClampNeg (M 26 i.toNatClampNeg)) 18 i.toNatClampNeg (M 27 i.toNatClampNeg)) 19 i.toNatClampNeg (M 28 i.toNatClampNeg)), J)) (q2 : (¬ (i < (M 15 0))) → fw d fB23 (106, [.ref 15, .ref 24, .int 0], [], M, J)) : fw d fB23 (42, [.ref 15, .ref 24, .int i], [], M, J) := by
  have hB : fw_B fB23 := fw_sB (k := 23) (by decide)
  exact fw_n (s' := (47, [.ref 15, .ref 24, .int i], [.int (M 15 0), .int i], M, J)) hB 3 rfl <|
  fw_icN hB (t := 104) rfl rfl fl_nlt (fun h1 =>
   fw_n (s' := (60, [.ref 15, .ref 24, .int i], [.int i, .ref 25, .int i, .ref 16], M, J)) hB 6 rfl <|
   fw_ia hB rfl rfl (by decide) (by have z : i.toInt < (M 15 0).toInt := fi_l.mp h1; show 0 ≤ (i).toInt; omega) (by have z : i.toInt < (M 15 0).toInt := fi_l.mp h1; show (i).toInt < 8; omega) <|
   fw_ia2 hB rfl rfl (by decide) (by have z : i.toInt < (M 15 0).toInt := fi_l.mp h1; show 0 ≤ (i).toInt; omega) (by have z : i.toInt < (M 15 0).toInt := fi_l.mp h1; show (i).toInt < 8; omega) <|
   fw_n (s' := (72, [.ref 15, .ref 24, .int i], [.int i, .ref 26, .int i, .ref 17], (fl_u M 16 i.toNatClampNeg (M 25 i.toNatClampNeg)), J)) hB 6 rfl <|
   fw_ia hB rfl rfl (by decide) (by have z : i.toInt < (M 15 0).toInt := fi_l.mp h1; show 0 ≤ (i).toInt; omega) (by have z : i.toInt < (M 15 0).toInt := fi_l.mp h1; show (i).toInt < 8; omega) <|
   fw_ia2 hB rfl rfl (by decide) (by have z : i.toInt < (M 15 0).toInt := fi_l.mp h1; show 0 ≤ (i).toInt; omega) (by have z : i.toInt < (M 15 0).toInt := fi_l.mp h1; show (i).toInt < 8; omega) <|
   fw_n (s' := (84, [.ref 15, .ref 24, .int i], [.int i, .ref 27, .int i, .ref 18], (fl_u (fl_u M 16 i.toNatClampNeg (M 25 i.toNatClampNeg)) 17 i.toNatClampNeg (M 26 i.toNatClampNeg)), J)) hB 6 rfl <|
   fw_ia hB rfl rfl (by decide) (by have z : i.toInt < (M 15 0).toInt := fi_l.mp h1; show 0 ≤ (i).toInt; omega) (by have z : i.toInt < (M 15 0).toInt := fi_l.mp h1; show (i).toInt < 8; omega) <|
   fw_ia2 hB rfl rfl (by decide) (by have z : i.toInt < (M 15 0).toInt := fi_l.mp h1; show 0 ≤ (i).toInt; omega) (by have z : i.toInt < (M 15 0).toInt := fi_l.mp h1; show (i).toInt < 8; omega) <|
   fw_n (s' := (96, [.ref 15, .ref 24, .int i], [.int i, .ref 28, .int i, .ref 19], (fl_u (fl_u (fl_u M 16 i.toNatClampNeg (M 25 i.toNatClampNeg)) 17 i.toNatClampNeg (M 26 i.toNatClampNeg)) 18 i.toNatClampNeg (M 27 i.toNatClampNeg)), J)) hB 6 rfl <|
   fw_ia hB rfl rfl (by decide) (by have z : i.toInt < (M 15 0).toInt := fi_l.mp h1; show 0 ≤ (i).toInt; omega) (by have z : i.toInt < (M 15 0).toInt := fi_l.mp h1; show (i).toInt < 8; omega) <|
   fw_ia2 hB rfl rfl (by decide) (by have z : i.toInt < (M 15 0).toInt := fi_l.mp h1; show 0 ≤ (i).toInt; omega) (by have z : i.toInt < (M 15 0).toInt := fi_l.mp h1; show (i).toInt < 8; omega) <|
   fw_n (s' := (42, [.ref 15, .ref 24, .int (i + 1)], [], (fl_u (fl_u (fl_u (fl_u M 16 i.toNatClampNeg (M 25 i.toNatClampNeg)) 17 i.toNatClampNeg (M 26 i.toNatClampNeg)) 18 i.toNatClampNeg (M 27 i.toNatClampNeg)) 19 i.toNatClampNeg (M 28 i.toNatClampNeg)), J)) hB 2 rfl <|
   (q1 h1)) (fun h1 =>
   fw_n (s' := (106, [.ref 15, .ref 24, .int 0], [], M, J)) hB 2 rfl <|
   (q2 h1))
