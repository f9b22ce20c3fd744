def fB135 : sm_P := (fun pc => sm_ch sm_t135 pc, sm_Kn 3 2 none, fun x => sm_lk sm_ca3 x, some .boolean)
set_option maxRecDepth 8000 in
theorem cc_135 (M : fl_M) (J : fl_J) (s k : Int32) : fl_C 135 [.int s, .int k] M J (some (.int (if ((s >>> (k &&& 31)) &&& 1) = 1 then 1 else 0)), M, J) :=
 fl_Co (B := fB135) rfl rfl <|
 fl_td (s' := (6, [.int s, .int k], [.int 1, .int ((s >>> (k &&& 31)) &&& 1)], M, J)) (fl_n 6 rfl) <|
 fl_dnot (fl_ic (t := 13) rfl rfl) fl_cF (fun h1 =>
  fl_td (s' := (14, [.int s, .int k], [.int 1], M, J)) (fl_n 2 rfl) <|
  fl_rt rfl (fun _ => rfl) (by first | (simp [h1]; done) | (simp_all; done))) (fun h1 =>
  fl_td (s' := (14, [.int s, .int k], [.int 0], M, J)) (fl_n 1 rfl) <|
  fl_rt rfl (fun _ => rfl) (by first | (simp [h1]; done) | (simp_all; done)))
def fB131 : sm_P := (fun pc => sm_ch sm_t131 pc, sm_Kn 3 2 none, fun x => sm_lk sm_ca3 x, some .boolean)
set_option maxRecDepth 8000 in
theorem cc_131 (M : fl_M) (J : fl_J) (l : Int32) : fl_C 131 [.ref 81, .int l] M J (some (.int (if (¬ (l < 0)) ∧ (¬ ((M 81 1) - 1 < l)) then 1 else 0)), M, J) :=
 fl_Co (B := fB131) rfl rfl <|
 fl_td (s' := (10, [.ref 81, .int l], [.long (((M 81 1) - 1).toInt64), .long 0, .long l.toInt64], M, J)) (fl_n 8 rfl) <|
 fl_td (s' := (13, [.ref 81, .int l], [.int (if (¬ (l < 0)) ∧ (¬ ((M 81 1) - 1 < l)) then 1 else 0)], M, J)) (fl_cs (o := some (.int (if (¬ (l < 0)) ∧ (¬ ((M 81 1) - 1 < l)) then 1 else 0))) rfl rfl rfl (cc_105i M J l 0 ((M 81 1) - 1)) rfl) <|
 fl_rt rfl (fun _ => rfl) rfl
def fB140 : sm_P := (fun pc => sm_ch sm_t140 pc, sm_Kn 3 2 none, fun x => sm_lk sm_ca3 x, some .boolean)
set_option maxRecDepth 8000 in
theorem cc_140 (M : fl_M) (J : fl_J) (i : Int32) : fl_C 140 [.ref 81, .int i] M J (some (.int (if (¬ (i < 0)) ∧ (¬ ((M 81 4) - 1 < i)) then 1 else 0)), M, J) :=
 fl_Co (B := fB140) rfl rfl <|
 fl_td (s' := (10, [.ref 81, .int i], [.long (((M 81 4) - 1).toInt64), .long 0, .long i.toInt64], M, J)) (fl_n 8 rfl) <|
 fl_td (s' := (13, [.ref 81, .int i], [.int (if (¬ (i < 0)) ∧ (¬ ((M 81 4) - 1 < i)) then 1 else 0)], M, J)) (fl_cs (o := some (.int (if (¬ (i < 0)) ∧ (¬ ((M 81 4) - 1 < i)) then 1 else 0))) rfl rfl rfl (cc_105i M J i 0 ((M 81 4) - 1)) rfl) <|
 fl_rt rfl (fun _ => rfl) rfl
def fB138 : sm_P := (fun pc => sm_ch sm_t138 pc, sm_Kn 3 4 none, fun x => sm_lk sm_ca3 x, some .int)
def v_138 (kind w ch far : Int32) : Int32 := (if kind = 1 then w + ch else (if kind = 2 then (if w < 4 then (0 + ch) - far else (w + ch) - far) else (if kind = 3 then (w + ch) - far else (if kind = 4 then (if w < 4 then (0 + ch) - far else (w + ch) - far) else (if kind = 5 then (w + (2 * ch)) - far else (w + ch) - far)))))
set_option maxRecDepth 8000 in
theorem cc_138 (M : fl_M) (J : fl_J) (kind w ch far : Int32) : fl_C 138 [.int kind, .int w, .int ch, .int far] M J (some (.int (v_138 kind w ch far)), M, J) :=
 fl_Co (B := fB138) rfl rfl <|
 fl_td (s' := (1, [.int kind, .int w, .int ch, .int far], [.int kind], M, J)) (fl_n 1 rfl) <|
 fl_dc (c := kind = 1) (fun h1 =>
  fl_td (s' := (36, [.int kind, .int w, .int ch, .int far], [], M, J)) (fl_sw h1 rfl) <|
  fl_td (s' := (39, [.int kind, .int w, .int ch, .int far], [.int (w + ch)], M, J)) (fl_n 3 rfl) <|
  fl_rt rfl (fun _ => rfl) (by unfold v_138; first | (simp only [if_pos h1]; done) | rfl)) (fun h1 =>
  fl_dc (c := kind = 2) (fun h2 =>
   fl_td (s' := (40, [.int kind, .int w, .int ch, .int far], [], M, J)) (fl_sw h2 rfl) <|
   fl_td (s' := (42, [.int kind, .int w, .int ch, .int far], [.int 4, .int w], M, J)) (fl_n 2 rfl) <|
   fl_dnot (fl_ic (t := 49) rfl rfl) fl_nlt (fun h3 =>
    fl_td (s' := (54, [.int kind, .int w, .int ch, .int far], [.int ((0 + ch) - far)], M, J)) (fl_n 6 rfl) <|
    fl_rt rfl (fun _ => rfl) (by unfold v_138; first | (simp only [if_neg h1, if_pos h2, if_pos h3]; done) | rfl)) (fun h3 =>
    fl_td (s' := (54, [.int kind, .int w, .int ch, .int far], [.int ((w + ch) - far)], M, J)) (fl_n 5 rfl) <|
    fl_rt rfl (fun _ => rfl) (by unfold v_138; first | (simp only [if_neg h1, if_pos h2, if_neg h3]; done) | rfl))) (fun h2 =>
   fl_dc (c := kind = 3) (fun h4 =>
    fl_td (s' := (63, [.int kind, .int w, .int ch, .int far], [], M, J)) (fl_sw h4 rfl) <|
    fl_td (s' := (68, [.int kind, .int w, .int ch, .int far], [.int ((w + ch) - far)], M, J)) (fl_n 5 rfl) <|
    fl_rt rfl (fun _ => rfl) (by unfold v_138; first | (simp only [if_neg h1, if_neg h2, if_pos h4]; done) | rfl)) (fun h4 =>
    fl_dc (c := kind = 4) (fun h5 =>
     fl_td (s' := (40, [.int kind, .int w, .int ch, .int far], [], M, J)) (fl_sw h5 rfl) <|
     fl_td (s' := (42, [.int kind, .int w, .int ch, .int far], [.int 4, .int w], M, J)) (fl_n 2 rfl) <|
     fl_dnot (fl_ic (t := 49) rfl rfl) fl_nlt (fun h6 =>
      fl_td (s' := (54, [.int kind, .int w, .int ch, .int far], [.int ((0 + ch) - far)], M, J)) (fl_n 6 rfl) <|
      fl_rt rfl (fun _ => rfl) (by unfold v_138; first | (simp only [if_neg h1, if_neg h2, if_neg h4, if_pos h5, if_pos h6]; done) | rfl)) (fun h6 =>
      fl_td (s' := (54, [.int kind, .int w, .int ch, .int far], [.int ((w + ch) - far)], M, J)) (fl_n 5 rfl) <|
      fl_rt rfl (fun _ => rfl) (by unfold v_138; first | (simp only [if_neg h1, if_neg h2, if_neg h4, if_pos h5, if_neg h6]; done) | rfl))) (fun h5 =>
     fl_dc (c := kind = 5) (fun h7 =>
      fl_td (s' := (55, [.int kind, .int w, .int ch, .int far], [], M, J)) (fl_sw h7 rfl) <|
      fl_td (s' := (62, [.int kind, .int w, .int ch, .int far], [.int ((w + (2 * ch)) - far)], M, J)) (fl_n 7 rfl) <|
      fl_rt rfl (fun _ => rfl) (by unfold v_138; first | (simp only [if_neg h1, if_neg h2, if_neg h4, if_neg h5, if_pos h7]; done) | rfl)) (fun h7 =>
      fl_td (s' := (63, [.int kind, .int w, .int ch, .int far], [], M, J)) (fl_swd rfl rfl (by have e0 := fl_ne 1 rfl h1; have e1 := fl_ne 2 rfl h2; have e2 := fl_ne 3 rfl h4; have e3 := fl_ne 4 rfl h5; have e4 := fl_ne 5 rfl h7; omega)) <|
      fl_td (s' := (68, [.int kind, .int w, .int ch, .int far], [.int ((w + ch) - far)], M, J)) (fl_n 5 rfl) <|
      fl_rt rfl (fun _ => rfl) (by unfold v_138; first | (simp only [if_neg h1, if_neg h2, if_neg h4, if_neg h5, if_neg h7]; done) | rfl))))))
def fB142 : sm_P := (fun pc => sm_ch sm_t142 pc, sm_Kn 3 2 none, fun x => sm_lk sm_ca3 x, some .int)
def v_142 (i : Int32) (M : fl_M) : Int32 := (if (M 85 i.toNatClampNeg) = 3 then 2 * (M 86 i.toNatClampNeg) else (if (M 85 i.toNatClampNeg) = 5 then 2 * (M 86 i.toNatClampNeg) else (if (M 85 i.toNatClampNeg) = 4 then ((M 86 i.toNatClampNeg) / 2) + 1 else M 86 i.toNatClampNeg)))
set_option maxRecDepth 8000 in
theorem cc_142 (M : fl_M) (J : fl_J) (i : Int32) : fl_C 142 [.ref 81, .int i] M J (some (.int (v_142 i M)), M, J) :=
 fl_Co (B := fB142) rfl rfl <|
 fl_td (s' := (7, [.ref 81, .int i], [.int 3, .int (M 85 i.toNatClampNeg)], M, J)) (fl_n 5 rfl) <|
 fl_dtwo (fl_ic (t := 20) rfl rfl) fl_cT (fun h1 =>
  fl_td (s' := (60, [.ref 81, .int i], [.int (2 * (M 86 i.toNatClampNeg))], M, J)) (fl_n 7 rfl) <|
  fl_rt rfl (fun _ => rfl) (by unfold v_142; first | (simp only [if_pos h1]; done) | rfl)) (fun h1 =>
  fl_td (s' := (17, [.ref 81, .int i], [.int 5, .int (M 85 i.toNatClampNeg)], M, J)) (fl_n 5 rfl) <|
  fl_dnot (fl_ic (t := 31) rfl rfl) fl_cF (fun h2 =>
   fl_td (s' := (60, [.ref 81, .int i], [.int (2 * (M 86 i.toNatClampNeg))], M, J)) (fl_n 7 rfl) <|
   fl_rt rfl (fun _ => rfl) (by unfold v_142; first | (simp only [if_neg h1, if_pos h2]; done) | rfl)) (fun h2 =>
   fl_td (s' := (38, [.ref 81, .int i], [.int 4, .int (M 85 i.toNatClampNeg)], M, J)) (fl_n 5 rfl) <|
   fl_dnot (fl_ic (t := 54) rfl rfl) fl_cF (fun h3 =>
    fl_td (s' := (60, [.ref 81, .int i], [.int (((M 86 i.toNatClampNeg) / 2) + 1)], M, J)) (fl_n 9 rfl) <|
    fl_rt rfl (fun _ => rfl) (by unfold v_142; first | (simp only [if_neg h1, if_neg h2, if_pos h3]; done) | rfl)) (fun h3 =>
    fl_td (s' := (60, [.ref 81, .int i], [.int (M 86 i.toNatClampNeg)], M, J)) (fl_n 4 rfl) <|
    fl_rt rfl (fun _ => rfl) (by unfold v_142; first | (simp only [if_neg h1, if_neg h2, if_neg h3]; done) | rfl))))
def fB137 : sm_P := (fun pc => sm_ch sm_t137 pc, sm_Kn 3 5 none, fun x => sm_lk sm_ca3 x, some .int)
def v_137 (b i l : Int32) (M : fl_M) : Int32 := (if ((M 82 (((b + 20) + i).toNatClampNeg)) - l) < 0 then 0 - ((M 82 (((b + 20) + i).toNatClampNeg)) - l) else (M 82 (((b + 20) + i).toNatClampNeg)) - l)
set_option maxRecDepth 8000 in
theorem cc_137 (M : fl_M) (J : fl_J) (b i l : Int32) : fl_C 137 [.ref 81, .int b, .int i, .int l] M J (some (.int (v_137 b i l M)), M, J) :=
 fl_Co (B := fB137) rfl rfl <|
 fl_td (s' := (17, [.ref 81, .int b, .int i, .int l, .int ((M 82 (((b + 20) + i).toNatClampNeg)) - l)], [.int ((M 82 (((b + 20) + i).toNatClampNeg)) - l)], M, J)) (fl_n 12 rfl) <|
 fl_dnot (fl_if (t := 26) rfl rfl) fl_nlt (fun h1 =>
  fl_td (s' := (28, [.ref 81, .int b, .int i, .int l, .int ((M 82 (((b + 20) + i).toNatClampNeg)) - l)], [.int (0 - ((M 82 (((b + 20) + i).toNatClampNeg)) - l))], M, J)) (fl_n 3 rfl) <|
  fl_rt rfl (fun _ => rfl) (by unfold v_137; first | (simp only [if_pos h1]; done) | rfl)) (fun h1 =>
  fl_td (s' := (28, [.ref 81, .int b, .int i, .int l, .int ((M 82 (((b + 20) + i).toNatClampNeg)) - l)], [.int ((M 82 (((b + 20) + i).toNatClampNeg)) - l)], M, J)) (fl_n 1 rfl) <|
  fl_rt rfl (fun _ => rfl) (by unfold v_137; first | (simp only [if_neg h1]; done) | rfl))
def fB136 : sm_P := (fun pc => sm_ch sm_t136 pc, sm_Kn 3 4 none, fun x => sm_lk sm_ca3 x, some .int)
def v_136 (b i l : Int32) (M : fl_M) : Int32 := v_138 (M 85 i.toNatClampNeg) (M 83 l.toNatClampNeg) (M 82 (((b + 12) + l).toNatClampNeg)) (v_137 b i l M)
set_option maxRecDepth 8000 in
theorem cc_136 (M : fl_M) (J : fl_J) (b i l : Int32) : fl_C 136 [.ref 81, .int b, .int i, .int l] M J (some (.int (v_136 b i l M)), M, J) :=
 fl_Co (B := fB136) rfl rfl <|
 fl_td (s' := (27, [.ref 81, .int b, .int i, .int l], [.int l, .int i, .int b, .ref 81, .int (M 82 (((b + 12) + l).toNatClampNeg)), .int (M 83 l.toNatClampNeg), .int (M 85 i.toNatClampNeg)], M, J)) (fl_n 20 rfl) <|
 fl_td (s' := (30, [.ref 81, .int b, .int i, .int l], [.int (v_137 b i l M), .int (M 82 (((b + 12) + l).toNatClampNeg)), .int (M 83 l.toNatClampNeg), .int (M 85 i.toNatClampNeg)], M, J)) (fl_cv (o := some (.int (v_137 b i l M))) rfl rfl rfl rfl (cc_137 M J b i l) rfl) <|
 fl_td (s' := (33, [.ref 81, .int b, .int i, .int l], [.int (v_138 (M 85 i.toNatClampNeg) (M 83 l.toNatClampNeg) (M 82 (((b + 12) + l).toNatClampNeg)) (v_137 b i l M))], M, J)) (fl_cs (o := some (.int (v_138 (M 85 i.toNatClampNeg) (M 83 l.toNatClampNeg) (M 82 (((b + 12) + l).toNatClampNeg)) (v_137 b i l M)))) rfl rfl rfl (cc_138 M J (M 85 i.toNatClampNeg) (M 83 l.toNatClampNeg) (M 82 (((b + 12) + l).toNatClampNeg)) (v_137 b i l M)) rfl) <|
 fl_rt rfl (fun _ => rfl) rfl
def fB134 : sm_P := (fun pc => sm_ch sm_t134 pc, sm_Kn 3 9 none, fun x => sm_lk sm_ca3 x, some .int)
-- MiceRegistersModel.wants 9
def ls_134_9 (i1 i2 : Int32) (M : fl_M) (m : Nat) (q : (Int32 × Int32)) : (Int32 × Int32) := (if 0 < (M 82 (((i1 + 4) + (Int32.ofNat m)).toNatClampNeg)) then (if (((M 82 ((i1 + 3).toNatClampNeg)) >>> ((Int32.ofNat m) &&& 31)) &&& 1) = 1 then (if q.2 < 0 then ((Int32.ofNat m), 0) else (if q.1 = (-9) then (q.1, q.2) else (if 0 = q.2 then (if (v_137 i1 i2 (Int32.ofNat m) M) < (v_137 i1 i2 q.1 M) then ((Int32.ofNat m), 0) else (q.1, q.2)) else (q.1, q.2)))) else (if (M 82 ((i1 + 2).toNatClampNeg)) = (Int32.ofNat m) then (if q.2 < 0 then ((Int32.ofNat m), 0) else (if q.1 = (-9) then (q.1, q.2) else (if 0 = q.2 then (if (v_137 i1 i2 (Int32.ofNat m) M) < (v_137 i1 i2 q.1 M) then ((Int32.ofNat m), 0) else (q.1, q.2)) else (q.1, q.2)))) else (if q.2 < (v_136 i1 i2 (Int32.ofNat m) M) then ((Int32.ofNat m), (v_136 i1 i2 (Int32.ofNat m) M)) else (if q.1 = (-9) then (q.1, q.2) else (if (v_136 i1 i2 (Int32.ofNat m) M) = q.2 then (if (v_137 i1 i2 (Int32.ofNat m) M) < (v_137 i1 i2 q.1 M) then ((Int32.ofNat m), (v_136 i1 i2 (Int32.ofNat m) M)) else (q.1, q.2)) else (q.1, q.2)))))) else (if q.2 < 0 then ((Int32.ofNat m), 0) else (if q.1 = (-9) then (q.1, q.2) else (if 0 = q.2 then (if (v_137 i1 i2 (Int32.ofNat m) M) < (v_137 i1 i2 q.1 M) then ((Int32.ofNat m), 0) else (q.1, q.2)) else (q.1, q.2)))))
def lq_134_9 (i1 i2 i3 i4 : Int32) (M : fl_M) (m : Nat) : (Int32 × Int32) := fx_it (ls_134_9 i1 i2 M) m (i3, i4)
theorem lqs_134_9 (i1 i2 i3 i4 : Int32) (M : fl_M) (m : Nat) : lq_134_9 i1 i2 i3 i4 M (m + 1) = (ls_134_9 i1 i2 M) m (lq_134_9 i1 i2 i3 i4 M m) := by
  unfold lq_134_9
  exact fx_it_s _ _ _
def lr_134_9 (i1 i2 i3 i4 : Int32) (M : fl_M) : (Int32 × Int32) := (lq_134_9 i1 i2 i3 i4 M (((M 81 1)).toNatClampNeg))
set_option maxRecDepth 8000 in
theorem ts_134_9 {r : fl_Q} (i1 i2 i3 i4 i5 : Int32) (u6 u7 u8 : Value) (M : fl_M) (J : fl_J) (q1 : (i5 < (M 81 1)) → (0 < (M 82 (((i1 + 4) + i5).toNatClampNeg))) → ((((M 82 ((i1 + 3).toNatClampNeg)) >>> (i5 &&& 31)) &&& 1) = 1) → (i4 < 0) → fl_dn fB134 (9, [.ref 81, .int i1, .int i2, .int i5, .int 0, .int (i5 + 1), .int 0, .int 0, .int 1], [], M, J) r) (q2 : (i5 < (M 81 1)) → (0 < (M 82 (((i1 + 4) + i5).toNatClampNeg))) → ((((M 82 ((i1 + 3).toNatClampNeg)) >>> (i5 &&& 31)) &&& 1) = 1) → (¬ (i4 < 0)) → (i3 = (-9)) → fl_dn fB134 (9, [.ref 81, .int i1, .int i2, .int i3, .int i4, .int (i5 + 1), .int 0, .int 0, .int 0], [], M, J) r) (q3 : (i5 < (M 81 1)) → (0 < (M 82 (((i1 + 4) + i5).toNatClampNeg))) → ((((M 82 ((i1 + 3).toNatClampNeg)) >>> (i5 &&& 31)) &&& 1) = 1) → (¬ (i4 < 0)) → (¬ (i3 = (-9))) → (0 = i4) → ((v_137 i1 i2 i5 M) < (v_137 i1 i2 i3 M)) → fl_dn fB134 (9, [.ref 81, .int i1, .int i2, .int i5, .int 0, .int (i5 + 1), .int 0, .int 0, .int 1], [], M, J) r) (q4 : (i5 < (M 81 1)) → (0 < (M 82 (((i1 + 4) + i5).toNatClampNeg))) → ((((M 82 ((i1 + 3).toNatClampNeg)) >>> (i5 &&& 31)) &&& 1) = 1) → (¬ (i4 < 0)) → (¬ (i3 = (-9))) → (0 = i4) → (¬ ((v_137 i1 i2 i5 M) < (v_137 i1 i2 i3 M))) → fl_dn fB134 (9, [.ref 81, .int i1, .int i2, .int i3, .int i4, .int (i5 + 1), .int 0, .int 0, .int 0], [], M, J) r) (q5 : (i5 < (M 81 1)) → (0 < (M 82 (((i1 + 4) + i5).toNatClampNeg))) → ((((M 82 ((i1 + 3).toNatClampNeg)) >>> (i5 &&& 31)) &&& 1) = 1) → (¬ (i4 < 0)) → (¬ (i3 = (-9))) → (¬ (0 = i4)) → fl_dn fB134 (9, [.ref 81, .int i1, .int i2, .int i3, .int i4, .int (i5 + 1), .int 0, .int 0, .int 0], [], M, J) r) (q6 : (i5 < (M 81 1)) → (0 < (M 82 (((i1 + 4) + i5).toNatClampNeg))) → (¬ ((((M 82 ((i1 + 3).toNatClampNeg)) >>> (i5 &&& 31)) &&& 1) = 1)) → ((M 82 ((i1 + 2).toNatClampNeg)) = i5) → (i4 < 0) → fl_dn fB134 (9, [.ref 81, .int i1, .int i2, .int i5, .int 0, .int (i5 + 1), .int 0, .int 0, .int 1], [], M, J) r) (q7 : (i5 < (M 81 1)) → (0 < (M 82 (((i1 + 4) + i5).toNatClampNeg))) → (¬ ((((M 82 ((i1 + 3).toNatClampNeg)) >>> (i5 &&& 31)) &&& 1) = 1)) → ((M 82 ((i1 + 2).toNatClampNeg)) = i5) → (¬ (i4 < 0)) → (i3 = (-9)) → fl_dn fB134 (9, [.ref 81, .int i1, .int i2, .int i3, .int i4, .int (i5 + 1), .int 0, .int 0, .int 0], [], M, J) r) (q8 : (i5 < (M 81 1)) → (0 < (M 82 (((i1 + 4) + i5).toNatClampNeg))) → (¬ ((((M 82 ((i1 + 3).toNatClampNeg)) >>> (i5 &&& 31)) &&& 1) = 1)) → ((M 82 ((i1 + 2).toNatClampNeg)) = i5) → (¬ (i4 < 0)) → (¬ (i3 = (-9))) → (0 = i4) → ((v_137 i1 i2 i5 M) < (v_137 i1 i2 i3 M)) → fl_dn fB134 (9, [.ref 81, .int i1, .int i2, .int i5, .int 0, .int (i5 + 1), .int 0, .int 0, .int 1], [], M, J) r) (q9 : (i5 < (M 81 1)) → (0 < (M 82 (((i1 + 4) + i5).toNatClampNeg))) → (¬ ((((M 82 ((i1 + 3).toNatClampNeg)) >>> (i5 &&& 31)) &&& 1) = 1)) → ((M 82 ((i1 + 2).toNatClampNeg)) = i5) → (¬ (i4 < 0)) → (¬ (i3 = (-9))) → (0 = i4) → (¬ ((v_137 i1 i2 i5 M) < (v_137 i1 i2 i3 M))) → fl_dn fB134 (9, [.ref 81, .int i1, .int i2, .int i3, .int i4, .int (i5 + 1), .int 0, .int 0, .int 0], [], M, J) r) (q10 : (i5 < (M 81 1)) → (0 < (M 82 (((i1 + 4) + i5).toNatClampNeg))) → (¬ ((((M 82 ((i1 + 3).toNatClampNeg)) >>> (i5 &&& 31)) &&& 1) = 1)) → ((M 82 ((i1 + 2).toNatClampNeg)) = i5) → (¬ (i4 < 0)) → (¬ (i3 = (-9))) → (¬ (0 = i4)) → fl_dn fB134 (9, [.ref 81, .int i1, .int i2, .int i3, .int i4, .int (i5 + 1), .int 0, .int 0, .int 0], [], M, J) r) (q11 : (i5 < (M 81 1)) → (0 < (M 82 (((i1 + 4) + i5).toNatClampNeg))) → (¬ ((((M 82 ((i1 + 3).toNatClampNeg)) >>> (i5 &&& 31)) &&& 1) = 1)) → (¬ ((M 82 ((i1 + 2).toNatClampNeg)) = i5)) → (i4 < (v_136 i1 i2 i5 M)) → fl_dn fB134 (9, [.ref 81, .int i1, .int i2, .int i5, .int (v_136 i1 i2 i5 M), .int (i5 + 1), .int 1, .int (v_136 i1 i2 i5 M), .int 1], [], M, J) r) (q12 : (i5 < (M 81 1)) → (0 < (M 82 (((i1 + 4) + i5).toNatClampNeg))) → (¬ ((((M 82 ((i1 + 3).toNatClampNeg)) >>> (i5 &&& 31)) &&& 1) = 1)) → (¬ ((M 82 ((i1 + 2).toNatClampNeg)) = i5)) → (¬ (i4 < (v_136 i1 i2 i5 M))) → (i3 = (-9)) → fl_dn fB134 (9, [.ref 81, .int i1, .int i2, .int i3, .int i4, .int (i5 + 1), .int 1, .int (v_136 i1 i2 i5 M), .int 0], [], M, J) r) (q13 : (i5 < (M 81 1)) → (0 < (M 82 (((i1 + 4) + i5).toNatClampNeg))) → (¬ ((((M 82 ((i1 + 3).toNatClampNeg)) >>> (i5 &&& 31)) &&& 1) = 1)) → (¬ ((M 82 ((i1 + 2).toNatClampNeg)) = i5)) → (¬ (i4 < (v_136 i1 i2 i5 M))) → (¬ (i3 = (-9))) → ((v_136 i1 i2 i5 M) = i4) → ((v_137 i1 i2 i5 M) < (v_137 i1 i2 i3 M)) → fl_dn fB134 (9, [.ref 81, .int i1, .int i2, .int i5, .int (v_136 i1 i2 i5 M), .int (i5 + 1), .int 1, .int (v_136 i1 i2 i5 M), .int 1], [], M, J) r) (q14 : (i5 < (M 81 1)) → (0 < (M 82 (((i1 + 4) + i5).toNatClampNeg))) → (¬ ((((M 82 ((i1 + 3).toNatClampNeg)) >>> (i5 &&& 31)) &&& 1) = 1)) → (¬ ((M 82 ((i1 + 2).toNatClampNeg)) = i5)) → (¬ (i4 < (v_136 i1 i2 i5 M))) → (¬ (i3 = (-9))) → ((v_136 i1 i2 i5 M) = i4) → (¬ ((v_137 i1 i2 i5 M) < (v_137 i1 i2 i3 M))) → fl_dn fB134 (9, [.ref 81, .int i1, .int i2, .int i3, .int i4, .int (i5 + 1), .int 1, .int (v_136 i1 i2 i5 M), .int 0], [], M, J) r) (q15 : (i5 < (M 81 1)) → (0 < (M 82 (((i1 + 4) + i5).toNatClampNeg))) → (¬ ((((M 82 ((i1 + 3).toNatClampNeg)) >>> (i5 &&& 31)) &&& 1) = 1)) → (¬ ((M 82 ((i1 + 2).toNatClampNeg)) = i5)) → (¬ (i4 < (v_136 i1 i2 i5 M))) → (¬ (i3 = (-9))) → (¬ ((v_136 i1 i2 i5 M) = i4)) → fl_dn fB134 (9, [.ref 81, .int i1, .int i2, .int i3, .int i4, .int (i5 + 1), .int 1, .int (v_136 i1 i2 i5 M), .int 0], [], M, J) r) (q16 : (i5 < (M 81 1)) → (¬ (0 < (M 82 (((i1 + 4) + i5).toNatClampNeg)))) → (i4 < 0) → fl_dn fB134 (9, [.ref 81, .int i1, .int i2, .int i5, .int 0, .int (i5 + 1), .int 0, .int 0, .int 1], [], M, J) r) (q17 : (i5 < (M 81 1)) → (¬ (0 < (M 82 (((i1 + 4) + i5).toNatClampNeg)))) → (¬ (i4 < 0)) → (i3 = (-9)) → fl_dn fB134 (9, [.ref 81, .int i1, .int i2, .int i3, .int i4, .int (i5 + 1), .int 0, .int 0, .int 0], [], M, J) r) (q18 : (i5 < (M 81 1)) → (¬ (0 < (M 82 (((i1 + 4) + i5).toNatClampNeg)))) → (¬ (i4 < 0)) → (¬ (i3 = (-9))) → (0 = i4) → ((v_137 i1 i2 i5 M) < (v_137 i1 i2 i3 M)) → fl_dn fB134 (9, [.ref 81, .int i1, .int i2, .int i5, .int 0, .int (i5 + 1), .int 0, .int 0, .int 1], [], M, J) r) (q19 : (i5 < (M 81 1)) → (¬ (0 < (M 82 (((i1 + 4) + i5).toNatClampNeg)))) → (¬ (i4 < 0)) → (¬ (i3 = (-9))) → (0 = i4) → (¬ ((v_137 i1 i2 i5 M) < (v_137 i1 i2 i3 M))) → fl_dn fB134 (9, [.ref 81, .int i1, .int i2, .int i3, .int i4, .int (i5 + 1), .int 0, .int 0, .int 0], [], M, J) r) (q20 : (i5 < (M 81 1)) → (¬ (0 < (M 82 (((i1 + 4) + i5).toNatClampNeg)))) → (¬ (i4 < 0)) → (¬ (i3 = (-9))) → (¬ (0 = i4)) → fl_dn fB134 (9, [.ref 81, .int i1, .int i2, .int i3, .int i4, .int (i5 + 1), .int 0, .int 0, .int 0], [], M, J) r) (q21 : (¬ (i5 < (M 81 1))) → fl_dn fB134 (164, [.ref 81, .int i1, .int i2, .int i3, .int i4, .int i5, u6, u7, u8], [], M, J) r) : fl_dn fB134 (9, [.ref 81, .int i1, .int i2, .int i3, .int i4, .int i5, u6, u7, u8], [], M, J) r :=
 fl_td (s' := (15, [.ref 81, .int i1, .int i2, .int i3, .int i4, .int i5, u6, u7, u8], [.int (M 81 1), .int i5], M, J)) (fl_n 3 rfl) <|
 fl_dnot (fl_ic (t := 164) rfl rfl) fl_nlt (fun h1 =>
  fl_td (s' := (29, [.ref 81, .int i1, .int i2, .int i3, .int i4, .int i5, u6, u7, u8], [.int (M 82 (((i1 + 4) + i5).toNatClampNeg))], M, J)) (fl_n 8 rfl) <|
  fl_dnot (fl_if (t := 65) rfl rfl) fl_nle (fun h2 =>
   fl_td (s' := (42, [.ref 81, .int i1, .int i2, .int i3, .int i4, .int i5, u6, u7, u8], [.int i5, .int (M 82 ((i1 + 3).toNatClampNeg))], M, J)) (fl_n 7 rfl) <|
   fl_td (s' := (45, [.ref 81, .int i1, .int i2, .int i3, .int i4, .int i5, u6, u7, u8], [.int (if (((M 82 ((i1 + 3).toNatClampNeg)) >>> (i5 &&& 31)) &&& 1) = 1 then 1 else 0)], M, J)) (fl_cs (o := some (.int (if (((M 82 ((i1 + 3).toNatClampNeg)) >>> (i5 &&& 31)) &&& 1) = 1 then 1 else 0))) rfl rfl rfl (cc_135 M J (M 82 ((i1 + 3).toNatClampNeg)) i5) rfl) <|
   fl_dtwo (fl_if (t := 65) rfl rfl) fl_b1 (fun h3 =>
    fl_td (s' := (91, [.ref 81, .int i1, .int i2, .int i3, .int i4, .int i5, .int 0, .int 0, u8], [.int i4, .int 0], M, J)) (fl_n 8 rfl) <|
    fl_dtwo (fl_ic (t := 125) rfl rfl) fl_cT (fun h4 =>
     fl_td (s' := (9, [.ref 81, .int i1, .int i2, .int i5, .int 0, .int (i5 + 1), .int 0, .int 0, .int 1], [], M, J)) (fl_n 15 rfl) <|
     (q1 h1 h2 h3 h4)) (fun h4 =>
     fl_td (s' := (97, [.ref 81, .int i1, .int i2, .int i3, .int i4, .int i5, .int 0, .int 0, u8], [.int (-9), .int i3], M, J)) (fl_n 2 rfl) <|
     fl_dtwo (fl_ic (t := 129) rfl rfl) fl_cT (fun h5 =>
      fl_td (s' := (9, [.ref 81, .int i1, .int i2, .int i3, .int i4, .int (i5 + 1), .int 0, .int 0, .int 0], [], M, J)) (fl_n 12 rfl) <|
      (q2 h1 h2 h3 h4 h5)) (fun h5 =>
      fl_td (s' := (104, [.ref 81, .int i1, .int i2, .int i3, .int i4, .int i5, .int 0, .int 0, u8], [.int i4, .int 0], M, J)) (fl_n 2 rfl) <|
      fl_dnot (fl_ic (t := 129) rfl rfl) fl_cF (fun h6 =>
       fl_td (s' := (112, [.ref 81, .int i1, .int i2, .int i3, .int i4, .int i5, .int 0, .int 0, u8], [.int i5, .int i2, .int i1, .ref 81], M, J)) (fl_n 4 rfl) <|
       fl_td (s' := (115, [.ref 81, .int i1, .int i2, .int i3, .int i4, .int i5, .int 0, .int 0, u8], [.int (v_137 i1 i2 i5 M)], M, J)) (fl_cv (o := some (.int (v_137 i1 i2 i5 M))) rfl rfl rfl rfl (cc_137 M J i1 i2 i5) rfl) <|
       fl_td (s' := (119, [.ref 81, .int i1, .int i2, .int i3, .int i4, .int i5, .int 0, .int 0, u8], [.int i3, .int i2, .int i1, .ref 81, .int (v_137 i1 i2 i5 M)], M, J)) (fl_n 4 rfl) <|
       fl_td (s' := (122, [.ref 81, .int i1, .int i2, .int i3, .int i4, .int i5, .int 0, .int 0, u8], [.int (v_137 i1 i2 i3 M), .int (v_137 i1 i2 i5 M)], M, J)) (fl_cv (o := some (.int (v_137 i1 i2 i3 M))) rfl rfl rfl rfl (cc_137 M J i1 i2 i3) rfl) <|
       fl_dnot (fl_ic (t := 129) rfl rfl) fl_nlt (fun h7 =>
        fl_td (s' := (9, [.ref 81, .int i1, .int i2, .int i5, .int 0, .int (i5 + 1), .int 0, .int 0, .int 1], [], M, J)) (fl_n 15 rfl) <|
        (q3 h1 h2 h3 h4 h5 h6 h7)) (fun h7 =>
        fl_td (s' := (9, [.ref 81, .int i1, .int i2, .int i3, .int i4, .int (i5 + 1), .int 0, .int 0, .int 0], [], M, J)) (fl_n 12 rfl) <|
        (q4 h1 h2 h3 h4 h5 h6 h7))) (fun h6 =>
       fl_td (s' := (9, [.ref 81, .int i1, .int i2, .int i3, .int i4, .int (i5 + 1), .int 0, .int 0, .int 0], [], M, J)) (fl_n 12 rfl) <|
       (q5 h1 h2 h3 h4 h5 h6))))) (fun h3 =>
    fl_td (s' := (58, [.ref 81, .int i1, .int i2, .int i3, .int i4, .int i5, u6, u7, u8], [.int i5, .int (M 82 ((i1 + 2).toNatClampNeg))], M, J)) (fl_n 7 rfl) <|
    fl_dtwo (fl_ic (t := 65) rfl rfl) fl_cT (fun h8 =>
     fl_td (s' := (91, [.ref 81, .int i1, .int i2, .int i3, .int i4, .int i5, .int 0, .int 0, u8], [.int i4, .int 0], M, J)) (fl_n 8 rfl) <|
     fl_dtwo (fl_ic (t := 125) rfl rfl) fl_cT (fun h9 =>
      fl_td (s' := (9, [.ref 81, .int i1, .int i2, .int i5, .int 0, .int (i5 + 1), .int 0, .int 0, .int 1], [], M, J)) (fl_n 15 rfl) <|
      (q6 h1 h2 h3 h8 h9)) (fun h9 =>
      fl_td (s' := (97, [.ref 81, .int i1, .int i2, .int i3, .int i4, .int i5, .int 0, .int 0, u8], [.int (-9), .int i3], M, J)) (fl_n 2 rfl) <|
      fl_dtwo (fl_ic (t := 129) rfl rfl) fl_cT (fun h10 =>
       fl_td (s' := (9, [.ref 81, .int i1, .int i2, .int i3, .int i4, .int (i5 + 1), .int 0, .int 0, .int 0], [], M, J)) (fl_n 12 rfl) <|
       (q7 h1 h2 h3 h8 h9 h10)) (fun h10 =>
       fl_td (s' := (104, [.ref 81, .int i1, .int i2, .int i3, .int i4, .int i5, .int 0, .int 0, u8], [.int i4, .int 0], M, J)) (fl_n 2 rfl) <|
       fl_dnot (fl_ic (t := 129) rfl rfl) fl_cF (fun h11 =>
        fl_td (s' := (112, [.ref 81, .int i1, .int i2, .int i3, .int i4, .int i5, .int 0, .int 0, u8], [.int i5, .int i2, .int i1, .ref 81], M, J)) (fl_n 4 rfl) <|
        fl_td (s' := (115, [.ref 81, .int i1, .int i2, .int i3, .int i4, .int i5, .int 0, .int 0, u8], [.int (v_137 i1 i2 i5 M)], M, J)) (fl_cv (o := some (.int (v_137 i1 i2 i5 M))) rfl rfl rfl rfl (cc_137 M J i1 i2 i5) rfl) <|
        fl_td (s' := (119, [.ref 81, .int i1, .int i2, .int i3, .int i4, .int i5, .int 0, .int 0, u8], [.int i3, .int i2, .int i1, .ref 81, .int (v_137 i1 i2 i5 M)], M, J)) (fl_n 4 rfl) <|
        fl_td (s' := (122, [.ref 81, .int i1, .int i2, .int i3, .int i4, .int i5, .int 0, .int 0, u8], [.int (v_137 i1 i2 i3 M), .int (v_137 i1 i2 i5 M)], M, J)) (fl_cv (o := some (.int (v_137 i1 i2 i3 M))) rfl rfl rfl rfl (cc_137 M J i1 i2 i3) rfl) <|
        fl_dnot (fl_ic (t := 129) rfl rfl) fl_nlt (fun h12 =>
         fl_td (s' := (9, [.ref 81, .int i1, .int i2, .int i5, .int 0, .int (i5 + 1), .int 0, .int 0, .int 1], [], M, J)) (fl_n 15 rfl) <|
         (q8 h1 h2 h3 h8 h9 h10 h11 h12)) (fun h12 =>
         fl_td (s' := (9, [.ref 81, .int i1, .int i2, .int i3, .int i4, .int (i5 + 1), .int 0, .int 0, .int 0], [], M, J)) (fl_n 12 rfl) <|
         (q9 h1 h2 h3 h8 h9 h10 h11 h12))) (fun h11 =>
        fl_td (s' := (9, [.ref 81, .int i1, .int i2, .int i3, .int i4, .int (i5 + 1), .int 0, .int 0, .int 0], [], M, J)) (fl_n 12 rfl) <|
        (q10 h1 h2 h3 h8 h9 h10 h11))))) (fun h8 =>
     fl_td (s' := (78, [.ref 81, .int i1, .int i2, .int i3, .int i4, .int i5, .int 1, u7, u8], [.int i5, .int i2, .int i1, .ref 81], M, J)) (fl_n 9 rfl) <|
     fl_td (s' := (81, [.ref 81, .int i1, .int i2, .int i3, .int i4, .int i5, .int 1, u7, u8], [.int (v_136 i1 i2 i5 M)], M, J)) (fl_cv (o := some (.int (v_136 i1 i2 i5 M))) rfl rfl rfl rfl (cc_136 M J i1 i2 i5) rfl) <|
     fl_td (s' := (91, [.ref 81, .int i1, .int i2, .int i3, .int i4, .int i5, .int 1, .int (v_136 i1 i2 i5 M), u8], [.int i4, .int (v_136 i1 i2 i5 M)], M, J)) (fl_n 4 rfl) <|
     fl_dtwo (fl_ic (t := 125) rfl rfl) fl_cT (fun h13 =>
      fl_td (s' := (9, [.ref 81, .int i1, .int i2, .int i5, .int (v_136 i1 i2 i5 M), .int (i5 + 1), .int 1, .int (v_136 i1 i2 i5 M), .int 1], [], M, J)) (fl_n 15 rfl) <|
      (q11 h1 h2 h3 h8 h13)) (fun h13 =>
      fl_td (s' := (97, [.ref 81, .int i1, .int i2, .int i3, .int i4, .int i5, .int 1, .int (v_136 i1 i2 i5 M), u8], [.int (-9), .int i3], M, J)) (fl_n 2 rfl) <|
      fl_dtwo (fl_ic (t := 129) rfl rfl) fl_cT (fun h14 =>
       fl_td (s' := (9, [.ref 81, .int i1, .int i2, .int i3, .int i4, .int (i5 + 1), .int 1, .int (v_136 i1 i2 i5 M), .int 0], [], M, J)) (fl_n 12 rfl) <|
       (q12 h1 h2 h3 h8 h13 h14)) (fun h14 =>
       fl_td (s' := (104, [.ref 81, .int i1, .int i2, .int i3, .int i4, .int i5, .int 1, .int (v_136 i1 i2 i5 M), u8], [.int i4, .int (v_136 i1 i2 i5 M)], M, J)) (fl_n 2 rfl) <|
       fl_dnot (fl_ic (t := 129) rfl rfl) fl_cF (fun h15 =>
        fl_td (s' := (112, [.ref 81, .int i1, .int i2, .int i3, .int i4, .int i5, .int 1, .int (v_136 i1 i2 i5 M), u8], [.int i5, .int i2, .int i1, .ref 81], M, J)) (fl_n 4 rfl) <|
        fl_td (s' := (115, [.ref 81, .int i1, .int i2, .int i3, .int i4, .int i5, .int 1, .int (v_136 i1 i2 i5 M), u8], [.int (v_137 i1 i2 i5 M)], M, J)) (fl_cv (o := some (.int (v_137 i1 i2 i5 M))) rfl rfl rfl rfl (cc_137 M J i1 i2 i5) rfl) <|
        fl_td (s' := (119, [.ref 81, .int i1, .int i2, .int i3, .int i4, .int i5, .int 1, .int (v_136 i1 i2 i5 M), u8], [.int i3, .int i2, .int i1, .ref 81, .int (v_137 i1 i2 i5 M)], M, J)) (fl_n 4 rfl) <|
        fl_td (s' := (122, [.ref 81, .int i1, .int i2, .int i3, .int i4, .int i5, .int 1, .int (v_136 i1 i2 i5 M), u8], [.int (v_137 i1 i2 i3 M), .int (v_137 i1 i2 i5 M)], M, J)) (fl_cv (o := some (.int (v_137 i1 i2 i3 M))) rfl rfl rfl rfl (cc_137 M J i1 i2 i3) rfl) <|
        fl_dnot (fl_ic (t := 129) rfl rfl) fl_nlt (fun h16 =>
         fl_td (s' := (9, [.ref 81, .int i1, .int i2, .int i5, .int (v_136 i1 i2 i5 M), .int (i5 + 1), .int 1, .int (v_136 i1 i2 i5 M), .int 1], [], M, J)) (fl_n 15 rfl) <|
         (q13 h1 h2 h3 h8 h13 h14 h15 h16)) (fun h16 =>
         fl_td (s' := (9, [.ref 81, .int i1, .int i2, .int i3, .int i4, .int (i5 + 1), .int 1, .int (v_136 i1 i2 i5 M), .int 0], [], M, J)) (fl_n 12 rfl) <|
         (q14 h1 h2 h3 h8 h13 h14 h15 h16))) (fun h15 =>
        fl_td (s' := (9, [.ref 81, .int i1, .int i2, .int i3, .int i4, .int (i5 + 1), .int 1, .int (v_136 i1 i2 i5 M), .int 0], [], M, J)) (fl_n 12 rfl) <|
        (q15 h1 h2 h3 h8 h13 h14 h15))))))) (fun h2 =>
   fl_td (s' := (91, [.ref 81, .int i1, .int i2, .int i3, .int i4, .int i5, .int 0, .int 0, u8], [.int i4, .int 0], M, J)) (fl_n 8 rfl) <|
   fl_dtwo (fl_ic (t := 125) rfl rfl) fl_cT (fun h17 =>
    fl_td (s' := (9, [.ref 81, .int i1, .int i2, .int i5, .int 0, .int (i5 + 1), .int 0, .int 0, .int 1], [], M, J)) (fl_n 15 rfl) <|
    (q16 h1 h2 h17)) (fun h17 =>
    fl_td (s' := (97, [.ref 81, .int i1, .int i2, .int i3, .int i4, .int i5, .int 0, .int 0, u8], [.int (-9), .int i3], M, J)) (fl_n 2 rfl) <|
    fl_dtwo (fl_ic (t := 129) rfl rfl) fl_cT (fun h18 =>
     fl_td (s' := (9, [.ref 81, .int i1, .int i2, .int i3, .int i4, .int (i5 + 1), .int 0, .int 0, .int 0], [], M, J)) (fl_n 12 rfl) <|
     (q17 h1 h2 h17 h18)) (fun h18 =>
     fl_td (s' := (104, [.ref 81, .int i1, .int i2, .int i3, .int i4, .int i5, .int 0, .int 0, u8], [.int i4, .int 0], M, J)) (fl_n 2 rfl) <|
     fl_dnot (fl_ic (t := 129) rfl rfl) fl_cF (fun h19 =>
      fl_td (s' := (112, [.ref 81, .int i1, .int i2, .int i3, .int i4, .int i5, .int 0, .int 0, u8], [.int i5, .int i2, .int i1, .ref 81], M, J)) (fl_n 4 rfl) <|
      fl_td (s' := (115, [.ref 81, .int i1, .int i2, .int i3, .int i4, .int i5, .int 0, .int 0, u8], [.int (v_137 i1 i2 i5 M)], M, J)) (fl_cv (o := some (.int (v_137 i1 i2 i5 M))) rfl rfl rfl rfl (cc_137 M J i1 i2 i5) rfl) <|
      fl_td (s' := (119, [.ref 81, .int i1, .int i2, .int i3, .int i4, .int i5, .int 0, .int 0, u8], [.int i3, .int i2, .int i1, .ref 81, .int (v_137 i1 i2 i5 M)], M, J)) (fl_n 4 rfl) <|
      fl_td (s' := (122, [.ref 81, .int i1, .int i2, .int i3, .int i4, .int i5, .int 0, .int 0, u8], [.int (v_137 i1 i2 i3 M), .int (v_137 i1 i2 i5 M)], M, J)) (fl_cv (o := some (.int (v_137 i1 i2 i3 M))) rfl rfl rfl rfl (cc_137 M J i1 i2 i3) rfl) <|
      fl_dnot (fl_ic (t := 129) rfl rfl) fl_nlt (fun h20 =>
       fl_td (s' := (9, [.ref 81, .int i1, .int i2, .int i5, .int 0, .int (i5 + 1), .int 0, .int 0, .int 1], [], M, J)) (fl_n 15 rfl) <|
       (q18 h1 h2 h17 h18 h19 h20)) (fun h20 =>
       fl_td (s' := (9, [.ref 81, .int i1, .int i2, .int i3, .int i4, .int (i5 + 1), .int 0, .int 0, .int 0], [], M, J)) (fl_n 12 rfl) <|
       (q19 h1 h2 h17 h18 h19 h20))) (fun h19 =>
      fl_td (s' := (9, [.ref 81, .int i1, .int i2, .int i3, .int i4, .int (i5 + 1), .int 0, .int 0, .int 0], [], M, J)) (fl_n 12 rfl) <|
      (q20 h1 h2 h17 h18 h19)))))) (fun h1 =>
  (q21 h1))
theorem lp_134_9 {r : fl_Q} (i1 i2 i3 i4 : Int32) (u6 u7 u8 : Value) (M : fl_M) (J : fl_J) (hx : ∀ w5 w6 w7 w8 : Value, fl_dn fB134 (164, [.ref 81, .int i1, .int i2, .int ((lr_134_9 i1 i2 i3 i4 M).1), .int ((lr_134_9 i1 i2 i3 i4 M).2), w5, w6, w7, w8], [], M, J) r) : fl_dn fB134 (9, [.ref 81, .int i1, .int i2, .int i3, .int i4, .int 0, u6, u7, u8], [], M, J) r := by
  have hb := fi_bd (M 81 1)
  have key : ∀ (n m : Nat) (w6 w7 w8 : Value), m + n = ((M 81 1)).toNatClampNeg → fl_dn fB134 (9, [.ref 81, .int i1, .int i2, .int ((lq_134_9 i1 i2 i3 i4 M m).1), .int ((lq_134_9 i1 i2 i3 i4 M m).2), .int (Int32.ofNat m), w6, w7, w8], [], M, J) r := by
    intro n
    induction n with
    | zero =>
      intro m w6 w7 w8 hm
      have hm : m = ((M 81 1)).toNatClampNeg := by omega
      have hn : ¬ ((Int32.ofNat m) < (M 81 1)) := fun z => by have z := (fi_lt (by omega)).mp z; omega
      exact ts_134_9 i1 i2 ((lq_134_9 i1 i2 i3 i4 M m).1) ((lq_134_9 i1 i2 i3 i4 M m).2) (Int32.ofNat m) w6 w7 w8 M J (fun h1 h2 h3 h4 => absurd h1 hn) (fun h1 h2 h3 h4 h5 => absurd h1 hn) (fun h1 h2 h3 h4 h5 h6 h7 => absurd h1 hn) (fun h1 h2 h3 h4 h5 h6 h7 => absurd h1 hn) (fun h1 h2 h3 h4 h5 h6 => absurd h1 hn) (fun h1 h2 h3 h8 h9 => absurd h1 hn) (fun h1 h2 h3 h8 h9 h10 => absurd h1 hn) (fun h1 h2 h3 h8 h9 h10 h11 h12 => absurd h1 hn) (fun h1 h2 h3 h8 h9 h10 h11 h12 => absurd h1 hn) (fun h1 h2 h3 h8 h9 h10 h11 => absurd h1 hn) (fun h1 h2 h3 h8 h13 => absurd h1 hn) (fun h1 h2 h3 h8 h13 h14 => absurd h1 hn) (fun h1 h2 h3 h8 h13 h14 h15 h16 => absurd h1 hn) (fun h1 h2 h3 h8 h13 h14 h15 h16 => absurd h1 hn) (fun h1 h2 h3 h8 h13 h14 h15 => absurd h1 hn) (fun h1 h2 h17 => absurd h1 hn) (fun h1 h2 h17 h18 => absurd h1 hn) (fun h1 h2 h17 h18 h19 h20 => absurd h1 hn) (fun h1 h2 h17 h18 h19 h20 => absurd h1 hn) (fun h1 h2 h17 h18 h19 => absurd h1 hn) (fun h1 => (by have e : lr_134_9 i1 i2 i3 i4 M = lq_134_9 i1 i2 i3 i4 M m := (by show lq_134_9 i1 i2 i3 i4 M (((M 81 1)).toNatClampNeg) = _; rw [← hm]); rw [e] at hx; exact hx _ _ _ _))
    | succ n ih =>
      intro m w6 w7 w8 hm
      have hp : (Int32.ofNat m) < (M 81 1) := by exact (fi_lt (by omega)).mpr (by omega)
      refine ts_134_9 i1 i2 ((lq_134_9 i1 i2 i3 i4 M m).1) ((lq_134_9 i1 i2 i3 i4 M m).2) (Int32.ofNat m) w6 w7 w8 M J (fun h1 h2 h3 h4 => ?_) (fun h1 h2 h3 h4 h5 => ?_) (fun h1 h2 h3 h4 h5 h6 h7 => ?_) (fun h1 h2 h3 h4 h5 h6 h7 => ?_) (fun h1 h2 h3 h4 h5 h6 => ?_) (fun h1 h2 h3 h8 h9 => ?_) (fun h1 h2 h3 h8 h9 h10 => ?_) (fun h1 h2 h3 h8 h9 h10 h11 h12 => ?_) (fun h1 h2 h3 h8 h9 h10 h11 h12 => ?_) (fun h1 h2 h3 h8 h9 h10 h11 => ?_) (fun h1 h2 h3 h8 h13 => ?_) (fun h1 h2 h3 h8 h13 h14 => ?_) (fun h1 h2 h3 h8 h13 h14 h15 h16 => ?_) (fun h1 h2 h3 h8 h13 h14 h15 h16 => ?_) (fun h1 h2 h3 h8 h13 h14 h15 => ?_) (fun h1 h2 h17 => ?_) (fun h1 h2 h17 h18 => ?_) (fun h1 h2 h17 h18 h19 h20 => ?_) (fun h1 h2 h17 h18 h19 h20 => ?_) (fun h1 h2 h17 h18 h19 => ?_) (fun h1 => absurd hp h1)
      · have e : lq_134_9 i1 i2 i3 i4 M (m + 1) = ((Int32.ofNat m), 0) := by
          rw [lqs_134_9]
          unfold ls_134_9
          simp only [if_pos h2, if_pos h3, if_pos h4]
        have q := ih (m + 1) (.int 0) (.int 0) (.int 1) (by omega)
        rw [e] at q
        first | (rw [fi_s]; exact q) | (rw [← fi_s] at q; exact q) | (simp only [fi_s] at q ⊢; exact q)
      · have e : lq_134_9 i1 i2 i3 i4 M (m + 1) = (((lq_134_9 i1 i2 i3 i4 M m).1), ((lq_134_9 i1 i2 i3 i4 M m).2)) := by
          rw [lqs_134_9]
          unfold ls_134_9
          simp only [if_pos h2, if_pos h3, if_neg h4, if_pos h5]
        have q := ih (m + 1) (.int 0) (.int 0) (.int 0) (by omega)
        rw [e] at q
        first | (rw [fi_s]; exact q) | (rw [← fi_s] at q; exact q) | (simp only [fi_s] at q ⊢; exact q)
      · have e : lq_134_9 i1 i2 i3 i4 M (m + 1) = ((Int32.ofNat m), 0) := by
          rw [lqs_134_9]
          unfold ls_134_9
          simp only [if_pos h2, if_pos h3, if_neg h4, if_neg h5, if_pos h6, if_pos h7]
        have q := ih (m + 1) (.int 0) (.int 0) (.int 1) (by omega)
        rw [e] at q
        first | (rw [fi_s]; exact q) | (rw [← fi_s] at q; exact q) | (simp only [fi_s] at q ⊢; exact q)
      · have e : lq_134_9 i1 i2 i3 i4 M (m + 1) = (((lq_134_9 i1 i2 i3 i4 M m).1), ((lq_134_9 i1 i2 i3 i4 M m).2)) := by
          rw [lqs_134_9]
          unfold ls_134_9
          simp only [if_pos h2, if_pos h3, if_neg h4, if_neg h5, if_pos h6, if_neg h7]
        have q := ih (m + 1) (.int 0) (.int 0) (.int 0) (by omega)
        rw [e] at q
        first | (rw [fi_s]; exact q) | (rw [← fi_s] at q; exact q) | (simp only [fi_s] at q ⊢; exact q)
      · have e : lq_134_9 i1 i2 i3 i4 M (m + 1) = (((lq_134_9 i1 i2 i3 i4 M m).1), ((lq_134_9 i1 i2 i3 i4 M m).2)) := by
          rw [lqs_134_9]
          unfold ls_134_9
          simp only [if_pos h2, if_pos h3, if_neg h4, if_neg h5, if_neg h6]
        have q := ih (m + 1) (.int 0) (.int 0) (.int 0) (by omega)
        rw [e] at q
        first | (rw [fi_s]; exact q) | (rw [← fi_s] at q; exact q) | (simp only [fi_s] at q ⊢; exact q)
      · have e : lq_134_9 i1 i2 i3 i4 M (m + 1) = ((Int32.ofNat m), 0) := by
          rw [lqs_134_9]
          unfold ls_134_9
          simp only [if_pos h2, if_neg h3, if_pos h8, if_pos h9]
        have q := ih (m + 1) (.int 0) (.int 0) (.int 1) (by omega)
        rw [e] at q
        first | (rw [fi_s]; exact q) | (rw [← fi_s] at q; exact q) | (simp only [fi_s] at q ⊢; exact q)
      · have e : lq_134_9 i1 i2 i3 i4 M (m + 1) = (((lq_134_9 i1 i2 i3 i4 M m).1), ((lq_134_9 i1 i2 i3 i4 M m).2)) := by
          rw [lqs_134_9]
          unfold ls_134_9
          simp only [if_pos h2, if_neg h3, if_pos h8, if_neg h9, if_pos h10]
        have q := ih (m + 1) (.int 0) (.int 0) (.int 0) (by omega)
        rw [e] at q
        first | (rw [fi_s]; exact q) | (rw [← fi_s] at q; exact q) | (simp only [fi_s] at q ⊢; exact q)
      · have e : lq_134_9 i1 i2 i3 i4 M (m + 1) = ((Int32.ofNat m), 0) := by
          rw [lqs_134_9]
          unfold ls_134_9
          simp only [if_pos h2, if_neg h3, if_pos h8, if_neg h9, if_neg h10, if_pos h11, if_pos h12]
        have q := ih (m + 1) (.int 0) (.int 0) (.int 1) (by omega)
        rw [e] at q
        first | (rw [fi_s]; exact q) | (rw [← fi_s] at q; exact q) | (simp only [fi_s] at q ⊢; exact q)
      · have e : lq_134_9 i1 i2 i3 i4 M (m + 1) = (((lq_134_9 i1 i2 i3 i4 M m).1), ((lq_134_9 i1 i2 i3 i4 M m).2)) := by
          rw [lqs_134_9]
          unfold ls_134_9
          simp only [if_pos h2, if_neg h3, if_pos h8, if_neg h9, if_neg h10, if_pos h11, if_neg h12]
        have q := ih (m + 1) (.int 0) (.int 0) (.int 0) (by omega)
        rw [e] at q
        first | (rw [fi_s]; exact q) | (rw [← fi_s] at q; exact q) | (simp only [fi_s] at q ⊢; exact q)
      · have e : lq_134_9 i1 i2 i3 i4 M (m + 1) = (((lq_134_9 i1 i2 i3 i4 M m).1), ((lq_134_9 i1 i2 i3 i4 M m).2)) := by
          rw [lqs_134_9]
          unfold ls_134_9
          simp only [if_pos h2, if_neg h3, if_pos h8, if_neg h9, if_neg h10, if_neg h11]
        have q := ih (m + 1) (.int 0) (.int 0) (.int 0) (by omega)
        rw [e] at q
        first | (rw [fi_s]; exact q) | (rw [← fi_s] at q; exact q) | (simp only [fi_s] at q ⊢; exact q)
      · have e : lq_134_9 i1 i2 i3 i4 M (m + 1) = ((Int32.ofNat m), (v_136 i1 i2 (Int32.ofNat m) M)) := by
          rw [lqs_134_9]
          unfold ls_134_9
          simp only [if_pos h2, if_neg h3, if_neg h8, if_pos h13]
        have q := ih (m + 1) (.int 1) (.int (v_136 i1 i2 (Int32.ofNat m) M)) (.int 1) (by omega)
        rw [e] at q
        first | (rw [fi_s]; exact q) | (rw [← fi_s] at q; exact q) | (simp only [fi_s] at q ⊢; exact q)
      · have e : lq_134_9 i1 i2 i3 i4 M (m + 1) = (((lq_134_9 i1 i2 i3 i4 M m).1), ((lq_134_9 i1 i2 i3 i4 M m).2)) := by
          rw [lqs_134_9]
          unfold ls_134_9
          simp only [if_pos h2, if_neg h3, if_neg h8, if_neg h13, if_pos h14]
        have q := ih (m + 1) (.int 1) (.int (v_136 i1 i2 (Int32.ofNat m) M)) (.int 0) (by omega)
        rw [e] at q
        first | (rw [fi_s]; exact q) | (rw [← fi_s] at q; exact q) | (simp only [fi_s] at q ⊢; exact q)
      · have e : lq_134_9 i1 i2 i3 i4 M (m + 1) = ((Int32.ofNat m), (v_136 i1 i2 (Int32.ofNat m) M)) := by
          rw [lqs_134_9]
          unfold ls_134_9
          simp only [if_pos h2, if_neg h3, if_neg h8, if_neg h13, if_neg h14, if_pos h15, if_pos h16]
        have q := ih (m + 1) (.int 1) (.int (v_136 i1 i2 (Int32.ofNat m) M)) (.int 1) (by omega)
        rw [e] at q
        first | (rw [fi_s]; exact q) | (rw [← fi_s] at q; exact q) | (simp only [fi_s] at q ⊢; exact q)
      · have e : lq_134_9 i1 i2 i3 i4 M (m + 1) = (((lq_134_9 i1 i2 i3 i4 M m).1), ((lq_134_9 i1 i2 i3 i4 M m).2)) := by
          rw [lqs_134_9]
          unfold ls_134_9
          simp only [if_pos h2, if_neg h3, if_neg h8, if_neg h13, if_neg h14, if_pos h15, if_neg h16]
        have q := ih (m + 1) (.int 1) (.int (v_136 i1 i2 (Int32.ofNat m) M)) (.int 0) (by omega)
        rw [e] at q
        first | (rw [fi_s]; exact q) | (rw [← fi_s] at q; exact q) | (simp only [fi_s] at q ⊢; exact q)
      · have e : lq_134_9 i1 i2 i3 i4 M (m + 1) = (((lq_134_9 i1 i2 i3 i4 M m).1), ((lq_134_9 i1 i2 i3 i4 M m).2)) := by
          rw [lqs_134_9]
          unfold ls_134_9
          simp only [if_pos h2, if_neg h3, if_neg h8, if_neg h13, if_neg h14, if_neg h15]
        have q := ih (m + 1) (.int 1) (.int (v_136 i1 i2 (Int32.ofNat m) M)) (.int 0) (by omega)
        rw [e] at q
        first | (rw [fi_s]; exact q) | (rw [← fi_s] at q; exact q) | (simp only [fi_s] at q ⊢; exact q)
      · have e : lq_134_9 i1 i2 i3 i4 M (m + 1) = ((Int32.ofNat m), 0) := by
          rw [lqs_134_9]
          unfold ls_134_9
          simp only [if_neg h2, if_pos h17]
        have q := ih (m + 1) (.int 0) (.int 0) (.int 1) (by omega)
        rw [e] at q
        first | (rw [fi_s]; exact q) | (rw [← fi_s] at q; exact q) | (simp only [fi_s] at q ⊢; exact q)
      · have e : lq_134_9 i1 i2 i3 i4 M (m + 1) = (((lq_134_9 i1 i2 i3 i4 M m).1), ((lq_134_9 i1 i2 i3 i4 M m).2)) := by
          rw [lqs_134_9]
          unfold ls_134_9
          simp only [if_neg h2, if_neg h17, if_pos h18]
        have q := ih (m + 1) (.int 0) (.int 0) (.int 0) (by omega)
        rw [e] at q
        first | (rw [fi_s]; exact q) | (rw [← fi_s] at q; exact q) | (simp only [fi_s] at q ⊢; exact q)
      · have e : lq_134_9 i1 i2 i3 i4 M (m + 1) = ((Int32.ofNat m), 0) := by
          rw [lqs_134_9]
          unfold ls_134_9
          simp only [if_neg h2, if_neg h17, if_neg h18, if_pos h19, if_pos h20]
        have q := ih (m + 1) (.int 0) (.int 0) (.int 1) (by omega)
        rw [e] at q
        first | (rw [fi_s]; exact q) | (rw [← fi_s] at q; exact q) | (simp only [fi_s] at q ⊢; exact q)
      · have e : lq_134_9 i1 i2 i3 i4 M (m + 1) = (((lq_134_9 i1 i2 i3 i4 M m).1), ((lq_134_9 i1 i2 i3 i4 M m).2)) := by
          rw [lqs_134_9]
          unfold ls_134_9
          simp only [if_neg h2, if_neg h17, if_neg h18, if_pos h19, if_neg h20]
        have q := ih (m + 1) (.int 0) (.int 0) (.int 0) (by omega)
        rw [e] at q
        first | (rw [fi_s]; exact q) | (rw [← fi_s] at q; exact q) | (simp only [fi_s] at q ⊢; exact q)
      · have e : lq_134_9 i1 i2 i3 i4 M (m + 1) = (((lq_134_9 i1 i2 i3 i4 M m).1), ((lq_134_9 i1 i2 i3 i4 M m).2)) := by
          rw [lqs_134_9]
          unfold ls_134_9
          simp only [if_neg h2, if_neg h17, if_neg h18, if_neg h19]
        have q := ih (m + 1) (.int 0) (.int 0) (.int 0) (by omega)
        rw [e] at q
        first | (rw [fi_s]; exact q) | (rw [← fi_s] at q; exact q) | (simp only [fi_s] at q ⊢; exact q)
  exact key (((M 81 1)).toNatClampNeg) 0 u6 u7 u8 (Nat.zero_add _)
set_option maxRecDepth 8000 in
theorem cc_134 (M : fl_M) (J : fl_J) (b i : Int32) : fl_C 134 [.ref 81, .int b, .int i] M J (some (.int ((lr_134_9 b i (-9) 0 M).1)), M, J) :=
 fl_Co (B := fB134) rfl rfl <|
 fl_td (s' := (9, [.ref 81, .int b, .int i, .int (-9), .int 0, .int 0, .null, .null, .null], [], M, J)) (fl_n 6 rfl) <|
 lp_134_9 b i (-9) 0 .null .null .null M J (fun u1 u2 u3 u4 =>
  fx_gen (p := fun (II5 : Int32) => fl_dn fB134 (164, [.ref 81, .int b, .int i, .int II5, .int ((lr_134_9 b i (-9) 0 M).2), u1, u2, u3, u4], [], M, J) (some (.int ((lr_134_9 b i (-9) 0 M).1)), M, J)) ((lr_134_9 b i (-9) 0 M).1) (fun II5 eII5 =>
   fx_gen (p := fun (II6 : Int32) => fl_dn fB134 (164, [.ref 81, .int b, .int i, .int II5, .int II6, u1, u2, u3, u4], [], M, J) (some (.int ((lr_134_9 b i (-9) 0 M).1)), M, J)) ((lr_134_9 b i (-9) 0 M).2) (fun II6 eII6 =>
    fl_td (s' := (165, [.ref 81, .int b, .int i, .int II5, .int II6, u1, u2, u3, u4], [.int II5], M, J)) (fl_n 1 rfl) <|
    fl_rt rfl (fun _ => rfl) (by subst eII5; subst eII6; rfl))))
def fB150 : sm_P := (fun pc => sm_ch sm_t150 pc, sm_Kn 3 7 none, fun x => sm_lk sm_ca3 x, some .int)
-- MiceRegistersModel.passes 5
def ls_150_5 (i1 i2 : Int32) (m : Nat) (q : (Int32 × fl_M)) : (Int32 × fl_M) := (if ((i2 >>> ((Int32.ofNat m) &&& 31)) &&& 1) = 1 then (q.1, q.2) else (if ((lr_134_9 i1 (Int32.ofNat m) (-9) 0 q.2).1) = (-9) then (q.1, q.2) else (if (v_142 (Int32.ofNat m) q.2) < (q.2 82 (((i1 + 4) + ((lr_134_9 i1 (Int32.ofNat m) (-9) 0 q.2).1)).toNatClampNeg)) then ((q.1 + (v_142 (Int32.ofNat m) q.2)), (fl_u (fl_u q.2 82 (((i1 + 4) + ((lr_134_9 i1 (Int32.ofNat m) (-9) 0 q.2).1)).toNatClampNeg) ((q.2 82 (((i1 + 4) + ((lr_134_9 i1 (Int32.ofNat m) (-9) 0 q.2).1)).toNatClampNeg)) - (v_142 (Int32.ofNat m) q.2))) 82 (((i1 + 20) + (Int32.ofNat m)).toNatClampNeg) ((lr_134_9 i1 (Int32.ofNat m) (-9) 0 q.2).1))) else ((q.1 + (q.2 82 (((i1 + 4) + ((lr_134_9 i1 (Int32.ofNat m) (-9) 0 q.2).1)).toNatClampNeg))), (fl_u (fl_u q.2 82 (((i1 + 4) + ((lr_134_9 i1 (Int32.ofNat m) (-9) 0 q.2).1)).toNatClampNeg) ((q.2 82 (((i1 + 4) + ((lr_134_9 i1 (Int32.ofNat m) (-9) 0 q.2).1)).toNatClampNeg)) - (q.2 82 (((i1 + 4) + ((lr_134_9 i1 (Int32.ofNat m) (-9) 0 q.2).1)).toNatClampNeg)))) 82 (((i1 + 20) + (Int32.ofNat m)).toNatClampNeg) ((lr_134_9 i1 (Int32.ofNat m) (-9) 0 q.2).1))))))
def lq_150_5 (i1 i2 i3 : Int32) (M : fl_M) (m : Nat) : (Int32 × fl_M) := fx_it (ls_150_5 i1 i2) m (i3, M)
theorem lqs_150_5 (i1 i2 i3 : Int32) (M : fl_M) (m : Nat) : lq_150_5 i1 i2 i3 M (m + 1) = (ls_150_5 i1 i2) m (lq_150_5 i1 i2 i3 M m) := by
  unfold lq_150_5
  exact fx_it_s _ _ _
def lr_150_5 (i1 i2 i3 : Int32) (M : fl_M) : (Int32 × fl_M) := (lq_150_5 i1 i2 i3 M (((M 81 4)).toNatClampNeg))
set_option maxRecDepth 8000 in
theorem ts_150_5 {r : fl_Q} (i1 i2 i3 i4 : Int32) (u5 u6 : Value) (M : fl_M) (J : fl_J) (q1 : (i4 < (M 81 4)) → (((i2 >>> (i4 &&& 31)) &&& 1) = 1) → fl_dn fB150 (5, [.ref 81, .int i1, .int i2, .int i3, .int (i4 + 1), .int (-9), u6], [], M, J) r) (q2 : (i4 < (M 81 4)) → (¬ (((i2 >>> (i4 &&& 31)) &&& 1) = 1)) → (((lr_134_9 i1 i4 (-9) 0 M).1) = (-9)) → fl_dn fB150 (5, [.ref 81, .int i1, .int i2, .int i3, .int (i4 + 1), .int ((lr_134_9 i1 i4 (-9) 0 M).1), u6], [], M, J) r) (q3 : (i4 < (M 81 4)) → (¬ (((i2 >>> (i4 &&& 31)) &&& 1) = 1)) → (¬ (((lr_134_9 i1 i4 (-9) 0 M).1) = (-9))) → ((v_142 i4 M) < (M 82 (((i1 + 4) + ((lr_134_9 i1 i4 (-9) 0 M).1)).toNatClampNeg))) → fl_dn fB150 (5, [.ref 81, .int i1, .int i2, .int (i3 + (v_142 i4 M)), .int (i4 + 1), .int ((lr_134_9 i1 i4 (-9) 0 M).1), .int (v_142 i4 M)], [], (fl_u (fl_u M 82 (((i1 + 4) + ((lr_134_9 i1 i4 (-9) 0 M).1)).toNatClampNeg) ((M 82 (((i1 + 4) + ((lr_134_9 i1 i4 (-9) 0 M).1)).toNatClampNeg)) - (v_142 i4 M))) 82 (((i1 + 20) + i4).toNatClampNeg) ((lr_134_9 i1 i4 (-9) 0 M).1)), J) r) (q4 : (i4 < (M 81 4)) → (¬ (((i2 >>> (i4 &&& 31)) &&& 1) = 1)) → (¬ (((lr_134_9 i1 i4 (-9) 0 M).1) = (-9))) → (¬ ((v_142 i4 M) < (M 82 (((i1 + 4) + ((lr_134_9 i1 i4 (-9) 0 M).1)).toNatClampNeg)))) → fl_dn fB150 (5, [.ref 81, .int i1, .int i2, .int (i3 + (M 82 (((i1 + 4) + ((lr_134_9 i1 i4 (-9) 0 M).1)).toNatClampNeg))), .int (i4 + 1), .int ((lr_134_9 i1 i4 (-9) 0 M).1), .int (M 82 (((i1 + 4) + ((lr_134_9 i1 i4 (-9) 0 M).1)).toNatClampNeg))], [], (fl_u (fl_u M 82 (((i1 + 4) + ((lr_134_9 i1 i4 (-9) 0 M).1)).toNatClampNeg) ((M 82 (((i1 + 4) + ((lr_134_9 i1 i4 (-9) 0 M).1)).toNatClampNeg)) - (M 82 (((i1 + 4) + ((lr_134_9 i1 i4 (-9) 0 M).1)).toNatClampNeg)))) 82 (((i1 + 20) + i4).toNatClampNeg) ((lr_134_9 i1 i4 (-9) 0 M).1)), J) r) (q5 : (¬ (i4 < (M 81 4))) → fl_dn fB150 (127, [.ref 81, .int i1, .int i2, .int i3, .int i4, u5, u6], [], M, J) r) : fl_dn fB150 (5, [.ref 81, .int i1, .int i2, .int i3, .int i4, u5, u6], [], M, J) r :=
 fl_td (s' := (11, [.ref 81, .int i1, .int i2, .int i3, .int i4, u5, u6], [.int (M 81 4), .int i4], M, J)) (fl_n 3 rfl) <|
 fl_dnot (fl_ic (t := 127) rfl rfl) fl_nlt (fun h1 =>
  fl_td (s' := (17, [.ref 81, .int i1, .int i2, .int i3, .int i4, u5, u6], [.int i4, .int i2], M, J)) (fl_n 2 rfl) <|
  fl_td (s' := (20, [.ref 81, .int i1, .int i2, .int i3, .int i4, u5, u6], [.int (if ((i2 >>> (i4 &&& 31)) &&& 1) = 1 then 1 else 0)], M, J)) (fl_cs (o := some (.int (if ((i2 >>> (i4 &&& 31)) &&& 1) = 1 then 1 else 0))) rfl rfl rfl (cc_135 M J i2 i4) rfl) <|
  fl_dnot (fl_if (t := 28) rfl rfl) fl_b0 (fun h2 =>
   fl_td (s' := (5, [.ref 81, .int i1, .int i2, .int i3, .int (i4 + 1), .int (-9), u6], [], M, J)) (fl_n 8 rfl) <|
   (q1 h1 h2)) (fun h2 =>
   fl_td (s' := (32, [.ref 81, .int i1, .int i2, .int i3, .int i4, u5, u6], [.int i4, .int i1, .ref 81], M, J)) (fl_n 3 rfl) <|
   fl_td (s' := (35, [.ref 81, .int i1, .int i2, .int i3, .int i4, u5, u6], [.int ((lr_134_9 i1 i4 (-9) 0 M).1)], M, J)) (fl_cv (o := some (.int ((lr_134_9 i1 i4 (-9) 0 M).1))) rfl rfl rfl rfl (cc_134 M J i1 i4) rfl) <|
   fx_gen (p := fun (II7 : Int32) => fl_dn fB150 (35, [.ref 81, .int i1, .int i2, .int i3, .int i4, u5, u6], [.int II7], M, J) r) ((lr_134_9 i1 i4 (-9) 0 M).1) (fun II7 eII7 =>
    fl_td (s' := (41, [.ref 81, .int i1, .int i2, .int i3, .int i4, .int II7, u6], [.int (-9), .int II7], M, J)) (fl_n 3 rfl) <|
    fl_dtwo (fl_ic (t := 121) rfl rfl) fl_cT (fun h3 =>
     fl_td (s' := (5, [.ref 81, .int i1, .int i2, .int i3, .int (i4 + 1), .int II7, u6], [], M, J)) (fl_n 2 rfl) <|
     (by subst eII7; exact (q2 h1 h2 h3))) (fun h3 =>
     fl_td (s' := (47, [.ref 81, .int i1, .int i2, .int i3, .int i4, .int II7, u6], [.int i4, .ref 81], M, J)) (fl_n 2 rfl) <|
     fl_td (s' := (50, [.ref 81, .int i1, .int i2, .int i3, .int i4, .int II7, u6], [.int (v_142 i4 M)], M, J)) (fl_cv (o := some (.int (v_142 i4 M))) rfl rfl rfl rfl (cc_142 M J i4) rfl) <|
     fl_td (s' := (61, [.ref 81, .int i1, .int i2, .int i3, .int i4, .int II7, u6], [.int (M 82 (((i1 + 4) + II7).toNatClampNeg)), .int (v_142 i4 M)], M, J)) (fl_n 8 rfl) <|
     fl_dnot (fl_ic (t := 73) rfl rfl) fl_nlt (fun h4 =>
      fl_td (s' := (67, [.ref 81, .int i1, .int i2, .int i3, .int i4, .int II7, u6], [.int i4, .ref 81], M, J)) (fl_n 2 rfl) <|
      fl_td (s' := (70, [.ref 81, .int i1, .int i2, .int i3, .int i4, .int II7, u6], [.int (v_142 i4 M)], M, J)) (fl_cv (o := some (.int (v_142 i4 M))) rfl rfl rfl rfl (cc_142 M J i4) rfl) <|
      fl_td (s' := (5, [.ref 81, .int i1, .int i2, .int (i3 + (v_142 i4 M)), .int (i4 + 1), .int II7, .int (v_142 i4 M)], [], (fl_u (fl_u M 82 (((i1 + 4) + II7).toNatClampNeg) ((M 82 (((i1 + 4) + II7).toNatClampNeg)) - (v_142 i4 M))) 82 (((i1 + 20) + i4).toNatClampNeg) II7), J)) (fl_n 29 rfl) <|
      (by subst eII7; exact (q3 h1 h2 h3 h4))) (fun h4 =>
      fl_td (s' := (5, [.ref 81, .int i1, .int i2, .int (i3 + (M 82 (((i1 + 4) + II7).toNatClampNeg))), .int (i4 + 1), .int II7, .int (M 82 (((i1 + 4) + II7).toNatClampNeg))], [], (fl_u (fl_u M 82 (((i1 + 4) + II7).toNatClampNeg) ((M 82 (((i1 + 4) + II7).toNatClampNeg)) - (M 82 (((i1 + 4) + II7).toNatClampNeg)))) 82 (((i1 + 20) + i4).toNatClampNeg) II7), J)) (fl_n 36 rfl) <|
      (by subst eII7; exact (q4 h1 h2 h3 h4))))))) (fun h1 =>
  (q5 h1))
theorem lk_150_5 (i1 i2 i3 : Int32) (M : fl_M) (m : Nat) : (((lq_150_5 i1 i2 i3 M m).2) 81 4) = (M 81 4) := by
  induction m with
  | zero => rfl
  | succ m ih =>
    rw [← ih]
    rw [lqs_150_5]
    generalize lq_150_5 i1 i2 i3 M m = q
    unfold ls_150_5
    (repeat' split) <;> first | with_reducible rfl | (simp [fl_u]; done) | rfl
theorem lp_150_5 {r : fl_Q} (i1 i2 i3 : Int32) (u5 u6 : Value) (M : fl_M) (J : fl_J) (hx : ∀ w4 w5 w6 : Value, fl_dn fB150 (127, [.ref 81, .int i1, .int i2, .int ((lr_150_5 i1 i2 i3 M).1), w4, w5, w6], [], ((lr_150_5 i1 i2 i3 M).2), J) r) : fl_dn fB150 (5, [.ref 81, .int i1, .int i2, .int i3, .int 0, u5, u6], [], M, J) r := by
  have hb := fi_bd (M 81 4)
  have hB := fun m => lk_150_5 i1 i2 i3 M m
  have key : ∀ (n m : Nat) (w5 w6 : Value), m + n = ((M 81 4)).toNatClampNeg → fl_dn fB150 (5, [.ref 81, .int i1, .int i2, .int ((lq_150_5 i1 i2 i3 M m).1), .int (Int32.ofNat m), w5, w6], [], ((lq_150_5 i1 i2 i3 M m).2), J) r := by
    intro n
    induction n with
    | zero =>
      intro m w5 w6 hm
      have hm : m = ((M 81 4)).toNatClampNeg := by omega
      have hn : ¬ ((Int32.ofNat m) < (((lq_150_5 i1 i2 i3 M m).2) 81 4)) := fun z => by rw [hB m] at z; have z := (fi_lt (by omega)).mp z; omega
      exact ts_150_5 i1 i2 ((lq_150_5 i1 i2 i3 M m).1) (Int32.ofNat m) w5 w6 ((lq_150_5 i1 i2 i3 M m).2) J (fun h1 h2 => absurd h1 hn) (fun h1 h2 h3 => absurd h1 hn) (fun h1 h2 h3 h4 => absurd h1 hn) (fun h1 h2 h3 h4 => absurd h1 hn) (fun h1 => (by have e : lr_150_5 i1 i2 i3 M = lq_150_5 i1 i2 i3 M m := (by show lq_150_5 i1 i2 i3 M (((M 81 4)).toNatClampNeg) = _; rw [← hm]); rw [e] at hx; exact hx _ _ _))
    | succ n ih =>
      intro m w5 w6 hm
      have hp : (Int32.ofNat m) < (((lq_150_5 i1 i2 i3 M m).2) 81 4) := by rw [hB m]; exact (fi_lt (by omega)).mpr (by omega)
      refine ts_150_5 i1 i2 ((lq_150_5 i1 i2 i3 M m).1) (Int32.ofNat m) w5 w6 ((lq_150_5 i1 i2 i3 M m).2) J (fun h1 h2 => ?_) (fun h1 h2 h3 => ?_) (fun h1 h2 h3 h4 => ?_) (fun h1 h2 h3 h4 => ?_) (fun h1 => absurd hp h1)
      · have e : lq_150_5 i1 i2 i3 M (m + 1) = (((lq_150_5 i1 i2 i3 M m).1), ((lq_150_5 i1 i2 i3 M m).2)) := by
          rw [lqs_150_5]
          unfold ls_150_5
          simp only [if_pos h2]
        have q := ih (m + 1) (.int (-9)) w6 (by omega)
        rw [e] at q
        first | (rw [fi_s]; exact q) | (rw [← fi_s] at q; exact q) | (simp only [fi_s] at q ⊢; exact q)
      · have e : lq_150_5 i1 i2 i3 M (m + 1) = (((lq_150_5 i1 i2 i3 M m).1), ((lq_150_5 i1 i2 i3 M m).2)) := by
          rw [lqs_150_5]
          unfold ls_150_5
          simp only [if_neg h2, if_pos h3]
        have q := ih (m + 1) (.int ((lr_134_9 i1 (Int32.ofNat m) (-9) 0 ((lq_150_5 i1 i2 i3 M m).2)).1)) w6 (by omega)
        rw [e] at q
        first | (rw [fi_s]; exact q) | (rw [← fi_s] at q; exact q) | (simp only [fi_s] at q ⊢; exact q)
      · have e : lq_150_5 i1 i2 i3 M (m + 1) = ((((lq_150_5 i1 i2 i3 M m).1) + (v_142 (Int32.ofNat m) ((lq_150_5 i1 i2 i3 M m).2))), (fl_u (fl_u ((lq_150_5 i1 i2 i3 M m).2) 82 (((i1 + 4) + ((lr_134_9 i1 (Int32.ofNat m) (-9) 0 ((lq_150_5 i1 i2 i3 M m).2)).1)).toNatClampNeg) ((((lq_150_5 i1 i2 i3 M m).2) 82 (((i1 + 4) + ((lr_134_9 i1 (Int32.ofNat m) (-9) 0 ((lq_150_5 i1 i2 i3 M m).2)).1)).toNatClampNeg)) - (v_142 (Int32.ofNat m) ((lq_150_5 i1 i2 i3 M m).2)))) 82 (((i1 + 20) + (Int32.ofNat m)).toNatClampNeg) ((lr_134_9 i1 (Int32.ofNat m) (-9) 0 ((lq_150_5 i1 i2 i3 M m).2)).1))) := by
          rw [lqs_150_5]
          unfold ls_150_5
          simp only [if_neg h2, if_neg h3, if_pos h4]
        have q := ih (m + 1) (.int ((lr_134_9 i1 (Int32.ofNat m) (-9) 0 ((lq_150_5 i1 i2 i3 M m).2)).1)) (.int (v_142 (Int32.ofNat m) ((lq_150_5 i1 i2 i3 M m).2))) (by omega)
        rw [e] at q
        first | (rw [fi_s]; exact q) | (rw [← fi_s] at q; exact q) | (simp only [fi_s] at q ⊢; exact q)
      · have e : lq_150_5 i1 i2 i3 M (m + 1) = ((((lq_150_5 i1 i2 i3 M m).1) + (((lq_150_5 i1 i2 i3 M m).2) 82 (((i1 + 4) + ((lr_134_9 i1 (Int32.ofNat m) (-9) 0 ((lq_150_5 i1 i2 i3 M m).2)).1)).toNatClampNeg))), (fl_u (fl_u ((lq_150_5 i1 i2 i3 M m).2) 82 (((i1 + 4) + ((lr_134_9 i1 (Int32.ofNat m) (-9) 0 ((lq_150_5 i1 i2 i3 M m).2)).1)).toNatClampNeg) ((((lq_150_5 i1 i2 i3 M m).2) 82 (((i1 + 4) + ((lr_134_9 i1 (Int32.ofNat m) (-9) 0 ((lq_150_5 i1 i2 i3 M m).2)).1)).toNatClampNeg)) - (((lq_150_5 i1 i2 i3 M m).2) 82 (((i1 + 4) + ((lr_134_9 i1 (Int32.ofNat m) (-9) 0 ((lq_150_5 i1 i2 i3 M m).2)).1)).toNatClampNeg)))) 82 (((i1 + 20) + (Int32.ofNat m)).toNatClampNeg) ((lr_134_9 i1 (Int32.ofNat m) (-9) 0 ((lq_150_5 i1 i2 i3 M m).2)).1))) := by
          rw [lqs_150_5]
          unfold ls_150_5
          simp only [if_neg h2, if_neg h3, if_neg h4]
        have q := ih (m + 1) (.int ((lr_134_9 i1 (Int32.ofNat m) (-9) 0 ((lq_150_5 i1 i2 i3 M m).2)).1)) (.int (((lq_150_5 i1 i2 i3 M m).2) 82 (((i1 + 4) + ((lr_134_9 i1 (Int32.ofNat m) (-9) 0 ((lq_150_5 i1 i2 i3 M m).2)).1)).toNatClampNeg))) (by omega)
        rw [e] at q
        first | (rw [fi_s]; exact q) | (rw [← fi_s] at q; exact q) | (simp only [fi_s] at q ⊢; exact q)
  exact key (((M 81 4)).toNatClampNeg) 0 u5 u6 (Nat.zero_add _)
-- MiceRegistersModel.passes 130
def ls_150_130 (i1 : Int32) (m : Nat) (q : fl_M) : fl_M := (if 0 < (q 82 (((i1 + 12) + (Int32.ofNat m)).toNatClampNeg)) then (fl_u q 82 (((i1 + 12) + (Int32.ofNat m)).toNatClampNeg) ((q 82 (((i1 + 12) + (Int32.ofNat m)).toNatClampNeg)) - 1)) else (fl_u q 82 (((i1 + 12) + (Int32.ofNat m)).toNatClampNeg) ((q 82 (((i1 + 12) + (Int32.ofNat m)).toNatClampNeg)) - 0)))
def lq_150_130 (i1 : Int32) (M : fl_M) (m : Nat) : fl_M := fx_it (ls_150_130 i1) m M
theorem lqs_150_130 (i1 : Int32) (M : fl_M) (m : Nat) : lq_150_130 i1 M (m + 1) = (ls_150_130 i1) m (lq_150_130 i1 M m) := by
  unfold lq_150_130
  exact fx_it_s _ _ _
def lr_150_130 (i1 : Int32) (M : fl_M) : fl_M := (lq_150_130 i1 M (((M 81 1)).toNatClampNeg))
set_option maxRecDepth 8000 in
theorem ts_150_130 {r : fl_Q} (i1 i2 i3 i4 : Int32) (u5 u6 : Value) (M : fl_M) (J : fl_J) (q1 : (i4 < (M 81 1)) → (0 < (M 82 (((i1 + 12) + i4).toNatClampNeg))) → fl_dn fB150 (130, [.ref 81, .int i1, .int i2, .int i3, .int (i4 + 1), u5, u6], [], (fl_u M 82 (((i1 + 12) + i4).toNatClampNeg) ((M 82 (((i1 + 12) + i4).toNatClampNeg)) - 1)), J) r) (q2 : (i4 < (M 81 1)) → (¬ (0 < (M 82 (((i1 + 12) + i4).toNatClampNeg)))) → fl_dn fB150 (130, [.ref 81, .int i1, .int i2, .int i3, .int (i4 + 1), u5, u6], [], (fl_u M 82 (((i1 + 12) + i4).toNatClampNeg) ((M 82 (((i1 + 12) + i4).toNatClampNeg)) - 0)), J) r) (q3 : (¬ (i4 < (M 81 1))) → fl_dn fB150 (180, [.ref 81, .int i1, .int i2, .int i3, .int i4, u5, u6], [], M, J) r) : fl_dn fB150 (130, [.ref 81, .int i1, .int i2, .int i3, .int i4, u5, u6], [], M, J) r :=
 fl_td (s' := (136, [.ref 81, .int i1, .int i2, .int i3, .int i4, u5, u6], [.int (M 81 1), .int i4], M, J)) (fl_n 3 rfl) <|
 fl_dnot (fl_ic (t := 180) rfl rfl) fl_nlt (fun h1 =>
  fl_td (s' := (164, [.ref 81, .int i1, .int i2, .int i3, .int i4, u5, u6], [.int (M 82 (((i1 + 12) + i4).toNatClampNeg)), .int (M 82 (((i1 + 12) + i4).toNatClampNeg)), .int ((i1 + 12) + i4), .ref 82], M, J)) (fl_n 17 rfl) <|
  fl_dnot (fl_if (t := 171) rfl rfl) fl_nle (fun h2 =>
   fl_td (s' := (130, [.ref 81, .int i1, .int i2, .int i3, .int (i4 + 1), u5, u6], [], (fl_u M 82 (((i1 + 12) + i4).toNatClampNeg) ((M 82 (((i1 + 12) + i4).toNatClampNeg)) - 1)), J)) (fl_n 6 rfl) <|
   (q1 h1 h2)) (fun h2 =>
   fl_td (s' := (130, [.ref 81, .int i1, .int i2, .int i3, .int (i4 + 1), u5, u6], [], (fl_u M 82 (((i1 + 12) + i4).toNatClampNeg) ((M 82 (((i1 + 12) + i4).toNatClampNeg)) - 0)), J)) (fl_n 5 rfl) <|
   (q2 h1 h2))) (fun h1 =>
  (q3 h1))
theorem lk_150_130 (i1 : Int32) (M : fl_M) (m : Nat) : ((lq_150_130 i1 M m) 81 1) = (M 81 1) := by
  induction m with
  | zero => rfl
  | succ m ih =>
    rw [← ih]
    rw [lqs_150_130]
    generalize lq_150_130 i1 M m = q
    unfold ls_150_130
    (repeat' split) <;> first | with_reducible rfl | (simp [fl_u]; done) | rfl
theorem lp_150_130 {r : fl_Q} (i1 i2 i3 : Int32) (u5 u6 : Value) (M : fl_M) (J : fl_J) (hx : ∀ w4 : Value, fl_dn fB150 (180, [.ref 81, .int i1, .int i2, .int i3, w4, u5, u6], [], (lr_150_130 i1 M), J) r) : fl_dn fB150 (130, [.ref 81, .int i1, .int i2, .int i3, .int 0, u5, u6], [], M, J) r := by
  have hb := fi_bd (M 81 1)
  have hB := fun m => lk_150_130 i1 M m
  have key : ∀ (n m : Nat), m + n = ((M 81 1)).toNatClampNeg → fl_dn fB150 (130, [.ref 81, .int i1, .int i2, .int i3, .int (Int32.ofNat m), u5, u6], [], (lq_150_130 i1 M m), J) r := by
    intro n
    induction n with
    | zero =>
      intro m hm
      have hm : m = ((M 81 1)).toNatClampNeg := by omega
      have hn : ¬ ((Int32.ofNat m) < ((lq_150_130 i1 M m) 81 1)) := fun z => by rw [hB m] at z; have z := (fi_lt (by omega)).mp z; omega
      exact ts_150_130 i1 i2 i3 (Int32.ofNat m) u5 u6 (lq_150_130 i1 M m) J (fun h1 h2 => absurd h1 hn) (fun h1 h2 => absurd h1 hn) (fun h1 => (by have e : lr_150_130 i1 M = lq_150_130 i1 M m := (by show lq_150_130 i1 M (((M 81 1)).toNatClampNeg) = _; rw [← hm]); rw [e] at hx; exact hx _))
    | succ n ih =>
      intro m hm
      have hp : (Int32.ofNat m) < ((lq_150_130 i1 M m) 81 1) := by rw [hB m]; exact (fi_lt (by omega)).mpr (by omega)
      refine ts_150_130 i1 i2 i3 (Int32.ofNat m) u5 u6 (lq_150_130 i1 M m) J (fun h1 h2 => ?_) (fun h1 h2 => ?_) (fun h1 => absurd hp h1)
      · have e : lq_150_130 i1 M (m + 1) = (fl_u (lq_150_130 i1 M m) 82 (((i1 + 12) + (Int32.ofNat m)).toNatClampNeg) (((lq_150_130 i1 M m) 82 (((i1 + 12) + (Int32.ofNat m)).toNatClampNeg)) - 1)) := by
          rw [lqs_150_130]
          unfold ls_150_130
          simp only [if_pos h2]
        have q := ih (m + 1) (by omega)
        rw [e] at q
        first | (rw [fi_s]; exact q) | (rw [← fi_s] at q; exact q) | (simp only [fi_s] at q ⊢; exact q)
      · have e : lq_150_130 i1 M (m + 1) = (fl_u (lq_150_130 i1 M m) 82 (((i1 + 12) + (Int32.ofNat m)).toNatClampNeg) (((lq_150_130 i1 M m) 82 (((i1 + 12) + (Int32.ofNat m)).toNatClampNeg)) - 0)) := by
          rw [lqs_150_130]
          unfold ls_150_130
          simp only [if_neg h2]
        have q := ih (m + 1) (by omega)
        rw [e] at q
        first | (rw [fi_s]; exact q) | (rw [← fi_s] at q; exact q) | (simp only [fi_s] at q ⊢; exact q)
  exact key (((M 81 1)).toNatClampNeg) 0 (Nat.zero_add _)
def m_150 (b s : Int32) (M : fl_M) : fl_M := (fl_u (lr_150_130 b ((lr_150_5 b s 0 M).2)) 82 ((b + 1).toNatClampNeg) (((lr_150_130 b ((lr_150_5 b s 0 M).2)) 82 ((b + 1).toNatClampNeg)) + 1))
set_option maxRecDepth 8000 in
theorem cc_150 (M : fl_M) (J : fl_J) (b s : Int32) : fl_C 150 [.ref 81, .int b, .int s] M J (some (.int ((lr_150_5 b s 0 M).1)), (m_150 b s M), J) :=
 fl_Co (B := fB150) rfl rfl <|
 fl_td (s' := (5, [.ref 81, .int b, .int s, .int 0, .int 0, .null, .null], [], M, J)) (fl_n 4 rfl) <|
 lp_150_5 b s 0 .null .null M J (fun u8 u9 u10 =>
  fx_gen (p := fun (MM11 : fl_M) => fl_dn fB150 (127, [.ref 81, .int b, .int s, .int ((lr_150_5 b s 0 M).1), u8, u9, u10], [], MM11, J) (some (.int ((lr_150_5 b s 0 M).1)), (m_150 b s M), J)) ((lr_150_5 b s 0 M).2) (fun MM11 eMM11 =>
   fx_gen (p := fun (II12 : Int32) => fl_dn fB150 (127, [.ref 81, .int b, .int s, .int II12, u8, u9, u10], [], MM11, J) (some (.int ((lr_150_5 b s 0 M).1)), (m_150 b s M), J)) ((lr_150_5 b s 0 M).1) (fun II12 eII12 =>
    fl_td (s' := (130, [.ref 81, .int b, .int s, .int II12, .int 0, u9, u10], [], MM11, J)) (fl_n 2 rfl) <|
    lp_150_130 b s II12 u9 u10 MM11 J (fun u13 =>
     fx_gen (p := fun (MM14 : fl_M) => fl_dn fB150 (180, [.ref 81, .int b, .int s, .int II12, u13, u9, u10], [], MM14, J) (some (.int ((lr_150_5 b s 0 M).1)), (m_150 b s M), J)) (lr_150_130 b MM11) (fun MM14 eMM14 =>
      fl_td (s' := (193, [.ref 81, .int b, .int s, .int II12, u13, u9, u10], [.int II12], (fl_u MM14 82 ((b + 1).toNatClampNeg) ((MM14 82 ((b + 1).toNatClampNeg)) + 1)), J)) (fl_n 11 rfl) <|
      fl_rt rfl (fun _ => rfl) (by subst eMM11; subst eII12; subst eMM14; rfl))))))
theorem fw_150_5 {b s e : Int32} {M : fl_M} {c j : Nat} (g0 : ¬ c = 82) : (lr_150_5 b s e M).2 c j = M c j := by
  unfold lr_150_5 lq_150_5
  refine it_k (fun q : (Int32 × fl_M) => q.2 c j = M c j) rfl (fun m q hq => ?_)
  unfold ls_150_5
  (try repeat' split) <;> first | with_reducible exact hq | (simp [fl_u, g0, hq]; done)
theorem fw_150_130 {b : Int32} {M : fl_M} {c j : Nat} (g0 : ¬ c = 82) : (lr_150_130 b M) c j = M c j := by
  unfold lr_150_130 lq_150_130
  refine it_k (fun q : fl_M => q c j = M c j) rfl (fun m q hq => ?_)
  unfold ls_150_130
  (try repeat' split) <;> first | with_reducible exact hq | (simp [fl_u, g0, hq]; done)
theorem fw_150 {b s : Int32} {M : fl_M} {c j : Nat} (g0 : ¬ c = 82) : (m_150 b s M) c j = M c j := by
  unfold m_150
  (try repeat' split) <;> first | with_reducible rfl | (simp [fl_u, g0, fw_150_5 g0, fw_150_130 g0]; done)
def fB133 : sm_P := (fun pc => sm_ch sm_t133 pc, sm_Kn 3 4 none, fun x => sm_lk sm_ca3 x, some .int)
-- MiceRegistersModel.wantedBy 4
def ls_133_4 (i1 : Int32) (M : fl_M) (m : Nat) (q : Int32) : Int32 := (if ((lr_134_9 0 (Int32.ofNat m) (-9) 0 M).1) = i1 then (q ||| ((1 : Int32) <<< ((Int32.ofNat m) &&& 31))) else (q ||| 0))
def lq_133_4 (i1 i2 : Int32) (M : fl_M) (m : Nat) : Int32 := fx_it (ls_133_4 i1 M) m i2
theorem lqs_133_4 (i1 i2 : Int32) (M : fl_M) (m : Nat) : lq_133_4 i1 i2 M (m + 1) = (ls_133_4 i1 M) m (lq_133_4 i1 i2 M m) := by
  unfold lq_133_4
  exact fx_it_s _ _ _
def lr_133_4 (i1 i2 : Int32) (M : fl_M) : Int32 := (lq_133_4 i1 i2 M (((M 81 4)).toNatClampNeg))
set_option maxRecDepth 8000 in
theorem ts_133_4 {r : fl_Q} (i1 i2 i3 : Int32) (M : fl_M) (J : fl_J) (q1 : (i3 < (M 81 4)) → (((lr_134_9 0 i3 (-9) 0 M).1) = i1) → fl_dn fB133 (4, [.ref 81, .int i1, .int (i2 ||| ((1 : Int32) <<< (i3 &&& 31))), .int (i3 + 1)], [], M, J) r) (q2 : (i3 < (M 81 4)) → (¬ (((lr_134_9 0 i3 (-9) 0 M).1) = i1)) → fl_dn fB133 (4, [.ref 81, .int i1, .int (i2 ||| 0), .int (i3 + 1)], [], M, J) r) (q3 : (¬ (i3 < (M 81 4))) → fl_dn fB133 (38, [.ref 81, .int i1, .int i2, .int i3], [], M, J) r) : fl_dn fB133 (4, [.ref 81, .int i1, .int i2, .int i3], [], M, J) r :=
 fl_td (s' := (9, [.ref 81, .int i1, .int i2, .int i3], [.int (M 81 4), .int i3], M, J)) (fl_n 3 rfl) <|
 fl_dnot (fl_ic (t := 38) rfl rfl) fl_nlt (fun h1 =>
  fl_td (s' := (16, [.ref 81, .int i1, .int i2, .int i3], [.int i3, .int 0, .ref 81, .int i2], M, J)) (fl_n 4 rfl) <|
  fl_td (s' := (19, [.ref 81, .int i1, .int i2, .int i3], [.int ((lr_134_9 0 i3 (-9) 0 M).1), .int i2], M, J)) (fl_cv (o := some (.int ((lr_134_9 0 i3 (-9) 0 M).1))) rfl rfl rfl rfl (cc_134 M J 0 i3) rfl) <|
  fx_gen (p := fun (II15 : Int32) => fl_dn fB133 (19, [.ref 81, .int i1, .int i2, .int i3], [.int II15, .int i2], M, J) r) ((lr_134_9 0 i3 (-9) 0 M).1) (fun II15 eII15 =>
   fl_td (s' := (20, [.ref 81, .int i1, .int i2, .int i3], [.int i1, .int II15, .int i2], M, J)) (fl_n 1 rfl) <|
   fl_dnot (fl_ic (t := 29) rfl rfl) fl_cF (fun h2 =>
    fl_td (s' := (4, [.ref 81, .int i1, .int (i2 ||| ((1 : Int32) <<< (i3 &&& 31))), .int (i3 + 1)], [], M, J)) (fl_n 8 rfl) <|
    (by subst eII15; exact (q1 h1 h2))) (fun h2 =>
    fl_td (s' := (4, [.ref 81, .int i1, .int (i2 ||| 0), .int (i3 + 1)], [], M, J)) (fl_n 5 rfl) <|
    (by subst eII15; exact (q2 h1 h2))))) (fun h1 =>
  (q3 h1))
theorem lp_133_4 {r : fl_Q} (i1 i2 : Int32) (M : fl_M) (J : fl_J) (hx : ∀ w3 : Value, fl_dn fB133 (38, [.ref 81, .int i1, .int (lr_133_4 i1 i2 M), w3], [], M, J) r) : fl_dn fB133 (4, [.ref 81, .int i1, .int i2, .int 0], [], M, J) r := by
  have hb := fi_bd (M 81 4)
  have key : ∀ (n m : Nat), m + n = ((M 81 4)).toNatClampNeg → fl_dn fB133 (4, [.ref 81, .int i1, .int (lq_133_4 i1 i2 M m), .int (Int32.ofNat m)], [], M, J) r := by
    intro n
    induction n with
    | zero =>
      intro m hm
      have hm : m = ((M 81 4)).toNatClampNeg := by omega
      have hn : ¬ ((Int32.ofNat m) < (M 81 4)) := fun z => by have z := (fi_lt (by omega)).mp z; omega
      exact ts_133_4 i1 (lq_133_4 i1 i2 M m) (Int32.ofNat m) M J (fun h1 h2 => absurd h1 hn) (fun h1 h2 => absurd h1 hn) (fun h1 => (by have e : lr_133_4 i1 i2 M = lq_133_4 i1 i2 M m := (by show lq_133_4 i1 i2 M (((M 81 4)).toNatClampNeg) = _; rw [← hm]); rw [e] at hx; exact hx _))
    | succ n ih =>
      intro m hm
      have hp : (Int32.ofNat m) < (M 81 4) := by exact (fi_lt (by omega)).mpr (by omega)
      refine ts_133_4 i1 (lq_133_4 i1 i2 M m) (Int32.ofNat m) M J (fun h1 h2 => ?_) (fun h1 h2 => ?_) (fun h1 => absurd hp h1)
      · have e : lq_133_4 i1 i2 M (m + 1) = ((lq_133_4 i1 i2 M m) ||| ((1 : Int32) <<< ((Int32.ofNat m) &&& 31))) := by
          rw [lqs_133_4]
          unfold ls_133_4
          simp only [if_pos h2]
        have q := ih (m + 1) (by omega)
        rw [e] at q
        first | (rw [fi_s]; exact q) | (rw [← fi_s] at q; exact q) | (simp only [fi_s] at q ⊢; exact q)
      · have e : lq_133_4 i1 i2 M (m + 1) = ((lq_133_4 i1 i2 M m) ||| 0) := by
          rw [lqs_133_4]
          unfold ls_133_4
          simp only [if_neg h2]
        have q := ih (m + 1) (by omega)
        rw [e] at q
        first | (rw [fi_s]; exact q) | (rw [← fi_s] at q; exact q) | (simp only [fi_s] at q ⊢; exact q)
  exact key (((M 81 4)).toNatClampNeg) 0 (Nat.zero_add _)
set_option maxRecDepth 8000 in
theorem cc_133 (M : fl_M) (J : fl_J) (l : Int32) : fl_C 133 [.ref 81, .int l] M J (some (.int (lr_133_4 l 0 M)), M, J) :=
 fl_Co (B := fB133) rfl rfl <|
 fl_td (s' := (4, [.ref 81, .int l, .int 0, .int 0], [], M, J)) (fl_n 4 rfl) <|
 lp_133_4 l 0 M J (fun u16 =>
  fx_gen (p := fun (II17 : Int32) => fl_dn fB133 (38, [.ref 81, .int l, .int II17, u16], [], M, J) (some (.int (lr_133_4 l 0 M)), M, J)) (lr_133_4 l 0 M) (fun II17 eII17 =>
   fl_td (s' := (39, [.ref 81, .int l, .int II17, u16], [.int II17], M, J)) (fl_n 1 rfl) <|
   fl_rt rfl (fun _ => rfl) (by subst eII17; rfl)))
def fB132 : sm_P := (fun pc => sm_ch sm_t132 pc, sm_Kn 3 3 none, fun x => sm_lk sm_ca3 x, some .int)
def v_132 (l wh : Int32) (M : fl_M) : Int32 := (if wh = 0 then M 83 l.toNatClampNeg else (if wh = 1 then M 84 l.toNatClampNeg else (if wh = 2 then M 82 ((4 + l).toNatClampNeg) else (if wh = 3 then M 82 ((12 + l).toNatClampNeg) else (if wh = 4 then ((M 82 3) >>> (l &&& 31)) &&& 1 else (lr_133_4 l 0 M))))))
set_option maxRecDepth 8000 in
theorem cc_132 (M : fl_M) (J : fl_J) (l wh : Int32) : fl_C 132 [.ref 81, .int l, .int wh] M J (some (.int (v_132 l wh M)), M, J) :=
 fl_Co (B := fB132) rfl rfl <|
 fl_td (s' := (1, [.ref 81, .int l, .int wh], [.int wh], M, J)) (fl_n 1 rfl) <|
 fl_dc (c := wh = 0) (fun h1 =>
  fl_td (s' := (36, [.ref 81, .int l, .int wh], [], M, J)) (fl_sw h1 rfl) <|
  fl_td (s' := (42, [.ref 81, .int l, .int wh], [.int (M 83 l.toNatClampNeg)], M, J)) (fl_n 4 rfl) <|
  fl_rt rfl (fun _ => rfl) (by unfold v_132; first | (simp only [if_pos h1]; done) | rfl)) (fun h1 =>
  fl_dc (c := wh = 1) (fun h2 =>
   fl_td (s' := (43, [.ref 81, .int l, .int wh], [], M, J)) (fl_sw h2 rfl) <|
   fl_td (s' := (49, [.ref 81, .int l, .int wh], [.int (M 84 l.toNatClampNeg)], M, J)) (fl_n 4 rfl) <|
   fl_rt rfl (fun _ => rfl) (by unfold v_132; first | (simp only [if_neg h1, if_pos h2]; done) | rfl)) (fun h2 =>
   fl_dc (c := wh = 2) (fun h3 =>
    fl_td (s' := (50, [.ref 81, .int l, .int wh], [], M, J)) (fl_sw h3 rfl) <|
    fl_td (s' := (58, [.ref 81, .int l, .int wh], [.int (M 82 ((4 + l).toNatClampNeg))], M, J)) (fl_n 6 rfl) <|
    fl_rt rfl (fun _ => rfl) (by unfold v_132; first | (simp only [if_neg h1, if_neg h2, if_pos h3]; done) | rfl)) (fun h3 =>
    fl_dc (c := wh = 3) (fun h4 =>
     fl_td (s' := (59, [.ref 81, .int l, .int wh], [], M, J)) (fl_sw h4 rfl) <|
     fl_td (s' := (68, [.ref 81, .int l, .int wh], [.int (M 82 ((12 + l).toNatClampNeg))], M, J)) (fl_n 6 rfl) <|
     fl_rt rfl (fun _ => rfl) (by unfold v_132; first | (simp only [if_neg h1, if_neg h2, if_neg h3, if_pos h4]; done) | rfl)) (fun h4 =>
     fl_dc (c := wh = 4) (fun h5 =>
      fl_td (s' := (69, [.ref 81, .int l, .int wh], [], M, J)) (fl_sw h5 rfl) <|
      fl_td (s' := (79, [.ref 81, .int l, .int wh], [.int (((M 82 3) >>> (l &&& 31)) &&& 1)], M, J)) (fl_n 8 rfl) <|
      fl_rt rfl (fun _ => rfl) (by unfold v_132; first | (simp only [if_neg h1, if_neg h2, if_neg h3, if_neg h4, if_pos h5]; done) | rfl)) (fun h5 =>
      fl_td (s' := (80, [.ref 81, .int l, .int wh], [], M, J)) (fl_swd rfl rfl (by have e0 := fl_ne 0 rfl h1; have e1 := fl_ne 1 rfl h2; have e2 := fl_ne 2 rfl h3; have e3 := fl_ne 3 rfl h4; have e4 := fl_ne 4 rfl h5; omega)) <|
      fl_td (s' := (82, [.ref 81, .int l, .int wh], [.int l, .ref 81], M, J)) (fl_n 2 rfl) <|
      fl_td (s' := (85, [.ref 81, .int l, .int wh], [.int (lr_133_4 l 0 M)], M, J)) (fl_cv (o := some (.int (lr_133_4 l 0 M))) rfl rfl rfl rfl (cc_133 M J l) rfl) <|
      fx_gen (p := fun (II18 : Int32) => fl_dn fB132 (85, [.ref 81, .int l, .int wh], [.int II18], M, J) (some (.int (v_132 l wh M)), M, J)) (lr_133_4 l 0 M) (fun II18 eII18 =>
       fl_rt rfl (fun _ => rfl) (by subst eII18; unfold v_132; first | (simp only [if_neg h1, if_neg h2, if_neg h3, if_neg h4, if_neg h5]; done) | rfl)))))))
def fB130 : sm_P := (fun pc => sm_ch sm_t130 pc, sm_Kn 3 3 none, fun x => sm_lk sm_ca3 x, some .int)
def v_130 (l wh : Int32) (M : fl_M) : Int32 := (if (¬ (l < 0)) ∧ (¬ ((M 81 1) - 1 < l)) then (if (¬ (wh < 0)) ∧ (¬ (5 < wh)) then 1 else (-1)) else (-1))
def m_130 (l wh : Int32) (M : fl_M) : fl_M := (if (¬ (l < 0)) ∧ (¬ ((M 81 1) - 1 < l)) then (if (¬ (wh < 0)) ∧ (¬ (5 < wh)) then (fl_u M 81 11 (v_132 l wh M)) else M) else M)
set_option maxRecDepth 8000 in
theorem cc_130 (M : fl_M) (J : fl_J) (l wh : Int32) : fl_C 130 [.ref 81, .int l, .int wh] M J (some (.int (v_130 l wh M)), (m_130 l wh M), J) :=
 fl_Co (B := fB130) rfl rfl <|
 fl_td (s' := (2, [.ref 81, .int l, .int wh], [.int l, .ref 81], M, J)) (fl_n 2 rfl) <|
 fl_td (s' := (5, [.ref 81, .int l, .int wh], [.int (if (¬ (l < 0)) ∧ (¬ ((M 81 1) - 1 < l)) then 1 else 0)], M, J)) (fl_cv (o := some (.int (if (¬ (l < 0)) ∧ (¬ ((M 81 1) - 1 < l)) then 1 else 0))) rfl rfl rfl rfl (cc_131 M J l) rfl) <|
 fl_dnot (fl_if (t := 33) rfl rfl) fl_b0 (fun h1 =>
  fl_td (s' := (14, [.ref 81, .int l, .int wh], [.long 5, .long 0, .long wh.toInt64], M, J)) (fl_n 4 rfl) <|
  fl_td (s' := (17, [.ref 81, .int l, .int wh], [.int (if (¬ (wh < 0)) ∧ (¬ (5 < wh)) then 1 else 0)], M, J)) (fl_cs (o := some (.int (if (¬ (wh < 0)) ∧ (¬ (5 < wh)) then 1 else 0))) rfl rfl rfl (cc_105i M J wh 0 5) rfl) <|
  fl_dnot (fl_if (t := 33) rfl rfl) fl_b0 (fun h2 =>
   fl_td (s' := (24, [.ref 81, .int l, .int wh], [.int wh, .int l, .ref 81, .ref 81], M, J)) (fl_n 4 rfl) <|
   fl_td (s' := (27, [.ref 81, .int l, .int wh], [.int (v_132 l wh M), .ref 81], M, J)) (fl_cv (o := some (.int (v_132 l wh M))) rfl rfl rfl rfl (cc_132 M J l wh) rfl) <|
   fl_td (s' := (30, [.ref 81, .int l, .int wh], [.int 1], (fl_u M 81 11 (v_132 l wh M)), J)) (fl_cv (o := some (.int 1)) rfl rfl rfl rfl (cc_110 M J (v_132 l wh M)) rfl) <|
   fl_td (s' := (34, [.ref 81, .int l, .int wh], [.int 1], (fl_u M 81 11 (v_132 l wh M)), J)) (fl_n 1 rfl) <|
   fl_rt rfl (fun _ => rfl) (by unfold v_130 m_130; first | (simp only [if_pos h1, if_pos h2]; done) | rfl)) (fun h2 =>
   fl_td (s' := (34, [.ref 81, .int l, .int wh], [.int (-1)], M, J)) (fl_n 1 rfl) <|
   fl_rt rfl (fun _ => rfl) (by unfold v_130 m_130; first | (simp only [if_pos h1, if_neg h2]; done) | rfl))) (fun h1 =>
  fl_td (s' := (34, [.ref 81, .int l, .int wh], [.int (-1)], M, J)) (fl_n 1 rfl) <|
  fl_rt rfl (fun _ => rfl) (by unfold v_130 m_130; first | (simp only [if_neg h1]; done) | rfl))
def fB141 : sm_P := (fun pc => sm_ch sm_t141 pc, sm_Kn 3 3 none, fun x => sm_lk sm_ca3 x, some .int)
def v_141 (i wh : Int32) (M : fl_M) : Int32 := (if wh = 0 then M 85 i.toNatClampNeg else (if wh = 1 then M 82 ((20 + i).toNatClampNeg) else (if wh = 2 then M 86 i.toNatClampNeg else (if wh = 3 then v_142 i M else ((lr_134_9 0 i (-9) 0 M).1)))))
set_option maxRecDepth 8000 in
theorem cc_141 (M : fl_M) (J : fl_J) (i wh : Int32) : fl_C 141 [.ref 81, .int i, .int wh] M J (some (.int (v_141 i wh M)), M, J) :=
 fl_Co (B := fB141) rfl rfl <|
 fl_td (s' := (1, [.ref 81, .int i, .int wh], [.int wh], M, J)) (fl_n 1 rfl) <|
 fl_dc (c := wh = 0) (fun h1 =>
  fl_td (s' := (32, [.ref 81, .int i, .int wh], [], M, J)) (fl_sw h1 rfl) <|
  fl_td (s' := (38, [.ref 81, .int i, .int wh], [.int (M 85 i.toNatClampNeg)], M, J)) (fl_n 4 rfl) <|
  fl_rt rfl (fun _ => rfl) (by unfold v_141; first | (simp only [if_pos h1]; done) | rfl)) (fun h1 =>
  fl_dc (c := wh = 1) (fun h2 =>
   fl_td (s' := (39, [.ref 81, .int i, .int wh], [], M, J)) (fl_sw h2 rfl) <|
   fl_td (s' := (48, [.ref 81, .int i, .int wh], [.int (M 82 ((20 + i).toNatClampNeg))], M, J)) (fl_n 6 rfl) <|
   fl_rt rfl (fun _ => rfl) (by unfold v_141; first | (simp only [if_neg h1, if_pos h2]; done) | rfl)) (fun h2 =>
   fl_dc (c := wh = 2) (fun h3 =>
    fl_td (s' := (49, [.ref 81, .int i, .int wh], [], M, J)) (fl_sw h3 rfl) <|
    fl_td (s' := (55, [.ref 81, .int i, .int wh], [.int (M 86 i.toNatClampNeg)], M, J)) (fl_n 4 rfl) <|
    fl_rt rfl (fun _ => rfl) (by unfold v_141; first | (simp only [if_neg h1, if_neg h2, if_pos h3]; done) | rfl)) (fun h3 =>
    fl_dc (c := wh = 3) (fun h4 =>
     fl_td (s' := (56, [.ref 81, .int i, .int wh], [], M, J)) (fl_sw h4 rfl) <|
     fl_td (s' := (58, [.ref 81, .int i, .int wh], [.int i, .ref 81], M, J)) (fl_n 2 rfl) <|
     fl_td (s' := (61, [.ref 81, .int i, .int wh], [.int (v_142 i M)], M, J)) (fl_cv (o := some (.int (v_142 i M))) rfl rfl rfl rfl (cc_142 M J i) rfl) <|
     fl_rt rfl (fun _ => rfl) (by unfold v_141; first | (simp only [if_neg h1, if_neg h2, if_neg h3, if_pos h4]; done) | rfl)) (fun h4 =>
     fl_td (s' := (62, [.ref 81, .int i, .int wh], [], M, J)) (fl_swd rfl rfl (by have e0 := fl_ne 0 rfl h1; have e1 := fl_ne 1 rfl h2; have e2 := fl_ne 2 rfl h3; have e3 := fl_ne 3 rfl h4; omega)) <|
     fl_td (s' := (65, [.ref 81, .int i, .int wh], [.int i, .int 0, .ref 81], M, J)) (fl_n 3 rfl) <|
     fl_td (s' := (68, [.ref 81, .int i, .int wh], [.int ((lr_134_9 0 i (-9) 0 M).1)], M, J)) (fl_cv (o := some (.int ((lr_134_9 0 i (-9) 0 M).1))) rfl rfl rfl rfl (cc_134 M J 0 i) rfl) <|
     fx_gen (p := fun (II19 : Int32) => fl_dn fB141 (68, [.ref 81, .int i, .int wh], [.int II19], M, J) (some (.int (v_141 i wh M)), M, J)) ((lr_134_9 0 i (-9) 0 M).1) (fun II19 eII19 =>
      fl_rt rfl (fun _ => rfl) (by subst eII19; unfold v_141; first | (simp only [if_neg h1, if_neg h2, if_neg h3, if_neg h4]; done) | rfl))))))
def fB139 : sm_P := (fun pc => sm_ch sm_t139 pc, sm_Kn 3 3 none, fun x => sm_lk sm_ca3 x, some .int)
def v_139 (i wh : Int32) (M : fl_M) : Int32 := (if (¬ (i < 0)) ∧ (¬ ((M 81 4) - 1 < i)) then (if (¬ (wh < 0)) ∧ (¬ (4 < wh)) then 1 else (-1)) else (-1))
def m_139 (i wh : Int32) (M : fl_M) : fl_M := (if (¬ (i < 0)) ∧ (¬ ((M 81 4) - 1 < i)) then (if (¬ (wh < 0)) ∧ (¬ (4 < wh)) then (fl_u M 81 11 (v_141 i wh M)) else M) else M)
set_option maxRecDepth 8000 in
theorem cc_139 (M : fl_M) (J : fl_J) (i wh : Int32) : fl_C 139 [.ref 81, .int i, .int wh] M J (some (.int (v_139 i wh M)), (m_139 i wh M), J) :=
 fl_Co (B := fB139) rfl rfl <|
 fl_td (s' := (2, [.ref 81, .int i, .int wh], [.int i, .ref 81], M, J)) (fl_n 2 rfl) <|
 fl_td (s' := (5, [.ref 81, .int i, .int wh], [.int (if (¬ (i < 0)) ∧ (¬ ((M 81 4) - 1 < i)) then 1 else 0)], M, J)) (fl_cv (o := some (.int (if (¬ (i < 0)) ∧ (¬ ((M 81 4) - 1 < i)) then 1 else 0))) rfl rfl rfl rfl (cc_140 M J i) rfl) <|
 fl_dnot (fl_if (t := 33) rfl rfl) fl_b0 (fun h1 =>
  fl_td (s' := (14, [.ref 81, .int i, .int wh], [.long 4, .long 0, .long wh.toInt64], M, J)) (fl_n 4 rfl) <|
  fl_td (s' := (17, [.ref 81, .int i, .int wh], [.int (if (¬ (wh < 0)) ∧ (¬ (4 < wh)) then 1 else 0)], M, J)) (fl_cs (o := some (.int (if (¬ (wh < 0)) ∧ (¬ (4 < wh)) then 1 else 0))) rfl rfl rfl (cc_105i M J wh 0 4) rfl) <|
  fl_dnot (fl_if (t := 33) rfl rfl) fl_b0 (fun h2 =>
   fl_td (s' := (24, [.ref 81, .int i, .int wh], [.int wh, .int i, .ref 81, .ref 81], M, J)) (fl_n 4 rfl) <|
   fl_td (s' := (27, [.ref 81, .int i, .int wh], [.int (v_141 i wh M), .ref 81], M, J)) (fl_cv (o := some (.int (v_141 i wh M))) rfl rfl rfl rfl (cc_141 M J i wh) rfl) <|
   fl_td (s' := (30, [.ref 81, .int i, .int wh], [.int 1], (fl_u M 81 11 (v_141 i wh M)), J)) (fl_cv (o := some (.int 1)) rfl rfl rfl rfl (cc_110 M J (v_141 i wh M)) rfl) <|
   fl_td (s' := (34, [.ref 81, .int i, .int wh], [.int 1], (fl_u M 81 11 (v_141 i wh M)), J)) (fl_n 1 rfl) <|
   fl_rt rfl (fun _ => rfl) (by unfold v_139 m_139; first | (simp only [if_pos h1, if_pos h2]; done) | rfl)) (fun h2 =>
   fl_td (s' := (34, [.ref 81, .int i, .int wh], [.int (-1)], M, J)) (fl_n 1 rfl) <|
   fl_rt rfl (fun _ => rfl) (by unfold v_139 m_139; first | (simp only [if_pos h1, if_neg h2]; done) | rfl))) (fun h1 =>
  fl_td (s' := (34, [.ref 81, .int i, .int wh], [.int (-1)], M, J)) (fl_n 1 rfl) <|
  fl_rt rfl (fun _ => rfl) (by unfold v_139 m_139; first | (simp only [if_neg h1]; done) | rfl))
def fB144 : sm_P := (fun pc => sm_ch sm_t144 pc, sm_Kn 3 4 none, fun x => sm_lk sm_ca3 x, some .boolean)
set_option maxRecDepth 8000 in
theorem cc_144 (M : fl_M) (J : fl_J) (i kind : Int32) : fl_C 144 [.ref 81, .int i, .int kind] M J (some (.int (if ((M 85 i.toNatClampNeg) = kind) ∨ (((kind = 2) ∧ (((M 85 i.toNatClampNeg) = 4) ∨ ((kind = 3) ∧ ((M 85 i.toNatClampNeg) = 5)))) ∨ ((¬ (kind = 2)) ∧ ((kind = 3) ∧ ((M 85 i.toNatClampNeg) = 5)))) then 1 else 0)), M, J) :=
 fl_Co (B := fB144) rfl rfl <|
 fl_td (s' := (9, [.ref 81, .int i, .int kind, .int (M 85 i.toNatClampNeg)], [.int kind, .int (M 85 i.toNatClampNeg)], M, J)) (fl_n 7 rfl) <|
 fl_dtwo (fl_ic (t := 32) rfl rfl) fl_cT (fun h1 =>
  fl_td (s' := (37, [.ref 81, .int i, .int kind, .int (M 85 i.toNatClampNeg)], [.int 1], M, J)) (fl_n 2 rfl) <|
  fl_rt rfl (fun _ => rfl) (by first | (simp [h1]; done) | (simp_all; done))) (fun h1 =>
  fl_td (s' := (14, [.ref 81, .int i, .int kind, .int (M 85 i.toNatClampNeg)], [.int 2, .int kind], M, J)) (fl_n 2 rfl) <|
  fl_dnot (fl_ic (t := 22) rfl rfl) fl_cF (fun h2 =>
   fl_td (s' := (19, [.ref 81, .int i, .int kind, .int (M 85 i.toNatClampNeg)], [.int 4, .int (M 85 i.toNatClampNeg)], M, J)) (fl_n 2 rfl) <|
   fl_dtwo (fl_ic (t := 32) rfl rfl) fl_cT (fun h3 =>
    fl_td (s' := (37, [.ref 81, .int i, .int kind, .int (M 85 i.toNatClampNeg)], [.int 1], M, J)) (fl_n 2 rfl) <|
    fl_rt rfl (fun _ => rfl) (by first | (simp [h1, h2, h3]; done) | (simp_all; done))) (fun h3 =>
    fl_td (s' := (24, [.ref 81, .int i, .int kind, .int (M 85 i.toNatClampNeg)], [.int 3, .int kind], M, J)) (fl_n 2 rfl) <|
    fl_dnot (fl_ic (t := 36) rfl rfl) fl_cF (fun h4 =>
     fl_td (s' := (29, [.ref 81, .int i, .int kind, .int (M 85 i.toNatClampNeg)], [.int 5, .int (M 85 i.toNatClampNeg)], M, J)) (fl_n 2 rfl) <|
     fl_dnot (fl_ic (t := 36) rfl rfl) fl_cF (fun h5 =>
      fl_td (s' := (37, [.ref 81, .int i, .int kind, .int (M 85 i.toNatClampNeg)], [.int 1], M, J)) (fl_n 2 rfl) <|
      fl_rt rfl (fun _ => rfl) (by first | (simp [h1, h2, h3, h4, h5]; done) | (simp_all; done))) (fun h5 =>
      fl_td (s' := (37, [.ref 81, .int i, .int kind, .int (M 85 i.toNatClampNeg)], [.int 0], M, J)) (fl_n 1 rfl) <|
      fl_rt rfl (fun _ => rfl) (by first | (simp [h1, h2, h3, h4, h5]; done) | (simp_all; done)))) (fun h4 =>
     fl_td (s' := (37, [.ref 81, .int i, .int kind, .int (M 85 i.toNatClampNeg)], [.int 0], M, J)) (fl_n 1 rfl) <|
     fl_rt rfl (fun _ => rfl) (by first | (simp [h1, h2, h3, h4]; done) | (simp_all; done))))) (fun h2 =>
   fl_td (s' := (24, [.ref 81, .int i, .int kind, .int (M 85 i.toNatClampNeg)], [.int 3, .int kind], M, J)) (fl_n 2 rfl) <|
   fl_dnot (fl_ic (t := 36) rfl rfl) fl_cF (fun h6 =>
    fl_td (s' := (29, [.ref 81, .int i, .int kind, .int (M 85 i.toNatClampNeg)], [.int 5, .int (M 85 i.toNatClampNeg)], M, J)) (fl_n 2 rfl) <|
    fl_dnot (fl_ic (t := 36) rfl rfl) fl_cF (fun h7 =>
     fl_td (s' := (37, [.ref 81, .int i, .int kind, .int (M 85 i.toNatClampNeg)], [.int 1], M, J)) (fl_n 2 rfl) <|
     fl_rt rfl (fun _ => rfl) (by first | (simp [h1, h2, h6, h7]; done) | (simp_all; done))) (fun h7 =>
     fl_td (s' := (37, [.ref 81, .int i, .int kind, .int (M 85 i.toNatClampNeg)], [.int 0], M, J)) (fl_n 1 rfl) <|
     fl_rt rfl (fun _ => rfl) (by first | (simp [h1, h2, h6, h7]; done) | (simp_all; done)))) (fun h6 =>
    fl_td (s' := (37, [.ref 81, .int i, .int kind, .int (M 85 i.toNatClampNeg)], [.int 0], M, J)) (fl_n 1 rfl) <|
    fl_rt rfl (fun _ => rfl) (by first | (simp [h1, h2, h6]; done) | (simp_all; done)))))
def fB145 : sm_P := (fun pc => sm_ch sm_t145 pc, sm_Kn 3 4 none, fun x => sm_lk sm_ca3 x, some .int)
-- MiceRegistersModel.likedBy 4
def ls_145_4 (i1 : Int32) (M : fl_M) (m : Nat) (q : Int32) : Int32 := (if 0 < (v_136 0 i1 (Int32.ofNat m) M) then (q + 1) else (q + 0))
def lq_145_4 (i1 i2 : Int32) (M : fl_M) (m : Nat) : Int32 := fx_it (ls_145_4 i1 M) m i2
theorem lqs_145_4 (i1 i2 : Int32) (M : fl_M) (m : Nat) : lq_145_4 i1 i2 M (m + 1) = (ls_145_4 i1 M) m (lq_145_4 i1 i2 M m) := by
  unfold lq_145_4
  exact fx_it_s _ _ _
def lr_145_4 (i1 i2 : Int32) (M : fl_M) : Int32 := (lq_145_4 i1 i2 M (((M 81 1)).toNatClampNeg))
set_option maxRecDepth 8000 in
theorem ts_145_4 {r : fl_Q} (i1 i2 i3 : Int32) (M : fl_M) (J : fl_J) (q1 : (i3 < (M 81 1)) → (0 < (v_136 0 i1 i3 M)) → fl_dn fB145 (4, [.ref 81, .int i1, .int (i2 + 1), .int (i3 + 1)], [], M, J) r) (q2 : (i3 < (M 81 1)) → (¬ (0 < (v_136 0 i1 i3 M))) → fl_dn fB145 (4, [.ref 81, .int i1, .int (i2 + 0), .int (i3 + 1)], [], M, J) r) (q3 : (¬ (i3 < (M 81 1))) → fl_dn fB145 (36, [.ref 81, .int i1, .int i2, .int i3], [], M, J) r) : fl_dn fB145 (4, [.ref 81, .int i1, .int i2, .int i3], [], M, J) r :=
 fl_td (s' := (9, [.ref 81, .int i1, .int i2, .int i3], [.int (M 81 1), .int i3], M, J)) (fl_n 3 rfl) <|
 fl_dnot (fl_ic (t := 36) rfl rfl) fl_nlt (fun h1 =>
  fl_td (s' := (17, [.ref 81, .int i1, .int i2, .int i3], [.int i3, .int i1, .int 0, .ref 81, .int i2], M, J)) (fl_n 5 rfl) <|
  fl_td (s' := (20, [.ref 81, .int i1, .int i2, .int i3], [.int (v_136 0 i1 i3 M), .int i2], M, J)) (fl_cv (o := some (.int (v_136 0 i1 i3 M))) rfl rfl rfl rfl (cc_136 M J 0 i1 i3) rfl) <|
  fl_dnot (fl_if (t := 27) rfl rfl) fl_nle (fun h2 =>
   fl_td (s' := (4, [.ref 81, .int i1, .int (i2 + 1), .int (i3 + 1)], [], M, J)) (fl_n 6 rfl) <|
   (q1 h1 h2)) (fun h2 =>
   fl_td (s' := (4, [.ref 81, .int i1, .int (i2 + 0), .int (i3 + 1)], [], M, J)) (fl_n 5 rfl) <|
   (q2 h1 h2))) (fun h1 =>
  (q3 h1))
theorem lp_145_4 {r : fl_Q} (i1 i2 : Int32) (M : fl_M) (J : fl_J) (hx : ∀ w3 : Value, fl_dn fB145 (36, [.ref 81, .int i1, .int (lr_145_4 i1 i2 M), w3], [], M, J) r) : fl_dn fB145 (4, [.ref 81, .int i1, .int i2, .int 0], [], M, J) r := by
  have hb := fi_bd (M 81 1)
  have key : ∀ (n m : Nat), m + n = ((M 81 1)).toNatClampNeg → fl_dn fB145 (4, [.ref 81, .int i1, .int (lq_145_4 i1 i2 M m), .int (Int32.ofNat m)], [], M, J) r := by
    intro n
    induction n with
    | zero =>
      intro m hm
      have hm : m = ((M 81 1)).toNatClampNeg := by omega
      have hn : ¬ ((Int32.ofNat m) < (M 81 1)) := fun z => by have z := (fi_lt (by omega)).mp z; omega
      exact ts_145_4 i1 (lq_145_4 i1 i2 M m) (Int32.ofNat m) M J (fun h1 h2 => absurd h1 hn) (fun h1 h2 => absurd h1 hn) (fun h1 => (by have e : lr_145_4 i1 i2 M = lq_145_4 i1 i2 M m := (by show lq_145_4 i1 i2 M (((M 81 1)).toNatClampNeg) = _; rw [← hm]); rw [e] at hx; exact hx _))
    | succ n ih =>
      intro m hm
      have hp : (Int32.ofNat m) < (M 81 1) := by exact (fi_lt (by omega)).mpr (by omega)
      refine ts_145_4 i1 (lq_145_4 i1 i2 M m) (Int32.ofNat m) M J (fun h1 h2 => ?_) (fun h1 h2 => ?_) (fun h1 => absurd hp h1)
      · have e : lq_145_4 i1 i2 M (m + 1) = ((lq_145_4 i1 i2 M m) + 1) := by
          rw [lqs_145_4]
          unfold ls_145_4
          simp only [if_pos h2]
        have q := ih (m + 1) (by omega)
        rw [e] at q
        first | (rw [fi_s]; exact q) | (rw [← fi_s] at q; exact q) | (simp only [fi_s] at q ⊢; exact q)
      · have e : lq_145_4 i1 i2 M (m + 1) = ((lq_145_4 i1 i2 M m) + 0) := by
          rw [lqs_145_4]
          unfold ls_145_4
          simp only [if_neg h2]
        have q := ih (m + 1) (by omega)
        rw [e] at q
        first | (rw [fi_s]; exact q) | (rw [← fi_s] at q; exact q) | (simp only [fi_s] at q ⊢; exact q)
  exact key (((M 81 1)).toNatClampNeg) 0 (Nat.zero_add _)
set_option maxRecDepth 8000 in
theorem cc_145 (M : fl_M) (J : fl_J) (i : Int32) : fl_C 145 [.ref 81, .int i] M J (some (.int (lr_145_4 i 0 M)), M, J) :=
 fl_Co (B := fB145) rfl rfl <|
 fl_td (s' := (4, [.ref 81, .int i, .int 0, .int 0], [], M, J)) (fl_n 4 rfl) <|
 lp_145_4 i 0 M J (fun u20 =>
  fx_gen (p := fun (II21 : Int32) => fl_dn fB145 (36, [.ref 81, .int i, .int II21, u20], [], M, J) (some (.int (lr_145_4 i 0 M)), M, J)) (lr_145_4 i 0 M) (fun II21 eII21 =>
   fl_td (s' := (37, [.ref 81, .int i, .int II21, u20], [.int II21], M, J)) (fl_n 1 rfl) <|
   fl_rt rfl (fun _ => rfl) (by subst eII21; rfl)))
def fB146 : sm_P := (fun pc => sm_ch sm_t146 pc, sm_Kn 3 3 none, fun x => sm_lk sm_ca3 x, some .int)
-- MiceRegistersModel.littleWrong 4
def ls_146_4 (M : fl_M) (m : Nat) (q : Int32) : Int32 := (if (M 83 (Int32.ofNat m).toNatClampNeg) < 4 then (q + 1) else (q + 0))
def lq_146_4 (i1 : Int32) (M : fl_M) (m : Nat) : Int32 := fx_it (ls_146_4 M) m i1
theorem lqs_146_4 (i1 : Int32) (M : fl_M) (m : Nat) : lq_146_4 i1 M (m + 1) = (ls_146_4 M) m (lq_146_4 i1 M m) := by
  unfold lq_146_4
  exact fx_it_s _ _ _
def lr_146_4 (i1 : Int32) (M : fl_M) : Int32 := (lq_146_4 i1 M (((M 81 1)).toNatClampNeg))
set_option maxRecDepth 8000 in
theorem ts_146_4 {r : fl_Q} (i1 i2 : Int32) (M : fl_M) (J : fl_J) (q1 : (i2 < (M 81 1)) → ((M 83 i2.toNatClampNeg) < 4) → fl_dn fB146 (4, [.ref 81, .int (i1 + 1), .int (i2 + 1)], [], M, J) r) (q2 : (i2 < (M 81 1)) → (¬ ((M 83 i2.toNatClampNeg) < 4)) → fl_dn fB146 (4, [.ref 81, .int (i1 + 0), .int (i2 + 1)], [], M, J) r) (q3 : (¬ (i2 < (M 81 1))) → fl_dn fB146 (36, [.ref 81, .int i1, .int i2], [], M, J) r) : fl_dn fB146 (4, [.ref 81, .int i1, .int i2], [], M, J) r :=
 fl_td (s' := (9, [.ref 81, .int i1, .int i2], [.int (M 81 1), .int i2], M, J)) (fl_n 3 rfl) <|
 fl_dnot (fl_ic (t := 36) rfl rfl) fl_nlt (fun h1 =>
  fl_td (s' := (20, [.ref 81, .int i1, .int i2], [.int 4, .int (M 83 i2.toNatClampNeg), .int i1], M, J)) (fl_n 6 rfl) <|
  fl_dnot (fl_ic (t := 27) rfl rfl) fl_nlt (fun h2 =>
   fl_td (s' := (4, [.ref 81, .int (i1 + 1), .int (i2 + 1)], [], M, J)) (fl_n 6 rfl) <|
   (q1 h1 h2)) (fun h2 =>
   fl_td (s' := (4, [.ref 81, .int (i1 + 0), .int (i2 + 1)], [], M, J)) (fl_n 5 rfl) <|
   (q2 h1 h2))) (fun h1 =>
  (q3 h1))
theorem lp_146_4 {r : fl_Q} (i1 : Int32) (M : fl_M) (J : fl_J) (hx : ∀ w2 : Value, fl_dn fB146 (36, [.ref 81, .int (lr_146_4 i1 M), w2], [], M, J) r) : fl_dn fB146 (4, [.ref 81, .int i1, .int 0], [], M, J) r := by
  have hb := fi_bd (M 81 1)
  have key : ∀ (n m : Nat), m + n = ((M 81 1)).toNatClampNeg → fl_dn fB146 (4, [.ref 81, .int (lq_146_4 i1 M m), .int (Int32.ofNat m)], [], M, J) r := by
    intro n
    induction n with
    | zero =>
      intro m hm
      have hm : m = ((M 81 1)).toNatClampNeg := by omega
      have hn : ¬ ((Int32.ofNat m) < (M 81 1)) := fun z => by have z := (fi_lt (by omega)).mp z; omega
      exact ts_146_4 (lq_146_4 i1 M m) (Int32.ofNat m) M J (fun h1 h2 => absurd h1 hn) (fun h1 h2 => absurd h1 hn) (fun h1 => (by have e : lr_146_4 i1 M = lq_146_4 i1 M m := (by show lq_146_4 i1 M (((M 81 1)).toNatClampNeg) = _; rw [← hm]); rw [e] at hx; exact hx _))
    | succ n ih =>
      intro m hm
      have hp : (Int32.ofNat m) < (M 81 1) := by exact (fi_lt (by omega)).mpr (by omega)
      refine ts_146_4 (lq_146_4 i1 M m) (Int32.ofNat m) M J (fun h1 h2 => ?_) (fun h1 h2 => ?_) (fun h1 => absurd hp h1)
      · have e : lq_146_4 i1 M (m + 1) = ((lq_146_4 i1 M m) + 1) := by
          rw [lqs_146_4]
          unfold ls_146_4
          simp only [if_pos h2]
        have q := ih (m + 1) (by omega)
        rw [e] at q
        first | (rw [fi_s]; exact q) | (rw [← fi_s] at q; exact q) | (simp only [fi_s] at q ⊢; exact q)
      · have e : lq_146_4 i1 M (m + 1) = ((lq_146_4 i1 M m) + 0) := by
          rw [lqs_146_4]
          unfold ls_146_4
          simp only [if_neg h2]
        have q := ih (m + 1) (by omega)
        rw [e] at q
        first | (rw [fi_s]; exact q) | (rw [← fi_s] at q; exact q) | (simp only [fi_s] at q ⊢; exact q)
  exact key (((M 81 1)).toNatClampNeg) 0 (Nat.zero_add _)
set_option maxRecDepth 8000 in
theorem cc_146 (M : fl_M) (J : fl_J) : fl_C 146 [.ref 81] M J (some (.int (lr_146_4 0 M)), M, J) :=
 fl_Co (B := fB146) rfl rfl <|
 fl_td (s' := (4, [.ref 81, .int 0, .int 0], [], M, J)) (fl_n 4 rfl) <|
 lp_146_4 0 M J (fun u22 =>
  fx_gen (p := fun (II23 : Int32) => fl_dn fB146 (36, [.ref 81, .int II23, u22], [], M, J) (some (.int (lr_146_4 0 M)), M, J)) (lr_146_4 0 M) (fun II23 eII23 =>
   fl_td (s' := (37, [.ref 81, .int II23, u22], [.int II23], M, J)) (fl_n 1 rfl) <|
   fl_rt rfl (fun _ => rfl) (by subst eII23; rfl)))
def fB147 : sm_P := (fun pc => sm_ch sm_t147 pc, sm_Kn 3 3 none, fun x => sm_lk sm_ca3 x, some .int)
-- MiceRegistersModel.cheeses 4
def ls_147_4 (M : fl_M) (m : Nat) (q : Int32) : Int32 := (q + (M 82 ((12 + (Int32.ofNat m)).toNatClampNeg)))
def lq_147_4 (i1 : Int32) (M : fl_M) (m : Nat) : Int32 := fx_it (ls_147_4 M) m i1
theorem lqs_147_4 (i1 : Int32) (M : fl_M) (m : Nat) : lq_147_4 i1 M (m + 1) = (ls_147_4 M) m (lq_147_4 i1 M m) := by
  unfold lq_147_4
  exact fx_it_s _ _ _
def lr_147_4 (i1 : Int32) (M : fl_M) : Int32 := (lq_147_4 i1 M (8))
set_option maxRecDepth 8000 in
theorem ts_147_4 {r : fl_Q} (i1 i2 : Int32) (M : fl_M) (J : fl_J) (q1 : (i2 < 8) → fl_dn fB147 (4, [.ref 81, .int (i1 + (M 82 ((12 + i2).toNatClampNeg))), .int (i2 + 1)], [], M, J) r) (q2 : (¬ (i2 < 8)) → fl_dn fB147 (28, [.ref 81, .int i1, .int i2], [], M, J) r) : fl_dn fB147 (4, [.ref 81, .int i1, .int i2], [], M, J) r :=
 fl_td (s' := (7, [.ref 81, .int i1, .int i2], [.int 8, .int i2], M, J)) (fl_n 2 rfl) <|
 fl_dnot (fl_ic (t := 28) rfl rfl) fl_nlt (fun h1 =>
  fl_td (s' := (4, [.ref 81, .int (i1 + (M 82 ((12 + i2).toNatClampNeg))), .int (i2 + 1)], [], M, J)) (fl_n 11 rfl) <|
  (q1 h1)) (fun h1 =>
  (q2 h1))
theorem lp_147_4 {r : fl_Q} (i1 : Int32) (M : fl_M) (J : fl_J) (hx : ∀ w2 : Value, fl_dn fB147 (28, [.ref 81, .int (lr_147_4 i1 M), w2], [], M, J) r) : fl_dn fB147 (4, [.ref 81, .int i1, .int 0], [], M, J) r := by
  have hb : (8 : Int32).toNatClampNeg = 8 := rfl
  have key : ∀ (n m : Nat), m + n = 8 → fl_dn fB147 (4, [.ref 81, .int (lq_147_4 i1 M m), .int (Int32.ofNat m)], [], M, J) r := by
    intro n
    induction n with
    | zero =>
      intro m hm
      have hm : m = 8 := by omega
      have hn : ¬ ((Int32.ofNat m) < 8) := fun z => by have z := (fi_lt (by omega)).mp z; omega
      exact ts_147_4 (lq_147_4 i1 M m) (Int32.ofNat m) M J (fun h1 => absurd h1 hn) (fun h1 => (by have e : lr_147_4 i1 M = lq_147_4 i1 M m := (by show lq_147_4 i1 M (8) = _; rw [← hm]); rw [e] at hx; exact hx _))
    | succ n ih =>
      intro m hm
      have hp : (Int32.ofNat m) < 8 := by exact (fi_lt (by omega)).mpr (by omega)
      refine ts_147_4 (lq_147_4 i1 M m) (Int32.ofNat m) M J (fun h1 => ?_) (fun h1 => absurd hp h1)
      · have e : lq_147_4 i1 M (m + 1) = ((lq_147_4 i1 M m) + (M 82 ((12 + (Int32.ofNat m)).toNatClampNeg))) := by
          rw [lqs_147_4]
          unfold ls_147_4
          rfl
        have q := ih (m + 1) (by omega)
        rw [e] at q
        first | (rw [fi_s]; exact q) | (rw [← fi_s] at q; exact q) | (simp only [fi_s] at q ⊢; exact q)
  exact key (8) 0 (Nat.zero_add _)
set_option maxRecDepth 8000 in
theorem cc_147 (M : fl_M) (J : fl_J) : fl_C 147 [.ref 81] M J (some (.int (lr_147_4 0 M)), M, J) :=
 fl_Co (B := fB147) rfl rfl <|
 fl_td (s' := (4, [.ref 81, .int 0, .int 0], [], M, J)) (fl_n 4 rfl) <|
 lp_147_4 0 M J (fun u24 =>
  fx_gen (p := fun (II25 : Int32) => fl_dn fB147 (28, [.ref 81, .int II25, u24], [], M, J) (some (.int (lr_147_4 0 M)), M, J)) (lr_147_4 0 M) (fun II25 eII25 =>
   fl_td (s' := (29, [.ref 81, .int II25, u24], [.int II25], M, J)) (fl_n 1 rfl) <|
   fl_rt rfl (fun _ => rfl) (by subst eII25; rfl)))
def fB143 : sm_P := (fun pc => sm_ch sm_t143 pc, sm_Kn 3 3 none, fun x => sm_lk sm_ca3 x, some .int)
def v_143 (i kind : Int32) (M : fl_M) : Int32 := (if (¬ (i < 0)) ∧ (¬ ((M 81 4) - 1 < i)) then (if (¬ (kind < 1)) ∧ (¬ (5 < kind)) then (if ((M 85 i.toNatClampNeg) = kind) ∨ (((kind = 2) ∧ (((M 85 i.toNatClampNeg) = 4) ∨ ((kind = 3) ∧ ((M 85 i.toNatClampNeg) = 5)))) ∨ ((¬ (kind = 2)) ∧ ((kind = 3) ∧ ((M 85 i.toNatClampNeg) = 5)))) then (if kind = 1 then (lr_145_4 i 0 M) else (if kind = 2 then (lr_146_4 0 M) else (if kind = 3 then (((M 82 ((4 + (M 82 ((20 + i).toNatClampNeg))).toNatClampNeg)) + (v_142 i M)) - 1) / (v_142 i M) else (if kind = 4 then (M 86 i.toNatClampNeg) - (v_142 i M) else (lr_147_4 0 M))))) else (-3)) else (-1)) else (-1))
def m_143 (i kind : Int32) (M : fl_M) : fl_M := (if (¬ (i < 0)) ∧ (¬ ((M 81 4) - 1 < i)) then (if (¬ (kind < 1)) ∧ (¬ (5 < kind)) then (if ((M 85 i.toNatClampNeg) = kind) ∨ (((kind = 2) ∧ (((M 85 i.toNatClampNeg) = 4) ∨ ((kind = 3) ∧ ((M 85 i.toNatClampNeg) = 5)))) ∨ ((¬ (kind = 2)) ∧ ((kind = 3) ∧ ((M 85 i.toNatClampNeg) = 5)))) then M else (fl_u (fl_u M 81 14 3) 91 3 ((M 91 3) + 1))) else M) else M)
set_option maxRecDepth 8000 in
theorem cc_143 (M : fl_M) (J : fl_J) (i kind : Int32) : fl_C 143 [.ref 81, .int i, .int kind] M J (some (.int (v_143 i kind M)), (m_143 i kind M), J) :=
 fl_Co (B := fB143) rfl rfl <|
 fl_td (s' := (2, [.ref 81, .int i, .int kind], [.int i, .ref 81], M, J)) (fl_n 2 rfl) <|
 fl_td (s' := (5, [.ref 81, .int i, .int kind], [.int (if (¬ (i < 0)) ∧ (¬ ((M 81 4) - 1 < i)) then 1 else 0)], M, J)) (fl_cv (o := some (.int (if (¬ (i < 0)) ∧ (¬ ((M 81 4) - 1 < i)) then 1 else 0))) rfl rfl rfl rfl (cc_140 M J i) rfl) <|
 fl_dnot (fl_if (t := 20) rfl rfl) fl_b0 (fun h1 =>
  fl_td (s' := (14, [.ref 81, .int i, .int kind], [.long 5, .long 1, .long kind.toInt64], M, J)) (fl_n 4 rfl) <|
  fl_td (s' := (17, [.ref 81, .int i, .int kind], [.int (if (¬ (kind < 1)) ∧ (¬ (5 < kind)) then 1 else 0)], M, J)) (fl_cs (o := some (.int (if (¬ (kind < 1)) ∧ (¬ (5 < kind)) then 1 else 0))) rfl rfl rfl (cc_105i M J kind 1 5) rfl) <|
  fl_dtwo (fl_if (t := 22) rfl rfl) fl_b1 (fun h2 =>
   fl_td (s' := (25, [.ref 81, .int i, .int kind], [.int kind, .int i, .ref 81], M, J)) (fl_n 3 rfl) <|
   fl_td (s' := (28, [.ref 81, .int i, .int kind], [.int (if ((M 85 i.toNatClampNeg) = kind) ∨ (((kind = 2) ∧ (((M 85 i.toNatClampNeg) = 4) ∨ ((kind = 3) ∧ ((M 85 i.toNatClampNeg) = 5)))) ∨ ((¬ (kind = 2)) ∧ ((kind = 3) ∧ ((M 85 i.toNatClampNeg) = 5)))) then 1 else 0)], M, J)) (fl_cv (o := some (.int (if ((M 85 i.toNatClampNeg) = kind) ∨ (((kind = 2) ∧ (((M 85 i.toNatClampNeg) = 4) ∨ ((kind = 3) ∧ ((M 85 i.toNatClampNeg) = 5)))) ∨ ((¬ (kind = 2)) ∧ ((kind = 3) ∧ ((M 85 i.toNatClampNeg) = 5)))) then 1 else 0))) rfl rfl rfl rfl (cc_144 M J i kind) rfl) <|
   fl_dtwo (fl_if (t := 37) rfl rfl) fl_b1 (fun h3 =>
    fl_td (s' := (38, [.ref 81, .int i, .int kind], [.int kind], M, J)) (fl_n 1 rfl) <|
    fl_dc (c := kind = 1) (fun h4 =>
     fl_td (s' := (68, [.ref 81, .int i, .int kind], [], M, J)) (fl_sw h4 rfl) <|
     fl_td (s' := (70, [.ref 81, .int i, .int kind], [.int i, .ref 81], M, J)) (fl_n 2 rfl) <|
     fl_td (s' := (73, [.ref 81, .int i, .int kind], [.int (lr_145_4 i 0 M)], M, J)) (fl_cv (o := some (.int (lr_145_4 i 0 M))) rfl rfl rfl rfl (cc_145 M J i) rfl) <|
     fx_gen (p := fun (II26 : Int32) => fl_dn fB143 (73, [.ref 81, .int i, .int kind], [.int II26], M, J) (some (.int (v_143 i kind M)), (m_143 i kind M), J)) (lr_145_4 i 0 M) (fun II26 eII26 =>
      fl_rt rfl (fun _ => rfl) (by subst eII26; unfold v_143 m_143; first | (simp only [if_pos h1, if_pos h2, if_pos h3, if_pos h4]; done) | rfl))) (fun h4 =>
     fl_dc (c := kind = 2) (fun h5 =>
      fl_td (s' := (74, [.ref 81, .int i, .int kind], [], M, J)) (fl_sw h5 rfl) <|
      fl_td (s' := (75, [.ref 81, .int i, .int kind], [.ref 81], M, J)) (fl_n 1 rfl) <|
      fl_td (s' := (78, [.ref 81, .int i, .int kind], [.int (lr_146_4 0 M)], M, J)) (fl_cv (o := some (.int (lr_146_4 0 M))) rfl rfl rfl rfl (cc_146 M J) rfl) <|
      fx_gen (p := fun (II27 : Int32) => fl_dn fB143 (78, [.ref 81, .int i, .int kind], [.int II27], M, J) (some (.int (v_143 i kind M)), (m_143 i kind M), J)) (lr_146_4 0 M) (fun II27 eII27 =>
       fl_rt rfl (fun _ => rfl) (by subst eII27; unfold v_143 m_143; first | (simp only [if_pos h1, if_pos h2, if_pos h3, if_neg h4, if_pos h5]; done) | rfl))) (fun h5 =>
      fl_dc (c := kind = 3) (fun h6 =>
       fl_td (s' := (79, [.ref 81, .int i, .int kind], [], M, J)) (fl_sw h6 rfl) <|
       fl_td (s' := (97, [.ref 81, .int i, .int kind], [.int i, .ref 81, .int (M 82 ((4 + (M 82 ((20 + i).toNatClampNeg))).toNatClampNeg))], M, J)) (fl_n 13 rfl) <|
       fl_td (s' := (100, [.ref 81, .int i, .int kind], [.int (v_142 i M), .int (M 82 ((4 + (M 82 ((20 + i).toNatClampNeg))).toNatClampNeg))], M, J)) (fl_cv (o := some (.int (v_142 i M))) rfl rfl rfl rfl (cc_142 M J i) rfl) <|
       fl_td (s' := (105, [.ref 81, .int i, .int kind], [.int i, .ref 81, .int (((M 82 ((4 + (M 82 ((20 + i).toNatClampNeg))).toNatClampNeg)) + (v_142 i M)) - 1)], M, J)) (fl_n 5 rfl) <|
       fl_td (s' := (108, [.ref 81, .int i, .int kind], [.int (v_142 i M), .int (((M 82 ((4 + (M 82 ((20 + i).toNatClampNeg))).toNatClampNeg)) + (v_142 i M)) - 1)], M, J)) (fl_cv (o := some (.int (v_142 i M))) rfl rfl rfl rfl (cc_142 M J i) rfl) <|
       fl_td (s' := (109, [.ref 81, .int i, .int kind], [.int ((((M 82 ((4 + (M 82 ((20 + i).toNatClampNeg))).toNatClampNeg)) + (v_142 i M)) - 1) / (v_142 i M))], M, J)) (fl_n 1 rfl) <|
       fl_rt rfl (fun _ => rfl) (by unfold v_143 m_143; first | (simp only [if_pos h1, if_pos h2, if_pos h3, if_neg h4, if_neg h5, if_pos h6]; done) | rfl)) (fun h6 =>
       fl_dc (c := kind = 4) (fun h7 =>
        fl_td (s' := (110, [.ref 81, .int i, .int kind], [], M, J)) (fl_sw h7 rfl) <|
        fl_td (s' := (118, [.ref 81, .int i, .int kind], [.int i, .ref 81, .int (M 86 i.toNatClampNeg)], M, J)) (fl_n 6 rfl) <|
        fl_td (s' := (121, [.ref 81, .int i, .int kind], [.int (v_142 i M), .int (M 86 i.toNatClampNeg)], M, J)) (fl_cv (o := some (.int (v_142 i M))) rfl rfl rfl rfl (cc_142 M J i) rfl) <|
        fl_td (s' := (122, [.ref 81, .int i, .int kind], [.int ((M 86 i.toNatClampNeg) - (v_142 i M))], M, J)) (fl_n 1 rfl) <|
        fl_rt rfl (fun _ => rfl) (by unfold v_143 m_143; first | (simp only [if_pos h1, if_pos h2, if_pos h3, if_neg h4, if_neg h5, if_neg h6, if_pos h7]; done) | rfl)) (fun h7 =>
        fl_td (s' := (123, [.ref 81, .int i, .int kind], [], M, J)) (fl_swd rfl rfl (by have e0 := fl_ne 1 rfl h4; have e1 := fl_ne 2 rfl h5; have e2 := fl_ne 3 rfl h6; have e3 := fl_ne 4 rfl h7; omega)) <|
        fl_td (s' := (124, [.ref 81, .int i, .int kind], [.ref 81], M, J)) (fl_n 1 rfl) <|
        fl_td (s' := (127, [.ref 81, .int i, .int kind], [.int (lr_147_4 0 M)], M, J)) (fl_cv (o := some (.int (lr_147_4 0 M))) rfl rfl rfl rfl (cc_147 M J) rfl) <|
        fx_gen (p := fun (II28 : Int32) => fl_dn fB143 (127, [.ref 81, .int i, .int kind], [.int II28], M, J) (some (.int (v_143 i kind M)), (m_143 i kind M), J)) (lr_147_4 0 M) (fun II28 eII28 =>
         fl_rt rfl (fun _ => rfl) (by subst eII28; unfold v_143 m_143; first | (simp only [if_pos h1, if_pos h2, if_pos h3, if_neg h4, if_neg h5, if_neg h6, if_neg h7]; done) | rfl))))))) (fun h3 =>
    fl_td (s' := (33, [.ref 81, .int i, .int kind], [.int 3, .ref 81], M, J)) (fl_n 2 rfl) <|
    fl_td (s' := (36, [.ref 81, .int i, .int kind], [.int (-3)], (fl_u (fl_u M 81 14 3) 91 3 ((M 91 3) + 1)), J)) (fl_cv (o := some (.int (-3))) rfl rfl rfl rfl (cc_106 M J 3) rfl) <|
    fl_rt rfl (fun _ => rfl) (by unfold v_143 m_143; first | (simp only [if_pos h1, if_pos h2, if_neg h3]; done) | rfl))) (fun h2 =>
   fl_td (s' := (21, [.ref 81, .int i, .int kind], [.int (-1)], M, J)) (fl_n 1 rfl) <|
   fl_rt rfl (fun _ => rfl) (by unfold v_143 m_143; first | (simp only [if_pos h1, if_neg h2]; done) | rfl))) (fun h1 =>
  fl_td (s' := (21, [.ref 81, .int i, .int kind], [.int (-1)], M, J)) (fl_n 1 rfl) <|
  fl_rt rfl (fun _ => rfl) (by unfold v_143 m_143; first | (simp only [if_neg h1]; done) | rfl))
