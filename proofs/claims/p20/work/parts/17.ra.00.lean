def fB135 : sm_P := (fun pc => sm_ch sm_t135 pc, sm_Kn 3 2 none, fun x => sm_lk sm_ca3 x, some .boolean)
set_option maxRecDepth 8000 in
theorem cc_135 (M : fl_M) (J : fl_J) (s k : Int32) : fl_C 135 [.int s, .int k] M J (some (.int (if ((s >>> (k &&& 31)) &&& 1) = 1 then 1 else 0)), M, J) :=
 fl_Co (B := fB135) rfl rfl <|
 fl_td (s' := (6, [.int s, .int k], [.int 1, .int ((s >>> (k &&& 31)) &&& 1)], M, J)) (fl_n 6 rfl) <|
 fl_dnot (fl_ic (t := 13) rfl rfl) fl_cF (fun h1 =>
  fl_td (s' := (14, [.int s, .int k], [.int 1], M, J)) (fl_n 2 rfl) <|
  fl_rt rfl (fun _ => rfl) (by first | (simp [h1]; done) | (simp_all; done))) (fun h1 =>
  fl_td (s' := (14, [.int s, .int k], [.int 0], M, J)) (fl_n 1 rfl) <|
  fl_rt rfl (fun _ => rfl) (by first | (simp [h1]; done) | (simp_all; done)))
def fB131 : sm_P := (fun pc => sm_ch sm_t131 pc, sm_Kn 3 2 none, fun x => sm_lk sm_ca3 x, some .boolean)
set_option maxRecDepth 8000 in
theorem cc_131 (M : fl_M) (J : fl_J) (l : Int32) : fl_C 131 [.ref 81, .int l] M J (some (.int (if (¬ (l < 0)) ∧ (¬ ((M 81 1) - 1 < l)) then 1 else 0)), M, J) :=
 fl_Co (B := fB131) rfl rfl <|
 fl_td (s' := (10, [.ref 81, .int l], [.long (((M 81 1) - 1).toInt64), .long 0, .long l.toInt64], M, J)) (fl_n 8 rfl) <|
 fl_td (s' := (13, [.ref 81, .int l], [.int (if (¬ (l < 0)) ∧ (¬ ((M 81 1) - 1 < l)) then 1 else 0)], M, J)) (fl_cs (o := some (.int (if (¬ (l < 0)) ∧ (¬ ((M 81 1) - 1 < l)) then 1 else 0))) rfl rfl rfl (cc_105i M J l 0 ((M 81 1) - 1)) rfl) <|
 fl_rt rfl (fun _ => rfl) rfl
def fB140 : sm_P := (fun pc => sm_ch sm_t140 pc, sm_Kn 3 2 none, fun x => sm_lk sm_ca3 x, some .boolean)
set_option maxRecDepth 8000 in
theorem cc_140 (M : fl_M) (J : fl_J) (i : Int32) : fl_C 140 [.ref 81, .int i] M J (some (.int (if (¬ (i < 0)) ∧ (¬ ((M 81 4) - 1 < i)) then 1 else 0)), M, J) :=
 fl_Co (B := fB140) rfl rfl <|
 fl_td (s' := (10, [.ref 81, .int i], [.long (((M 81 4) - 1).toInt64), .long 0, .long i.toInt64], M, J)) (fl_n 8 rfl) <|
 fl_td (s' := (13, [.ref 81, .int i], [.int (if (¬ (i < 0)) ∧ (¬ ((M 81 4) - 1 < i)) then 1 else 0)], M, J)) (fl_cs (o := some (.int (if (¬ (i < 0)) ∧ (¬ ((M 81 4) - 1 < i)) then 1 else 0))) rfl rfl rfl (cc_105i M J i 0 ((M 81 4) - 1)) rfl) <|
 fl_rt rfl (fun _ => rfl) rfl
def fB138 : sm_P := (fun pc => sm_ch sm_t138 pc, sm_Kn 3 4 none, fun x => sm_lk sm_ca3 x, some .int)
def v_138 (kind w ch far : Int32) : Int32 := (if kind = 1 then w + ch else (if kind = 2 then (if w < 4 then (0 + ch) - far else (w + ch) - far) else (if kind = 3 then (w + ch) - far else (if kind = 4 then (if w < 4 then (0 + ch) - far else (w + ch) - far) else (if kind = 5 then (w + (2 * ch)) - far else (w + ch) - far)))))
set_option maxRecDepth 8000 in
theorem cc_138 (M : fl_M) (J : fl_J) (kind w ch far : Int32) : fl_C 138 [.int kind, .int w, .int ch, .int far] M J (some (.int (v_138 kind w ch far)), M, J) :=
 fl_Co (B := fB138) rfl rfl <|
 fl_td (s' := (1, [.int kind, .int w, .int ch, .int far], [.int kind], M, J)) (fl_n 1 rfl) <|
 fl_dc (c := kind = 1) (fun h1 =>
  fl_td (s' := (36, [.int kind, .int w, .int ch, .int far], [], M, J)) (fl_sw h1 rfl) <|
  fl_td (s' := (39, [.int kind, .int w, .int ch, .int far], [.int (w + ch)], M, J)) (fl_n 3 rfl) <|
  fl_rt rfl (fun _ => rfl) (by unfold v_138; first | (simp only [if_pos h1]; done) | rfl)) (fun h1 =>
  fl_dc (c := kind = 2) (fun h2 =>
   fl_td (s' := (40, [.int kind, .int w, .int ch, .int far], [], M, J)) (fl_sw h2 rfl) <|
   fl_td (s' := (42, [.int kind, .int w, .int ch, .int far], [.int 4, .int w], M, J)) (fl_n 2 rfl) <|
   fl_dnot (fl_ic (t := 49) rfl rfl) fl_nlt (fun h3 =>
    fl_td (s' := (54, [.int kind, .int w, .int ch, .int far], [.int ((0 + ch) - far)], M, J)) (fl_n 6 rfl) <|
    fl_rt rfl (fun _ => rfl) (by unfold v_138; first | (simp only [if_neg h1, if_pos h2, if_pos h3]; done) | rfl)) (fun h3 =>
    fl_td (s' := (54, [.int kind, .int w, .int ch, .int far], [.int ((w + ch) - far)], M, J)) (fl_n 5 rfl) <|
    fl_rt rfl (fun _ => rfl) (by unfold v_138; first | (simp only [if_neg h1, if_pos h2, if_neg h3]; done) | rfl))) (fun h2 =>
   fl_dc (c := kind = 3) (fun h4 =>
    fl_td (s' := (63, [.int kind, .int w, .int ch, .int far], [], M, J)) (fl_sw h4 rfl) <|
    fl_td (s' := (68, [.int kind, .int w, .int ch, .int far], [.int ((w + ch) - far)], M, J)) (fl_n 5 rfl) <|
    fl_rt rfl (fun _ => rfl) (by unfold v_138; first | (simp only [if_neg h1, if_neg h2, if_pos h4]; done) | rfl)) (fun h4 =>
    fl_dc (c := kind = 4) (fun h5 =>
     fl_td (s' := (40, [.int kind, .int w, .int ch, .int far], [], M, J)) (fl_sw h5 rfl) <|
     fl_td (s' := (42, [.int kind, .int w, .int ch, .int far], [.int 4, .int w], M, J)) (fl_n 2 rfl) <|
     fl_dnot (fl_ic (t := 49) rfl rfl) fl_nlt (fun h6 =>
      fl_td (s' := (54, [.int kind, .int w, .int ch, .int far], [.int ((0 + ch) - far)], M, J)) (fl_n 6 rfl) <|
      fl_rt rfl (fun _ => rfl) (by unfold v_138; first | (simp only [if_neg h1, if_neg h2, if_neg h4, if_pos h5, if_pos h6]; done) | rfl)) (fun h6 =>
      fl_td (s' := (54, [.int kind, .int w, .int ch, .int far], [.int ((w + ch) - far)], M, J)) (fl_n 5 rfl) <|
      fl_rt rfl (fun _ => rfl) (by unfold v_138; first | (simp only [if_neg h1, if_neg h2, if_neg h4, if_pos h5, if_neg h6]; done) | rfl))) (fun h5 =>
     fl_dc (c := kind = 5) (fun h7 =>
      fl_td (s' := (55, [.int kind, .int w, .int ch, .int far], [], M, J)) (fl_sw h7 rfl) <|
      fl_td (s' := (62, [.int kind, .int w, .int ch, .int far], [.int ((w + (2 * ch)) - far)], M, J)) (fl_n 7 rfl) <|
      fl_rt rfl (fun _ => rfl) (by unfold v_138; first | (simp only [if_neg h1, if_neg h2, if_neg h4, if_neg h5, if_pos h7]; done) | rfl)) (fun h7 =>
      fl_td (s' := (63, [.int kind, .int w, .int ch, .int far], [], M, J)) (fl_swd rfl rfl (by have e0 := fl_ne 1 rfl h1; have e1 := fl_ne 2 rfl h2; have e2 := fl_ne 3 rfl h4; have e3 := fl_ne 4 rfl h5; have e4 := fl_ne 5 rfl h7; omega)) <|
      fl_td (s' := (68, [.int kind, .int w, .int ch, .int far], [.int ((w + ch) - far)], M, J)) (fl_n 5 rfl) <|
      fl_rt rfl (fun _ => rfl) (by unfold v_138; first | (simp only [if_neg h1, if_neg h2, if_neg h4, if_neg h5, if_neg h7]; done) | rfl))))))
def fB142 : sm_P := (fun pc => sm_ch sm_t142 pc, sm_Kn 3 2 none, fun x => sm_lk sm_ca3 x, some .int)
def v_142 (i : Int32) (M : fl_M) : Int32 := (if (M 85 i.toNatClampNeg) = 3 then 2 * (M 86 i.toNatClampNeg) else (if (M 85 i.toNatClampNeg) = 5 then 2 * (M 86 i.toNatClampNeg) else (if (M 85 i.toNatClampNeg) = 4 then ((M 86 i.toNatClampNeg) / 2) + 1 else M 86 i.toNatClampNeg)))
set_option maxRecDepth 8000 in
theorem cc_142 (M : fl_M) (J : fl_J) (i : Int32) : fl_C 142 [.ref 81, .int i] M J (some (.int (v_142 i M)), M, J) :=
 fl_Co (B := fB142) rfl rfl <|
 fl_td (s' := (7, [.ref 81, .int i], [.int 3, .int (M 85 i.toNatClampNeg)], M, J)) (fl_n 5 rfl) <|
 fl_dtwo (fl_ic (t := 20) rfl rfl) fl_cT (fun h1 =>
  fl_td (s' := (60, [.ref 81, .int i], [.int (2 * (M 86 i.toNatClampNeg))], M, J)) (fl_n 7 rfl) <|
  fl_rt rfl (fun _ => rfl) (by unfold v_142; first | (simp only [if_pos h1]; done) | rfl)) (fun h1 =>
  fl_td (s' := (17, [.ref 81, .int i], [.int 5, .int (M 85 i.toNatClampNeg)], M, J)) (fl_n 5 rfl) <|
  fl_dnot (fl_ic (t := 31) rfl rfl) fl_cF (fun h2 =>
   fl_td (s' := (60, [.ref 81, .int i], [.int (2 * (M 86 i.toNatClampNeg))], M, J)) (fl_n 7 rfl) <|
   fl_rt rfl (fun _ => rfl) (by unfold v_142; first | (simp only [if_neg h1, if_pos h2]; done) | rfl)) (fun h2 =>
   fl_td (s' := (38, [.ref 81, .int i], [.int 4, .int (M 85 i.toNatClampNeg)], M, J)) (fl_n 5 rfl) <|
   fl_dnot (fl_ic (t := 54) rfl rfl) fl_cF (fun h3 =>
    fl_td (s' := (60, [.ref 81, .int i], [.int (((M 86 i.toNatClampNeg) / 2) + 1)], M, J)) (fl_n 9 rfl) <|
    fl_rt rfl (fun _ => rfl) (by unfold v_142; first | (simp only [if_neg h1, if_neg h2, if_pos h3]; done) | rfl)) (fun h3 =>
    fl_td (s' := (60, [.ref 81, .int i], [.int (M 86 i.toNatClampNeg)], M, J)) (fl_n 4 rfl) <|
    fl_rt rfl (fun _ => rfl) (by unfold v_142; first | (simp only [if_neg h1, if_neg h2, if_neg h3]; done) | rfl))))
def fB137 : sm_P := (fun pc => sm_ch sm_t137 pc, sm_Kn 3 5 none, fun x => sm_lk sm_ca3 x, some .int)
def v_137 (b i l : Int32) (M : fl_M) : Int32 := (if ((M 82 (((b + 20) + i).toNatClampNeg)) - l) < 0 then 0 - ((M 82 (((b + 20) + i).toNatClampNeg)) - l) else (M 82 (((b + 20) + i).toNatClampNeg)) - l)
set_option maxRecDepth 8000 in
theorem cc_137 (M : fl_M) (J : fl_J) (b i l : Int32) : fl_C 137 [.ref 81, .int b, .int i, .int l] M J (some (.int (v_137 b i l M)), M, J) :=
 fl_Co (B := fB137) rfl rfl <|
 fl_td (s' := (17, [.ref 81, .int b, .int i, .int l, .int ((M 82 (((b + 20) + i).toNatClampNeg)) - l)], [.int ((M 82 (((b + 20) + i).toNatClampNeg)) - l)], M, J)) (fl_n 12 rfl) <|
 fl_dnot (fl_if (t := 26) rfl rfl) fl_nlt (fun h1 =>
  fl_td (s' := (28, [.ref 81, .int b, .int i, .int l, .int ((M 82 (((b + 20) + i).toNatClampNeg)) - l)], [.int (0 - ((M 82 (((b + 20) + i).toNatClampNeg)) - l))], M, J)) (fl_n 3 rfl) <|
  fl_rt rfl (fun _ => rfl) (by unfold v_137; first | (simp only [if_pos h1]; done) | rfl)) (fun h1 =>
  fl_td (s' := (28, [.ref 81, .int b, .int i, .int l, .int ((M 82 (((b + 20) + i).toNatClampNeg)) - l)], [.int ((M 82 (((b + 20) + i).toNatClampNeg)) - l)], M, J)) (fl_n 1 rfl) <|
  fl_rt rfl (fun _ => rfl) (by unfold v_137; first | (simp only [if_neg h1]; done) | rfl))
def fB136 : sm_P := (fun pc => sm_ch sm_t136 pc, sm_Kn 3 4 none, fun x => sm_lk sm_ca3 x, some .int)
def v_136 (b i l : Int32) (M : fl_M) : Int32 := v_138 (M 85 i.toNatClampNeg) (M 83 l.toNatClampNeg) (M 82 (((b + 12) + l).toNatClampNeg)) (v_137 b i l M)
set_option maxRecDepth 8000 in
theorem cc_136 (M : fl_M) (J : fl_J) (b i l : Int32) : fl_C 136 [.ref 81, .int b, .int i, .int l] M J (some (.int (v_136 b i l M)), M, J) :=
 fl_Co (B := fB136) rfl rfl <|
 fl_td (s' := (27, [.ref 81, .int b, .int i, .int l], [.int l, .int i, .int b, .ref 81, .int (M 82 (((b + 12) + l).toNatClampNeg)), .int (M 83 l.toNatClampNeg), .int (M 85 i.toNatClampNeg)], M, J)) (fl_n 20 rfl) <|
 fl_td (s' := (30, [.ref 81, .int b, .int i, .int l], [.int (v_137 b i l M), .int (M 82 (((b + 12) + l).toNatClampNeg)), .int (M 83 l.toNatClampNeg), .int (M 85 i.toNatClampNeg)], M, J)) (fl_cv (o := some (.int (v_137 b i l M))) rfl rfl rfl rfl (cc_137 M J b i l) rfl) <|
 fl_td (s' := (33, [.ref 81, .int b, .int i, .int l], [.int (v_138 (M 85 i.toNatClampNeg) (M 83 l.toNatClampNeg) (M 82 (((b + 12) + l).toNatClampNeg)) (v_137 b i l M))], M, J)) (fl_cs (o := some (.int (v_138 (M 85 i.toNatClampNeg) (M 83 l.toNatClampNeg) (M 82 (((b + 12) + l).toNatClampNeg)) (v_137 b i l M)))) rfl rfl rfl (cc_138 M J (M 85 i.toNatClampNeg) (M 83 l.toNatClampNeg) (M 82 (((b + 12) + l).toNatClampNeg)) (v_137 b i l M)) rfl) <|
 fl_rt rfl (fun _ => rfl) rfl
def fB134 : sm_P := (fun pc => sm_ch sm_t134 pc, sm_Kn 3 9 none, fun x => sm_lk sm_ca3 x, some .int)
-- MiceRegistersModel.wants 9
def ls_134_9 (i1 i2 : Int32) (M : fl_M) (m : Nat) (q : (Int32 × Int32)) : (Int32 × Int32) := (if 0 < (M 82 (((i1 + 4) + (Int32.ofNat m)).toNatClampNeg)) then (if (((M 82 ((i1 + 3).toNatClampNeg)) >>> ((Int32.ofNat m) &&& 31)) &&& 1) = 1 then (if q.2 < 0 then ((Int32.ofNat m), 0) else (if q.1 = (-9) then (q.1, q.2) else (if 0 = q.2 then (if (v_137 i1 i2 (Int32.ofNat m) M) < (v_137 i1 i2 q.1 M) then ((Int32.ofNat m), 0) else (q.1, q.2)) else (q.1, q.2)))) else (if (M 82 ((i1 + 2).toNatClampNeg)) = (Int32.ofNat m) then (if q.2 < 0 then ((Int32.ofNat m), 0) else (if q.1 = (-9) then (q.1, q.2) else (if 0 = q.2 then (if (v_137 i1 i2 (Int32.ofNat m) M) < (v_137 i1 i2 q.1 M) then ((Int32.ofNat m), 0) else (q.1, q.2)) else (q.1, q.2)))) else (if q.2 < (v_136 i1 i2 (Int32.ofNat m) M) then ((Int32.ofNat m), (v_136 i1 i2 (Int32.ofNat m) M)) else (if q.1 = (-9) then (q.1, q.2) else (if (v_136 i1 i2 (Int32.ofNat m) M) = q.2 then (if (v_137 i1 i2 (Int32.ofNat m) M) < (v_137 i1 i2 q.1 M) then ((Int32.ofNat m), (v_136 i1 i2 (Int32.ofNat m) M)) else (q.1, q.2)) else (q.1, q.2)))))) else (if q.2 < 0 then ((Int32.ofNat m), 0) else (if q.1 = (-9) then (q.1, q.2) else (if 0 = q.2 then (if (v_137 i1 i2 (Int32.ofNat m) M) < (v_137 i1 i2 q.1 M) then ((Int32.ofNat m), 0) else (q.1, q.2)) else (q.1, q.2)))))
def lq_134_9 (i1 i2 i3 i4 : Int32) (M : fl_M) (m : Nat) : (Int32 × Int32) := fx_it (ls_134_9 i1 i2 M) m (i3, i4)
theorem lqs_134_9 (i1 i2 i3 i4 : Int32) (M : fl_M) (m : Nat) : lq_134_9 i1 i2 i3 i4 M (m + 1) = (ls_134_9 i1 i2 M) m (lq_134_9 i1 i2 i3 i4 M m) := by
  unfold lq_134_9
  exact fx_it_s _ _ _
def lr_134_9 (i1 i2 i3 i4 : Int32) (M : fl_M) : (Int32 × Int32) := (lq_134_9 i1 i2 i3 i4 M (((M 81 1)).toNatClampNeg))
