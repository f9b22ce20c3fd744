def fB50 : sm_P := (fun pc => sm_ch sm_t50 pc, sm_Kn 2 3 none, fun x => sm_lk sm_ca2 x, some .int)
def v_50 (n : Int32) (M : fl_M) : Int32 := (if n < 0 then (-1) else (if n < (M 42 0) then (M 42 0) - n else (-1)))
def m_50 (n : Int32) (M : fl_M) : fl_M := (if n < 0 then M else (if n < (M 42 0) then (lr_51_9 (lr_22_53 15 (lr_22_18 15 (fl_u (fl_u (fl_u (fl_u M 42 0 n) 15 2 0) 15 3 (-9)) 15 4 0)))) else M))
theorem cc_50 (M : fl_M) (J : fl_J) (n : Int32) : fl_C 50 [.ref 0, .int n] M J (some (.int (v_50 n M)), (m_50 n M), J) :=
 fl_Co (B := fB50) rfl rfl <|
 fl_td (s' := (1, [.ref 0, .int n, .null], [.int n], M, J)) (fl_n 1 rfl) <|
 fl_dtwo (fl_if (t := 15) rfl rfl) fl_cT (fun h1 =>
  fl_td (s' := (16, [.ref 0, .int n, .null], [.int (-1)], M, J)) (fl_n 1 rfl) <|
  fl_rt rfl (fun _ => rfl) (by unfold v_50 m_50; first | (simp only [if_pos h1]; done) | rfl)) (fun h1 =>
  fl_td (s' := (12, [.ref 0, .int n, .null], [.int (M 42 0), .int n], M, J)) (fl_n 4 rfl) <|
  fl_dtwo (fl_ic (t := 17) rfl rfl) fl_cT (fun h2 =>
   fl_td (s' := (36, [.ref 0, .int n, .int ((M 42 0) - n)], [.ref 0], (fl_u M 42 0 n), J)) (fl_n 11 rfl) <|
   fl_td (s' := (39, [.ref 0, .int n, .int ((M 42 0) - n)], [], (lr_51_9 (lr_22_53 15 (lr_22_18 15 (fl_u (fl_u (fl_u (fl_u M 42 0 n) 15 2 0) 15 3 (-9)) 15 4 0)))), J)) (fl_cv (o := none) rfl rfl rfl rfl (cc_51 (fl_u M 42 0 n) J) rfl) <|
   fx_gen (p := fun (MM64 : fl_M) => fl_dn fB50 (39, [.ref 0, .int n, .int ((M 42 0) - n)], [], MM64, J) (some (.int (v_50 n M)), (m_50 n M), J)) (lr_51_9 (lr_22_53 15 (lr_22_18 15 (fl_u (fl_u (fl_u (fl_u M 42 0 n) 15 2 0) 15 3 (-9)) 15 4 0)))) (fun MM64 eMM64 =>
    fl_td (s' := (40, [.ref 0, .int n, .int ((M 42 0) - n)], [.int ((M 42 0) - n)], MM64, J)) (fl_n 1 rfl) <|
    fl_rt rfl (fun _ => rfl) (by subst eMM64; unfold v_50 m_50; first | (simp only [if_neg h1, if_pos h2]; done) | rfl))) (fun h2 =>
   fl_td (s' := (16, [.ref 0, .int n, .null], [.int (-1)], M, J)) (fl_n 1 rfl) <|
   fl_rt rfl (fun _ => rfl) (by unfold v_50 m_50; first | (simp only [if_neg h1, if_neg h2]; done) | rfl)))
def fB52 : sm_P := (fun pc => sm_ch sm_t52 pc, sm_Kn 2 2 none, fun x => sm_lk sm_ca2 x, some .int)
def v_52 (k : Int32) (M : fl_M) : Int32 := (if (k < 0) ∨ (¬ (k < 3)) then (-1) else (if (M 15 1) = 0 then (-4) else (lr_54_10 (fl_ar 46 k.toNatClampNeg) 42 (fl_u M (fl_ar 46 k.toNatClampNeg) 0 (M 42 0))) 42 0))
def m_52 (k : Int32) (M : fl_M) : fl_M := (if (k < 0) ∨ (¬ (k < 3)) then M else (if (M 15 1) = 0 then M else (lr_54_10 (fl_ar 46 k.toNatClampNeg) 42 (fl_u M (fl_ar 46 k.toNatClampNeg) 0 (M 42 0)))))
theorem cc_52 (M : fl_M) (J : fl_J) (k : Int32) : fl_C 52 [.ref 0, .int k] M J (some (.int (v_52 k M)), (m_52 k M), J) :=
 fl_Co (B := fB52) rfl rfl <|
 fl_td (s' := (1, [.ref 0, .int k], [.int k], M, J)) (fl_n 1 rfl) <|
 fl_td (s' := (4, [.ref 0, .int k], [.int (if (k < 0) ∨ (¬ (k < 3)) then 1 else 0)], M, J)) (fl_cs (o := some (.int (if (k < 0) ∨ (¬ (k < 3)) then 1 else 0))) rfl rfl rfl (cc_53 M J k) rfl) <|
 fl_dnot (fl_if (t := 9) rfl rfl) fl_b0 (fun h1 =>
  fl_td (s' := (8, [.ref 0, .int k], [.int (-1)], M, J)) (fl_n 1 rfl) <|
  fl_rt rfl (fun _ => rfl) (by unfold v_52 m_52; first | (simp only [if_pos h1]; done) | rfl)) (fun h1 =>
  fl_td (s' := (16, [.ref 0, .int k], [.int (M 15 1)], M, J)) (fl_n 3 rfl) <|
  fl_dnot (fl_if (t := 22) rfl rfl) fl_cF (fun h2 =>
   fl_td (s' := (21, [.ref 0, .int k], [.int (-4)], M, J)) (fl_n 1 rfl) <|
   fl_rt rfl (fun _ => rfl) (by unfold v_52 m_52; first | (simp only [if_neg h1, if_pos h2]; done) | rfl)) (fun h2 =>
   fl_td (s' := (32, [.ref 0, .int k], [.ref 42, .ref (fl_ar 46 k.toNatClampNeg)], M, J)) (fl_n 6 rfl) <|
   fl_td (s' := (35, [.ref 0, .int k], [], (lr_54_10 (fl_ar 46 k.toNatClampNeg) 42 (fl_u M (fl_ar 46 k.toNatClampNeg) 0 (M 42 0))), J)) (fl_cv (o := none) rfl rfl rfl rfl (cc_54 M J (fl_ar 46 k.toNatClampNeg) 42) rfl) <|
   fx_gen (p := fun (MM65 : fl_M) => fl_dn fB52 (35, [.ref 0, .int k], [], MM65, J) (some (.int (v_52 k M)), (m_52 k M), J)) (lr_54_10 (fl_ar 46 k.toNatClampNeg) 42 (fl_u M (fl_ar 46 k.toNatClampNeg) 0 (M 42 0))) (fun MM65 eMM65 =>
    fl_td (s' := (42, [.ref 0, .int k], [.int (MM65 42 0)], MM65, J)) (fl_n 3 rfl) <|
    fl_rt rfl (fun _ => rfl) (by subst eMM65; unfold v_52 m_52; first | (simp only [if_neg h1, if_neg h2]; done) | rfl))))
def fB55 : sm_P := (fun pc => sm_ch sm_t55 pc, sm_Kn 2 2 none, fun x => sm_lk sm_ca2 x, some .int)
def v_55 (k : Int32) (M : fl_M) : Int32 := (if (k < 0) ∨ (¬ (k < 3)) then (-1) else (if (M (fl_ar 46 k.toNatClampNeg) 0) = (-1) then (-3) else (lr_51_9 (lr_22_53 15 (lr_22_18 15 (fl_u (fl_u (fl_u (lr_54_10 42 (fl_ar 46 k.toNatClampNeg) (fl_u M 42 0 (M (fl_ar 46 k.toNatClampNeg) 0))) 15 2 0) 15 3 (-9)) 15 4 0)))) 42 0))
def m_55 (k : Int32) (M : fl_M) : fl_M := (if (k < 0) ∨ (¬ (k < 3)) then M else (if (M (fl_ar 46 k.toNatClampNeg) 0) = (-1) then (fl_u (fl_u M 0 11 1) 80 1 ((M 80 1) + 1)) else (lr_51_9 (lr_22_53 15 (lr_22_18 15 (fl_u (fl_u (fl_u (lr_54_10 42 (fl_ar 46 k.toNatClampNeg) (fl_u M 42 0 (M (fl_ar 46 k.toNatClampNeg) 0))) 15 2 0) 15 3 (-9)) 15 4 0))))))
theorem cc_55 (M : fl_M) (J : fl_J) (k : Int32) : fl_C 55 [.ref 0, .int k] M J (some (.int (v_55 k M)), (m_55 k M), J) :=
 fl_Co (B := fB55) rfl rfl <|
 fl_td (s' := (1, [.ref 0, .int k], [.int k], M, J)) (fl_n 1 rfl) <|
 fl_td (s' := (4, [.ref 0, .int k], [.int (if (k < 0) ∨ (¬ (k < 3)) then 1 else 0)], M, J)) (fl_cs (o := some (.int (if (k < 0) ∨ (¬ (k < 3)) then 1 else 0))) rfl rfl rfl (cc_53 M J k) rfl) <|
 fl_dnot (fl_if (t := 9) rfl rfl) fl_b0 (fun h1 =>
  fl_td (s' := (8, [.ref 0, .int k], [.int (-1)], M, J)) (fl_n 1 rfl) <|
  fl_rt rfl (fun _ => rfl) (by unfold v_55 m_55; first | (simp only [if_pos h1]; done) | rfl)) (fun h1 =>
  fl_td (s' := (19, [.ref 0, .int k], [.int (-1), .int (M (fl_ar 46 k.toNatClampNeg) 0)], M, J)) (fl_n 6 rfl) <|
  fl_dnot (fl_ic (t := 28) rfl rfl) fl_cF (fun h2 =>
   fl_td (s' := (24, [.ref 0, .int k], [.int 1, .ref 0], M, J)) (fl_n 2 rfl) <|
   fl_td (s' := (27, [.ref 0, .int k], [.int (-3)], (fl_u (fl_u M 0 11 1) 80 1 ((M 80 1) + 1)), J)) (fl_cv (o := some (.int (-3))) rfl rfl rfl rfl (cc_2 M J 1) rfl) <|
   fl_rt rfl (fun _ => rfl) (by unfold v_55 m_55; first | (simp only [if_neg h1, if_pos h2]; done) | rfl)) (fun h2 =>
   fl_td (s' := (38, [.ref 0, .int k], [.ref (fl_ar 46 k.toNatClampNeg), .ref 42], M, J)) (fl_n 6 rfl) <|
   fl_td (s' := (41, [.ref 0, .int k], [], (lr_54_10 42 (fl_ar 46 k.toNatClampNeg) (fl_u M 42 0 (M (fl_ar 46 k.toNatClampNeg) 0))), J)) (fl_cv (o := none) rfl rfl rfl rfl (cc_54 M J 42 (fl_ar 46 k.toNatClampNeg)) rfl) <|
   fx_gen (p := fun (MM66 : fl_M) => fl_dn fB55 (41, [.ref 0, .int k], [], MM66, J) (some (.int (v_55 k M)), (m_55 k M), J)) (lr_54_10 42 (fl_ar 46 k.toNatClampNeg) (fl_u M 42 0 (M (fl_ar 46 k.toNatClampNeg) 0))) (fun MM66 eMM66 =>
    fl_td (s' := (42, [.ref 0, .int k], [.ref 0], MM66, J)) (fl_n 1 rfl) <|
    fl_td (s' := (45, [.ref 0, .int k], [], (lr_51_9 (lr_22_53 15 (lr_22_18 15 (fl_u (fl_u (fl_u MM66 15 2 0) 15 3 (-9)) 15 4 0)))), J)) (fl_cv (o := none) rfl rfl rfl rfl (cc_51 MM66 J) rfl) <|
    fx_gen (p := fun (MM67 : fl_M) => fl_dn fB55 (45, [.ref 0, .int k], [], MM67, J) (some (.int (v_55 k M)), (m_55 k M), J)) (lr_51_9 (lr_22_53 15 (lr_22_18 15 (fl_u (fl_u (fl_u MM66 15 2 0) 15 3 (-9)) 15 4 0)))) (fun MM67 eMM67 =>
     fl_td (s' := (52, [.ref 0, .int k], [.int (MM67 42 0)], MM67, J)) (fl_n 3 rfl) <|
     fl_rt rfl (fun _ => rfl) (by subst eMM66; subst eMM67; unfold v_55 m_55; first | (simp only [if_neg h1, if_neg h2]; done) | rfl)))))
def fB56 : sm_P := (fun pc => sm_ch sm_t56 pc, sm_Kn 2 5 none, fun x => sm_lk sm_ca2 x, some .int)
def v_56 (i w ch far : Int32) (M : fl_M) : Int32 := (if (i < 0) ∨ (¬ (i < (M 15 1))) then (-1) else (if w < 0 then (-1) else (if 9 < w then (-1) else (if ch < 0 then (-1) else (if 20 < ch then (-1) else (if far < 0 then (-1) else (if 7 < far then (-1) else 1)))))))
def m_56 (i w ch far : Int32) (M : fl_M) : fl_M := (if (i < 0) ∨ (¬ (i < (M 15 1))) then M else (if w < 0 then M else (if 9 < w then M else (if ch < 0 then M else (if 20 < ch then M else (if far < 0 then M else (if 7 < far then M else (fl_u M 0 12 (v_31 (M 20 i.toNatClampNeg) w ch far)))))))))
theorem cc_56 (M : fl_M) (J : fl_J) (i w ch far : Int32) : fl_C 56 [.ref 0, .int i, .int w, .int ch, .int far] M J (some (.int (v_56 i w ch far M)), (m_56 i w ch far M), J) :=
 fl_Co (B := fB56) rfl rfl <|
 fl_td (s' := (2, [.ref 0, .int i, .int w, .int ch, .int far], [.int i, .ref 0], M, J)) (fl_n 2 rfl) <|
 fl_td (s' := (5, [.ref 0, .int i, .int w, .int ch, .int far], [.int (if (i < 0) ∨ (¬ (i < (M 15 1))) then 1 else 0)], M, J)) (fl_cv (o := some (.int (if (i < 0) ∨ (¬ (i < (M 15 1))) then 1 else 0))) rfl rfl rfl rfl (cc_33 M J i) rfl) <|
 fl_dtwo (fl_if (t := 40) rfl rfl) fl_b1 (fun h1 =>
  fl_td (s' := (41, [.ref 0, .int i, .int w, .int ch, .int far], [.int (-1)], M, J)) (fl_n 1 rfl) <|
  fl_rt rfl (fun _ => rfl) (by unfold v_56 m_56; first | (simp only [if_pos h1]; done) | rfl)) (fun h1 =>
  fl_td (s' := (9, [.ref 0, .int i, .int w, .int ch, .int far], [.int w], M, J)) (fl_n 1 rfl) <|
  fl_dtwo (fl_if (t := 40) rfl rfl) fl_cT (fun h2 =>
   fl_td (s' := (41, [.ref 0, .int i, .int w, .int ch, .int far], [.int (-1)], M, J)) (fl_n 1 rfl) <|
   fl_rt rfl (fun _ => rfl) (by unfold v_56 m_56; first | (simp only [if_neg h1, if_pos h2]; done) | rfl)) (fun h2 =>
   fl_td (s' := (15, [.ref 0, .int i, .int w, .int ch, .int far], [.int 9, .int w], M, J)) (fl_n 2 rfl) <|
   fl_dtwo (fl_ic (t := 40) rfl rfl) fl_cT (fun h3 =>
    fl_td (s' := (41, [.ref 0, .int i, .int w, .int ch, .int far], [.int (-1)], M, J)) (fl_n 1 rfl) <|
    fl_rt rfl (fun _ => rfl) (by unfold v_56 m_56; first | (simp only [if_neg h1, if_neg h2, if_pos h3]; done) | rfl)) (fun h3 =>
    fl_td (s' := (19, [.ref 0, .int i, .int w, .int ch, .int far], [.int ch], M, J)) (fl_n 1 rfl) <|
    fl_dtwo (fl_if (t := 40) rfl rfl) fl_cT (fun h4 =>
     fl_td (s' := (41, [.ref 0, .int i, .int w, .int ch, .int far], [.int (-1)], M, J)) (fl_n 1 rfl) <|
     fl_rt rfl (fun _ => rfl) (by unfold v_56 m_56; first | (simp only [if_neg h1, if_neg h2, if_neg h3, if_pos h4]; done) | rfl)) (fun h4 =>
     fl_td (s' := (25, [.ref 0, .int i, .int w, .int ch, .int far], [.int 20, .int ch], M, J)) (fl_n 2 rfl) <|
     fl_dtwo (fl_ic (t := 40) rfl rfl) fl_cT (fun h5 =>
      fl_td (s' := (41, [.ref 0, .int i, .int w, .int ch, .int far], [.int (-1)], M, J)) (fl_n 1 rfl) <|
      fl_rt rfl (fun _ => rfl) (by unfold v_56 m_56; first | (simp only [if_neg h1, if_neg h2, if_neg h3, if_neg h4, if_pos h5]; done) | rfl)) (fun h5 =>
      fl_td (s' := (30, [.ref 0, .int i, .int w, .int ch, .int far], [.int far], M, J)) (fl_n 1 rfl) <|
      fl_dtwo (fl_if (t := 40) rfl rfl) fl_cT (fun h6 =>
       fl_td (s' := (41, [.ref 0, .int i, .int w, .int ch, .int far], [.int (-1)], M, J)) (fl_n 1 rfl) <|
       fl_rt rfl (fun _ => rfl) (by unfold v_56 m_56; first | (simp only [if_neg h1, if_neg h2, if_neg h3, if_neg h4, if_neg h5, if_pos h6]; done) | rfl)) (fun h6 =>
       fl_td (s' := (37, [.ref 0, .int i, .int w, .int ch, .int far], [.int 7, .int far], M, J)) (fl_n 2 rfl) <|
       fl_dnot (fl_ic (t := 42) rfl rfl) fl_nle (fun h7 =>
        fl_td (s' := (41, [.ref 0, .int i, .int w, .int ch, .int far], [.int (-1)], M, J)) (fl_n 1 rfl) <|
        fl_rt rfl (fun _ => rfl) (by unfold v_56 m_56; first | (simp only [if_neg h1, if_neg h2, if_neg h3, if_neg h4, if_neg h5, if_neg h6, if_pos h7]; done) | rfl)) (fun h7 =>
        fl_td (s' := (56, [.ref 0, .int i, .int w, .int ch, .int far], [.int far, .int ch, .int w, .int (M 20 i.toNatClampNeg), .ref 0], M, J)) (fl_n 9 rfl) <|
        fl_td (s' := (59, [.ref 0, .int i, .int w, .int ch, .int far], [.int (v_31 (M 20 i.toNatClampNeg) w ch far), .ref 0], M, J)) (fl_cs (o := some (.int (v_31 (M 20 i.toNatClampNeg) w ch far))) rfl rfl rfl (cc_31 M J (M 20 i.toNatClampNeg) w ch far) rfl) <|
        fl_td (s' := (62, [.ref 0, .int i, .int w, .int ch, .int far], [.int 1], (fl_u M 0 12 (v_31 (M 20 i.toNatClampNeg) w ch far)), J)) (fl_cv (o := some (.int 1)) rfl rfl rfl rfl (cc_5 M J (v_31 (M 20 i.toNatClampNeg) w ch far)) rfl) <|
        fl_rt rfl (fun _ => rfl) (by unfold v_56 m_56; first | (simp only [if_neg h1, if_neg h2, if_neg h3, if_neg h4, if_neg h5, if_neg h6, if_neg h7]; done) | rfl))))))))

