def fB42 : sm_P := (fun pc => sm_ch sm_t42 pc, sm_Kn 2 1 none, fun x => sm_lk sm_ca2 x, some .int)
def v_42 (M : fl_M) : Int32 := (if (M 15 1) = 0 then (-4) else (if (M 42 0) < 40 then v_45 0 0 0 15 (m_44 0 0 0 42 M) else (-2)))
def m_42 (M : fl_M) : fl_M := (if (M 15 1) = 0 then M else (if (M 42 0) < 40 then (m_45 0 0 0 15 (m_44 0 0 0 42 M)) else M))
theorem cc_42 (M : fl_M) (J : fl_J) : fl_C 42 [.ref 0] M J (some (.int (v_42 M)), (m_42 M), J) :=
 fl_Co (B := fB42) rfl rfl <|
 fl_td (s' := (7, [.ref 0], [.int (M 15 1)], M, J)) (fl_n 3 rfl) <|
 fl_dnot (fl_if (t := 13) rfl rfl) fl_cF (fun h1 =>
  fl_td (s' := (12, [.ref 0], [.int (-4)], M, J)) (fl_n 1 rfl) <|
  fl_rt rfl (fun _ => rfl) (by unfold v_42 m_42; first | (simp only [if_pos h1]; done) | rfl)) (fun h1 =>
  fl_td (s' := (22, [.ref 0], [.int 40, .int (M 42 0)], M, J)) (fl_n 4 rfl) <|
  fl_dtwo (fl_ic (t := 28) rfl rfl) fl_cT (fun h2 =>
   fl_td (s' := (32, [.ref 0], [.int 0, .int 0, .int 0, .ref 0], M, J)) (fl_n 4 rfl) <|
   fl_td (s' := (35, [.ref 0], [.int (v_45 0 0 0 15 (m_44 0 0 0 42 M))], (m_45 0 0 0 15 (m_44 0 0 0 42 M)), J)) (fl_cv (o := some (.int (v_45 0 0 0 15 (m_44 0 0 0 42 M)))) rfl rfl rfl rfl (cc_43 M J 0 0 0) rfl) <|
   fx_gen (p := fun (MM59 : fl_M) => fl_dn fB42 (35, [.ref 0], [.int (v_45 0 0 0 15 (m_44 0 0 0 42 M))], MM59, J) (some (.int (v_42 M)), (m_42 M), J)) (m_45 0 0 0 15 (m_44 0 0 0 42 M)) (fun MM59 eMM59 =>
    fl_rt rfl (fun _ => rfl) (by subst eMM59; unfold v_42 m_42; first | (simp only [if_neg h1, if_pos h2]; done) | rfl))) (fun h2 =>
   fl_td (s' := (27, [.ref 0], [.int (-2)], M, J)) (fl_n 1 rfl) <|
   fl_rt rfl (fun _ => rfl) (by unfold v_42 m_42; first | (simp only [if_neg h1, if_neg h2]; done) | rfl)))
def fB47 : sm_P := (fun pc => sm_ch sm_t47 pc, sm_Kn 2 3 none, fun x => sm_lk sm_ca2 x, some .int)
def v_47 (l n : Int32) (M : fl_M) : Int32 := (if (l < 0) ∨ (¬ (l < (M 15 0))) then (-1) else (if n < 1 then (-1) else (if 9 < n then (-1) else (if 20 < ((M 19 l.toNatClampNeg) + n) then (-4) else (if (M 42 0) < 40 then v_45 1 l n 15 (m_44 1 l n 42 M) else (-2))))))
def m_47 (l n : Int32) (M : fl_M) : fl_M := (if (l < 0) ∨ (¬ (l < (M 15 0))) then M else (if n < 1 then M else (if 9 < n then M else (if 20 < ((M 19 l.toNatClampNeg) + n) then M else (if (M 42 0) < 40 then (m_45 1 l n 15 (m_44 1 l n 42 M)) else M)))))
theorem cc_47 (M : fl_M) (J : fl_J) (l n : Int32) : fl_C 47 [.ref 0, .int l, .int n] M J (some (.int (v_47 l n M)), (m_47 l n M), J) :=
 fl_Co (B := fB47) rfl rfl <|
 fl_td (s' := (2, [.ref 0, .int l, .int n], [.int l, .ref 0], M, J)) (fl_n 2 rfl) <|
 fl_td (s' := (5, [.ref 0, .int l, .int n], [.int (if (l < 0) ∨ (¬ (l < (M 15 0))) then 1 else 0)], M, J)) (fl_cv (o := some (.int (if (l < 0) ∨ (¬ (l < (M 15 0))) then 1 else 0))) rfl rfl rfl rfl (cc_25 M J l) rfl) <|
 fl_dtwo (fl_if (t := 19) rfl rfl) fl_b1 (fun h1 =>
  fl_td (s' := (20, [.ref 0, .int l, .int n], [.int (-1)], M, J)) (fl_n 1 rfl) <|
  fl_rt rfl (fun _ => rfl) (by unfold v_47 m_47; first | (simp only [if_pos h1]; done) | rfl)) (fun h1 =>
  fl_td (s' := (10, [.ref 0, .int l, .int n], [.int 1, .int n], M, J)) (fl_n 2 rfl) <|
  fl_dtwo (fl_ic (t := 19) rfl rfl) fl_cT (fun h2 =>
   fl_td (s' := (20, [.ref 0, .int l, .int n], [.int (-1)], M, J)) (fl_n 1 rfl) <|
   fl_rt rfl (fun _ => rfl) (by unfold v_47 m_47; first | (simp only [if_neg h1, if_pos h2]; done) | rfl)) (fun h2 =>
   fl_td (s' := (16, [.ref 0, .int l, .int n], [.int 9, .int n], M, J)) (fl_n 2 rfl) <|
   fl_dnot (fl_ic (t := 21) rfl rfl) fl_nle (fun h3 =>
    fl_td (s' := (20, [.ref 0, .int l, .int n], [.int (-1)], M, J)) (fl_n 1 rfl) <|
    fl_rt rfl (fun _ => rfl) (by unfold v_47 m_47; first | (simp only [if_neg h1, if_neg h2, if_pos h3]; done) | rfl)) (fun h3 =>
    fl_td (s' := (34, [.ref 0, .int l, .int n], [.int 20, .int ((M 19 l.toNatClampNeg) + n)], M, J)) (fl_n 8 rfl) <|
    fl_dnot (fl_ic (t := 40) rfl rfl) fl_nle (fun h4 =>
     fl_td (s' := (39, [.ref 0, .int l, .int n], [.int (-4)], M, J)) (fl_n 1 rfl) <|
     fl_rt rfl (fun _ => rfl) (by unfold v_47 m_47; first | (simp only [if_neg h1, if_neg h2, if_neg h3, if_pos h4]; done) | rfl)) (fun h4 =>
     fl_td (s' := (49, [.ref 0, .int l, .int n], [.int 40, .int (M 42 0)], M, J)) (fl_n 4 rfl) <|
     fl_dtwo (fl_ic (t := 55) rfl rfl) fl_cT (fun h5 =>
      fl_td (s' := (59, [.ref 0, .int l, .int n], [.int n, .int l, .int 1, .ref 0], M, J)) (fl_n 4 rfl) <|
      fl_td (s' := (62, [.ref 0, .int l, .int n], [.int (v_45 1 l n 15 (m_44 1 l n 42 M))], (m_45 1 l n 15 (m_44 1 l n 42 M)), J)) (fl_cv (o := some (.int (v_45 1 l n 15 (m_44 1 l n 42 M)))) rfl rfl rfl rfl (cc_43 M J 1 l n) rfl) <|
      fx_gen (p := fun (MM60 : fl_M) => fl_dn fB47 (62, [.ref 0, .int l, .int n], [.int (v_45 1 l n 15 (m_44 1 l n 42 M))], MM60, J) (some (.int (v_47 l n M)), (m_47 l n M), J)) (m_45 1 l n 15 (m_44 1 l n 42 M)) (fun MM60 eMM60 =>
       fl_rt rfl (fun _ => rfl) (by subst eMM60; unfold v_47 m_47; first | (simp only [if_neg h1, if_neg h2, if_neg h3, if_neg h4, if_pos h5]; done) | rfl))) (fun h5 =>
      fl_td (s' := (54, [.ref 0, .int l, .int n], [.int (-2)], M, J)) (fl_n 1 rfl) <|
      fl_rt rfl (fun _ => rfl) (by unfold v_47 m_47; first | (simp only [if_neg h1, if_neg h2, if_neg h3, if_neg h4, if_neg h5]; done) | rfl))))))
def fB48 : sm_P := (fun pc => sm_ch sm_t48 pc, sm_Kn 2 2 none, fun x => sm_lk sm_ca2 x, some .int)
def v_48 (l : Int32) (M : fl_M) : Int32 := (if l = (-9) then (if (M 15 1) = 0 then (-4) else (if (M 15 3) = l then (-4) else (if (M 42 0) < 40 then v_45 2 l 0 15 (m_44 2 l 0 42 M) else (-2)))) else (if (l < 0) ∨ (¬ (l < (M 15 0))) then (-1) else (if (M 15 1) = 0 then (-4) else (if (M 15 3) = l then (-4) else (if (M 42 0) < 40 then v_45 2 l 0 15 (m_44 2 l 0 42 M) else (-2))))))
def m_48 (l : Int32) (M : fl_M) : fl_M := (if l = (-9) then (if (M 15 1) = 0 then M else (if (M 15 3) = l then M else (if (M 42 0) < 40 then (m_45 2 l 0 15 (m_44 2 l 0 42 M)) else M))) else (if (l < 0) ∨ (¬ (l < (M 15 0))) then M else (if (M 15 1) = 0 then M else (if (M 15 3) = l then M else (if (M 42 0) < 40 then (m_45 2 l 0 15 (m_44 2 l 0 42 M)) else M)))))
theorem cc_48 (M : fl_M) (J : fl_J) (l : Int32) : fl_C 48 [.ref 0, .int l] M J (some (.int (v_48 l M)), (m_48 l M), J) :=
 fl_Co (B := fB48) rfl rfl <|
 fl_td (s' := (3, [.ref 0, .int l], [.int (-9), .int l], M, J)) (fl_n 2 rfl) <|
 fl_dtwo (fl_ic (t := 16) rfl rfl) fl_cT (fun h1 =>
  fl_td (s' := (23, [.ref 0, .int l], [.int (M 15 1)], M, J)) (fl_n 3 rfl) <|
  fl_dtwo (fl_if (t := 37) rfl rfl) fl_cT (fun h2 =>
   fl_td (s' := (39, [.ref 0, .int l], [.int (-4)], M, J)) (fl_n 1 rfl) <|
   fl_rt rfl (fun _ => rfl) (by unfold v_48 m_48; first | (simp only [if_pos h1, if_pos h2]; done) | rfl)) (fun h2 =>
   fl_td (s' := (34, [.ref 0, .int l], [.int l, .int (M 15 3)], M, J)) (fl_n 4 rfl) <|
   fl_dnot (fl_ic (t := 40) rfl rfl) fl_cF (fun h3 =>
    fl_td (s' := (39, [.ref 0, .int l], [.int (-4)], M, J)) (fl_n 1 rfl) <|
    fl_rt rfl (fun _ => rfl) (by unfold v_48 m_48; first | (simp only [if_pos h1, if_neg h2, if_pos h3]; done) | rfl)) (fun h3 =>
    fl_td (s' := (49, [.ref 0, .int l], [.int 40, .int (M 42 0)], M, J)) (fl_n 4 rfl) <|
    fl_dtwo (fl_ic (t := 55) rfl rfl) fl_cT (fun h4 =>
     fl_td (s' := (59, [.ref 0, .int l], [.int 0, .int l, .int 2, .ref 0], M, J)) (fl_n 4 rfl) <|
     fl_td (s' := (62, [.ref 0, .int l], [.int (v_45 2 l 0 15 (m_44 2 l 0 42 M))], (m_45 2 l 0 15 (m_44 2 l 0 42 M)), J)) (fl_cv (o := some (.int (v_45 2 l 0 15 (m_44 2 l 0 42 M)))) rfl rfl rfl rfl (cc_43 M J 2 l 0) rfl) <|
     fx_gen (p := fun (MM61 : fl_M) => fl_dn fB48 (62, [.ref 0, .int l], [.int (v_45 2 l 0 15 (m_44 2 l 0 42 M))], MM61, J) (some (.int (v_48 l M)), (m_48 l M), J)) (m_45 2 l 0 15 (m_44 2 l 0 42 M)) (fun MM61 eMM61 =>
      fl_rt rfl (fun _ => rfl) (by subst eMM61; unfold v_48 m_48; first | (simp only [if_pos h1, if_neg h2, if_neg h3, if_pos h4]; done) | rfl))) (fun h4 =>
     fl_td (s' := (54, [.ref 0, .int l], [.int (-2)], M, J)) (fl_n 1 rfl) <|
     fl_rt rfl (fun _ => rfl) (by unfold v_48 m_48; first | (simp only [if_pos h1, if_neg h2, if_neg h3, if_neg h4]; done) | rfl))))) (fun h1 =>
  fl_td (s' := (8, [.ref 0, .int l], [.int l, .ref 0], M, J)) (fl_n 2 rfl) <|
  fl_td (s' := (11, [.ref 0, .int l], [.int (if (l < 0) ∨ (¬ (l < (M 15 0))) then 1 else 0)], M, J)) (fl_cv (o := some (.int (if (l < 0) ∨ (¬ (l < (M 15 0))) then 1 else 0))) rfl rfl rfl rfl (cc_25 M J l) rfl) <|
  fl_dnot (fl_if (t := 16) rfl rfl) fl_b0 (fun h6 =>
   fl_td (s' := (15, [.ref 0, .int l], [.int (-1)], M, J)) (fl_n 1 rfl) <|
   fl_rt rfl (fun _ => rfl) (by unfold v_48 m_48; first | (simp only [if_neg h1, if_pos h6]; done) | rfl)) (fun h6 =>
   fl_td (s' := (23, [.ref 0, .int l], [.int (M 15 1)], M, J)) (fl_n 3 rfl) <|
   fl_dtwo (fl_if (t := 37) rfl rfl) fl_cT (fun h7 =>
    fl_td (s' := (39, [.ref 0, .int l], [.int (-4)], M, J)) (fl_n 1 rfl) <|
    fl_rt rfl (fun _ => rfl) (by unfold v_48 m_48; first | (simp only [if_neg h1, if_neg h6, if_pos h7]; done) | rfl)) (fun h7 =>
    fl_td (s' := (34, [.ref 0, .int l], [.int l, .int (M 15 3)], M, J)) (fl_n 4 rfl) <|
    fl_dnot (fl_ic (t := 40) rfl rfl) fl_cF (fun h8 =>
     fl_td (s' := (39, [.ref 0, .int l], [.int (-4)], M, J)) (fl_n 1 rfl) <|
     fl_rt rfl (fun _ => rfl) (by unfold v_48 m_48; first | (simp only [if_neg h1, if_neg h6, if_neg h7, if_pos h8]; done) | rfl)) (fun h8 =>
     fl_td (s' := (49, [.ref 0, .int l], [.int 40, .int (M 42 0)], M, J)) (fl_n 4 rfl) <|
     fl_dtwo (fl_ic (t := 55) rfl rfl) fl_cT (fun h9 =>
      fl_td (s' := (59, [.ref 0, .int l], [.int 0, .int l, .int 2, .ref 0], M, J)) (fl_n 4 rfl) <|
      fl_td (s' := (62, [.ref 0, .int l], [.int (v_45 2 l 0 15 (m_44 2 l 0 42 M))], (m_45 2 l 0 15 (m_44 2 l 0 42 M)), J)) (fl_cv (o := some (.int (v_45 2 l 0 15 (m_44 2 l 0 42 M)))) rfl rfl rfl rfl (cc_43 M J 2 l 0) rfl) <|
      fx_gen (p := fun (MM62 : fl_M) => fl_dn fB48 (62, [.ref 0, .int l], [.int (v_45 2 l 0 15 (m_44 2 l 0 42 M))], MM62, J) (some (.int (v_48 l M)), (m_48 l M), J)) (m_45 2 l 0 15 (m_44 2 l 0 42 M)) (fun MM62 eMM62 =>
       fl_rt rfl (fun _ => rfl) (by subst eMM62; unfold v_48 m_48; first | (simp only [if_neg h1, if_neg h6, if_neg h7, if_neg h8, if_pos h9]; done) | rfl))) (fun h9 =>
      fl_td (s' := (54, [.ref 0, .int l], [.int (-2)], M, J)) (fl_n 1 rfl) <|
      fl_rt rfl (fun _ => rfl) (by unfold v_48 m_48; first | (simp only [if_neg h1, if_neg h6, if_neg h7, if_neg h8, if_neg h9]; done) | rfl))))))
def fB49 : sm_P := (fun pc => sm_ch sm_t49 pc, sm_Kn 2 2 none, fun x => sm_lk sm_ca2 x, some .int)
def v_49 (l : Int32) (M : fl_M) : Int32 := (if (l < 0) ∨ (¬ (l < (M 15 0))) then (-1) else (if (M 42 0) < 40 then v_45 3 l 0 15 (m_44 3 l 0 42 M) else (-2)))
def m_49 (l : Int32) (M : fl_M) : fl_M := (if (l < 0) ∨ (¬ (l < (M 15 0))) then M else (if (M 42 0) < 40 then (m_45 3 l 0 15 (m_44 3 l 0 42 M)) else M))
theorem cc_49 (M : fl_M) (J : fl_J) (l : Int32) : fl_C 49 [.ref 0, .int l] M J (some (.int (v_49 l M)), (m_49 l M), J) :=
 fl_Co (B := fB49) rfl rfl <|
 fl_td (s' := (2, [.ref 0, .int l], [.int l, .ref 0], M, J)) (fl_n 2 rfl) <|
 fl_td (s' := (5, [.ref 0, .int l], [.int (if (l < 0) ∨ (¬ (l < (M 15 0))) then 1 else 0)], M, J)) (fl_cv (o := some (.int (if (l < 0) ∨ (¬ (l < (M 15 0))) then 1 else 0))) rfl rfl rfl rfl (cc_25 M J l) rfl) <|
 fl_dnot (fl_if (t := 10) rfl rfl) fl_b0 (fun h1 =>
  fl_td (s' := (9, [.ref 0, .int l], [.int (-1)], M, J)) (fl_n 1 rfl) <|
  fl_rt rfl (fun _ => rfl) (by unfold v_49 m_49; first | (simp only [if_pos h1]; done) | rfl)) (fun h1 =>
  fl_td (s' := (19, [.ref 0, .int l], [.int 40, .int (M 42 0)], M, J)) (fl_n 4 rfl) <|
  fl_dtwo (fl_ic (t := 25) rfl rfl) fl_cT (fun h2 =>
   fl_td (s' := (29, [.ref 0, .int l], [.int 0, .int l, .int 3, .ref 0], M, J)) (fl_n 4 rfl) <|
   fl_td (s' := (32, [.ref 0, .int l], [.int (v_45 3 l 0 15 (m_44 3 l 0 42 M))], (m_45 3 l 0 15 (m_44 3 l 0 42 M)), J)) (fl_cv (o := some (.int (v_45 3 l 0 15 (m_44 3 l 0 42 M)))) rfl rfl rfl rfl (cc_43 M J 3 l 0) rfl) <|
   fx_gen (p := fun (MM63 : fl_M) => fl_dn fB49 (32, [.ref 0, .int l], [.int (v_45 3 l 0 15 (m_44 3 l 0 42 M))], MM63, J) (some (.int (v_49 l M)), (m_49 l M), J)) (m_45 3 l 0 15 (m_44 3 l 0 42 M)) (fun MM63 eMM63 =>
    fl_rt rfl (fun _ => rfl) (by subst eMM63; unfold v_49 m_49; first | (simp only [if_neg h1, if_pos h2]; done) | rfl))) (fun h2 =>
   fl_td (s' := (24, [.ref 0, .int l], [.int (-2)], M, J)) (fl_n 1 rfl) <|
   fl_rt rfl (fun _ => rfl) (by unfold v_49 m_49; first | (simp only [if_neg h1, if_neg h2]; done) | rfl)))
