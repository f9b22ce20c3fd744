def fB82 : sm_P := (fun pc => sm_ch sm_t82 pc, sm_Kn 2 13 none, fun x => sm_lk sm_ca2 x, some .int)
set_option maxRecDepth 30000 in
theorem ts_82_0 {r : fl_Q} (k a b lo hi : Int32) (M : fl_M) (J : fl_J) (q1 : (0 < k) → ((k - k / 2 * 2) = 0) → fl_dn fB82 (55, [.ref 24, .ref 33, .int k, .int a, .int b, .int lo, .int hi, .int 1, .null, .null, .null, .null, .null], [.int hi, .int lo, .int b, .int a, .int (k - 1), .ref 33, .ref 24], M, J) r) (q2 : (0 < k) → (¬ ((k - k / 2 * 2) = 0)) → fl_dn fB82 (55, [.ref 24, .ref 33, .int k, .int a, .int b, .int lo, .int hi, .int 0, .null, .null, .null, .null, .null], [.int hi, .int lo, .int b, .int a, .int (k - 1), .ref 33, .ref 24], M, J) r) (q3 : (¬ (0 < k)) → (some (.int (((m_46 0 33 (m_23 33 24 M)) 36 a.toNatClampNeg) - ((m_46 0 33 (m_23 33 24 M)) 36 b.toNatClampNeg))), (m_46 0 33 (m_23 33 24 M)), J) = r) : fl_dn fB82 (0, [.ref 24, .ref 33, .int k, .int a, .int b, .int lo, .int hi, .null, .null, .null, .null, .null, .null], [], M, J) r :=
 fl_td (s' := (1, [.ref 24, .ref 33, .int k, .int a, .int b, .int lo, .int hi, .null, .null, .null, .null, .null, .null], [.int k], M, J)) (fl_n 1 rfl) <|
 fl_dtwo (fl_if (t := 30) rfl rfl) fl_qgt (fun h1 =>
  fl_td (s' := (33, [.ref 24, .ref 33, .int k, .int a, .int b, .int lo, .int hi, .null, .null, .null, .null, .null, .null], [.int (k - k / 2 * 2)], M, J)) (fl_n 3 rfl) <|
  fl_dnot (fl_if (t := 40) rfl rfl) fl_qne (fun h2 =>
   fl_td (s' := (55, [.ref 24, .ref 33, .int k, .int a, .int b, .int lo, .int hi, .int 1, .null, .null, .null, .null, .null], [.int hi, .int lo, .int b, .int a, .int (k - 1), .ref 33, .ref 24], M, J)) (fl_n 12 rfl) <|
   (q1 h1 h2)) (fun h2 =>
   fl_td (s' := (55, [.ref 24, .ref 33, .int k, .int a, .int b, .int lo, .int hi, .int 0, .null, .null, .null, .null, .null], [.int hi, .int lo, .int b, .int a, .int (k - 1), .ref 33, .ref 24], M, J)) (fl_n 11 rfl) <|
   (q2 h1 h2))) (fun h1 =>
  fl_td (s' := (6, [.ref 24, .ref 33, .int k, .int a, .int b, .int lo, .int hi, .null, .null, .null, .null, .null, .null], [.ref 24, .ref 33], M, J)) (fl_n 2 rfl) <|
  fl_td (s' := (9, [.ref 24, .ref 33, .int k, .int a, .int b, .int lo, .int hi, .null, .null, .null, .null, .null, .null], [], (m_23 33 24 M), J)) (fl_cv (o := none) rfl rfl rfl rfl (cc_23 M J 33 24) rfl) <|
  fx_gen (p := fun (MM278 : fl_M) => fl_dn fB82 (9, [.ref 24, .ref 33, .int k, .int a, .int b, .int lo, .int hi, .null, .null, .null, .null, .null, .null], [], MM278, J) r) (m_23 33 24 M) (fun MM278 eMM278 =>
   fl_td (s' := (11, [.ref 24, .ref 33, .int k, .int a, .int b, .int lo, .int hi, .null, .null, .null, .null, .null, .null], [.int 0, .ref 33], MM278, J)) (fl_n 2 rfl) <|
   fl_td (s' := (14, [.ref 24, .ref 33, .int k, .int a, .int b, .int lo, .int hi, .null, .null, .null, .null, .null, .null], [.int ((lr_46_4 0 0 33 MM278).1)], (m_46 0 33 MM278), J)) (fl_cv (o := some (.int ((lr_46_4 0 0 33 MM278).1))) rfl rfl rfl rfl (cc_46 MM278 J 0 33) rfl) <|
   fx_gen (p := fun (MM279 : fl_M) => fl_dn fB82 (14, [.ref 24, .ref 33, .int k, .int a, .int b, .int lo, .int hi, .null, .null, .null, .null, .null, .null], [.int ((lr_46_4 0 0 33 MM278).1)], MM279, J) r) (m_46 0 33 MM278) (fun MM279 eMM279 =>
    fx_gen (p := fun (II280 : Int32) => fl_dn fB82 (14, [.ref 24, .ref 33, .int k, .int a, .int b, .int lo, .int hi, .null, .null, .null, .null, .null, .null], [.int II280], MM279, J) r) ((lr_46_4 0 0 33 MM278).1) (fun II280 eII280 =>
     fl_td (s' := (29, [.ref 24, .ref 33, .int k, .int a, .int b, .int lo, .int hi, .null, .null, .null, .null, .null, .null], [.int ((MM279 36 a.toNatClampNeg) - (MM279 36 b.toNatClampNeg))], MM279, J)) (fl_n 10 rfl) <|
     fl_rt rfl (fun _ => rfl) (by subst eMM278; subst eMM279; subst eII280; exact (q3 h1))))))
set_option maxRecDepth 30000 in
theorem ts_82_63 {r : fl_Q} (k a b lo hi w best l : Int32) (u10 u11 u12 : Value) (M : fl_M) (J : fl_J) (q1 : (l < (M 24 0)) → (w = 0) → (w = 0) → (lo < (if best < hi then best else hi)) → ((M 28 l.toNatClampNeg) < 20) → fl_dn fB82 (155, [.ref 24, .ref 33, .int k, .int a, .int b, .int lo, .int hi, .int w, .int best, .int l, .int lo, .int (if best < hi then best else hi), u12], [.int (if best < hi then best else hi), .int lo, .int b, .int a, .int (k - 1), .ref 33, .ref 24], (fl_u M 28 l.toNatClampNeg ((M 28 l.toNatClampNeg) + 1)), J) r) (q2 : (l < (M 24 0)) → (w = 0) → (w = 0) → (lo < (if best < hi then best else hi)) → (¬ ((M 28 l.toNatClampNeg) < 20)) → fl_dn fB82 (63, [.ref 24, .ref 33, .int k, .int a, .int b, .int lo, .int hi, .int w, .int best, .int (l + 1), .int lo, .int (if best < hi then best else hi), u12], [], M, J) r) (q3 : (l < (M 24 0)) → (w = 0) → (w = 0) → (¬ (lo < (if best < hi then best else hi))) → (some (.int best), M, J) = r) (q4 : (l < (M 24 0)) → (¬ (w = 0)) → (¬ (w = 0)) → ((if lo < best then best else lo) < hi) → ((M 28 l.toNatClampNeg) < 20) → fl_dn fB82 (155, [.ref 24, .ref 33, .int k, .int a, .int b, .int lo, .int hi, .int w, .int best, .int l, .int (if lo < best then best else lo), .int hi, u12], [.int hi, .int (if lo < best then best else lo), .int b, .int a, .int (k - 1), .ref 33, .ref 24], (fl_u M 28 l.toNatClampNeg ((M 28 l.toNatClampNeg) + 1)), J) r) (q5 : (l < (M 24 0)) → (¬ (w = 0)) → (¬ (w = 0)) → ((if lo < best then best else lo) < hi) → (¬ ((M 28 l.toNatClampNeg) < 20)) → fl_dn fB82 (63, [.ref 24, .ref 33, .int k, .int a, .int b, .int lo, .int hi, .int w, .int best, .int (l + 1), .int (if lo < best then best else lo), .int hi, u12], [], M, J) r) (q6 : (l < (M 24 0)) → (¬ (w = 0)) → (¬ (w = 0)) → (¬ ((if lo < best then best else lo) < hi)) → (some (.int best), M, J) = r) (q7 : (¬ (l < (M 24 0))) → (some (.int best), M, J) = r) : fl_dn fB82 (63, [.ref 24, .ref 33, .int k, .int a, .int b, .int lo, .int hi, .int w, .int best, .int l, u10, u11, u12], [], M, J) r :=
 fl_td (s' := (69, [.ref 24, .ref 33, .int k, .int a, .int b, .int lo, .int hi, .int w, .int best, .int l, u10, u11, u12], [.int (M 24 0), .int l], M, J)) (fl_n 3 rfl) <|
 fl_dnot (fl_ic (t := 201) rfl rfl) fl_qge (fun h1 =>
  fl_td (s' := (74, [.ref 24, .ref 33, .int k, .int a, .int b, .int lo, .int hi, .int w, .int best, .int l, u10, u11, u12], [.int w], M, J)) (fl_n 1 rfl) <|
  fl_dtwo (fl_if (t := 87) rfl rfl) fl_qeq (fun h2 =>
   fl_td (s' := (93, [.ref 24, .ref 33, .int k, .int a, .int b, .int lo, .int hi, .int w, .int best, .int l, .int lo, u11, u12], [.int w], M, J)) (fl_n 3 rfl) <|
   fl_dtwo (fl_if (t := 101) rfl rfl) fl_qeq (fun h3 =>
    fl_td (s' := (114, [.ref 24, .ref 33, .int k, .int a, .int b, .int lo, .int hi, .int w, .int best, .int l, .int lo, .int (if best < hi then best else hi), u12], [.int (if best < hi then best else hi), .int lo], M, J)) (fl_n 6 rfl) <|
    fl_dtwo (fl_ic (t := 120) rfl rfl) fl_qlt (fun h4 =>
     fl_td (s' := (129, [.ref 24, .ref 33, .int k, .int a, .int b, .int lo, .int hi, .int w, .int best, .int l, .int lo, .int (if best < hi then best else hi), u12], [.int 20, .int (M 28 l.toNatClampNeg)], M, J)) (fl_n 5 rfl) <|
     fl_dnot (fl_ic (t := 195) rfl rfl) fl_qge (fun h5 =>
      fl_td (s' := (155, [.ref 24, .ref 33, .int k, .int a, .int b, .int lo, .int hi, .int w, .int best, .int l, .int lo, .int (if best < hi then best else hi), u12], [.int (if best < hi then best else hi), .int lo, .int b, .int a, .int (k - 1), .ref 33, .ref 24], (fl_u M 28 l.toNatClampNeg ((M 28 l.toNatClampNeg) + 1)), J)) (fl_n 17 rfl) <|
      (q1 h1 h2 h3 h4 h5)) (fun h5 =>
      fl_td (s' := (63, [.ref 24, .ref 33, .int k, .int a, .int b, .int lo, .int hi, .int w, .int best, .int (l + 1), .int lo, .int (if best < hi then best else hi), u12], [], M, J)) (fl_n 2 rfl) <|
      (q2 h1 h2 h3 h4 h5))) (fun h4 =>
     fl_td (s' := (203, [.ref 24, .ref 33, .int k, .int a, .int b, .int lo, .int hi, .int w, .int best, .int l, .int lo, .int (if best < hi then best else hi), u12], [.int best], M, J)) (fl_n 2 rfl) <|
     fl_rt rfl (fun _ => rfl) (q3 h1 h2 h3 h4))) (fun h3 =>
    absurd h2 h3)) (fun h2 =>
   fl_td (s' := (93, [.ref 24, .ref 33, .int k, .int a, .int b, .int lo, .int hi, .int w, .int best, .int l, .int (if lo < best then best else lo), u11, u12], [.int w], M, J)) (fl_n 6 rfl) <|
   fl_dtwo (fl_if (t := 101) rfl rfl) fl_qeq (fun h6 =>
    absurd h6 h2) (fun h6 =>
    fl_td (s' := (114, [.ref 24, .ref 33, .int k, .int a, .int b, .int lo, .int hi, .int w, .int best, .int l, .int (if lo < best then best else lo), .int hi, u12], [.int hi, .int (if lo < best then best else lo)], M, J)) (fl_n 5 rfl) <|
    fl_dtwo (fl_ic (t := 120) rfl rfl) fl_qlt (fun h7 =>
     fl_td (s' := (129, [.ref 24, .ref 33, .int k, .int a, .int b, .int lo, .int hi, .int w, .int best, .int l, .int (if lo < best then best else lo), .int hi, u12], [.int 20, .int (M 28 l.toNatClampNeg)], M, J)) (fl_n 5 rfl) <|
     fl_dnot (fl_ic (t := 195) rfl rfl) fl_qge (fun h8 =>
      fl_td (s' := (155, [.ref 24, .ref 33, .int k, .int a, .int b, .int lo, .int hi, .int w, .int best, .int l, .int (if lo < best then best else lo), .int hi, u12], [.int hi, .int (if lo < best then best else lo), .int b, .int a, .int (k - 1), .ref 33, .ref 24], (fl_u M 28 l.toNatClampNeg ((M 28 l.toNatClampNeg) + 1)), J)) (fl_n 17 rfl) <|
      (q4 h1 h2 h6 h7 h8)) (fun h8 =>
      fl_td (s' := (63, [.ref 24, .ref 33, .int k, .int a, .int b, .int lo, .int hi, .int w, .int best, .int (l + 1), .int (if lo < best then best else lo), .int hi, u12], [], M, J)) (fl_n 2 rfl) <|
      (q5 h1 h2 h6 h7 h8))) (fun h7 =>
     fl_td (s' := (203, [.ref 24, .ref 33, .int k, .int a, .int b, .int lo, .int hi, .int w, .int best, .int l, .int (if lo < best then best else lo), .int hi, u12], [.int best], M, J)) (fl_n 2 rfl) <|
     fl_rt rfl (fun _ => rfl) (q6 h1 h2 h6 h7))))) (fun h1 =>
  fl_td (s' := (203, [.ref 24, .ref 33, .int k, .int a, .int b, .int lo, .int hi, .int w, .int best, .int l, u10, u11, u12], [.int best], M, J)) (fl_n 1 rfl) <|
  fl_rt rfl (fun _ => rfl) (q7 h1))
set_option maxRecDepth 30000 in
theorem ts_82_158 {r : fl_Q} (k a b lo hi w best l ln hn got : Int32) (u12 : Value) (M : fl_M) (J : fl_J) (q1 : (w = 0) → fl_dn fB82 (63, [.ref 24, .ref 33, .int k, .int a, .int b, .int lo, .int hi, .int w, .int (if got < best then got else best), .int (l + 1), .int ln, .int hn, .int got], [], (fl_u M 28 l.toNatClampNeg ((M 28 l.toNatClampNeg) - 1)), J) r) (q2 : (¬ (w = 0)) → fl_dn fB82 (63, [.ref 24, .ref 33, .int k, .int a, .int b, .int lo, .int hi, .int w, .int (if best < got then got else best), .int (l + 1), .int ln, .int hn, .int got], [], (fl_u M 28 l.toNatClampNeg ((M 28 l.toNatClampNeg) - 1)), J) r) : fl_dn fB82 (158, [.ref 24, .ref 33, .int k, .int a, .int b, .int lo, .int hi, .int w, .int best, .int l, .int ln, .int hn, u12], [.int got], M, J) r :=
 fl_td (s' := (173, [.ref 24, .ref 33, .int k, .int a, .int b, .int lo, .int hi, .int w, .int best, .int l, .int ln, .int hn, .int got], [.int w], (fl_u M 28 l.toNatClampNeg ((M 28 l.toNatClampNeg) - 1)), J)) (fl_n 10 rfl) <|
 fl_dtwo (fl_if (t := 186) rfl rfl) fl_qeq (fun h1 =>
  fl_td (s' := (63, [.ref 24, .ref 33, .int k, .int a, .int b, .int lo, .int hi, .int w, .int (if got < best then got else best), .int (l + 1), .int ln, .int hn, .int got], [], (fl_u M 28 l.toNatClampNeg ((M 28 l.toNatClampNeg) - 1)), J)) (fl_n 6 rfl) <|
  (q1 h1)) (fun h1 =>
  fl_td (s' := (63, [.ref 24, .ref 33, .int k, .int a, .int b, .int lo, .int hi, .int w, .int (if best < got then got else best), .int (l + 1), .int ln, .int hn, .int got], [], (fl_u M 28 l.toNatClampNeg ((M 28 l.toNatClampNeg) - 1)), J)) (fl_n 7 rfl) <|
  (q2 h1))
def fB81 : sm_P := (fun pc => sm_ch sm_t81 pc, sm_Kn 2 4 none, fun x => sm_lk sm_ca2 x, some .int)
set_option maxRecDepth 30000 in
theorem ts_81_0 {r : fl_Q} (a b n : Int32) (M : fl_M) (J : fl_J) (q1 : ((a < 0) ∨ (¬ (a < (M 15 0)))) → (some (.int (-1)), M, J) = r) (q2 : (¬ ((a < 0) ∨ (¬ (a < (M 15 0))))) → ((b < 0) ∨ (¬ (b < (M 15 0)))) → (some (.int (-1)), M, J) = r) (q3 : (¬ ((a < 0) ∨ (¬ (a < (M 15 0))))) → (¬ ((b < 0) ∨ (¬ (b < (M 15 0))))) → (a = b) → (some (.int (-1)), M, J) = r) (q4 : (¬ ((a < 0) ∨ (¬ (a < (M 15 0))))) → (¬ ((b < 0) ∨ (¬ (b < (M 15 0))))) → (¬ (a = b)) → (n < 0) → (some (.int (-1)), M, J) = r) (q5 : (¬ ((a < 0) ∨ (¬ (a < (M 15 0))))) → (¬ ((b < 0) ∨ (¬ (b < (M 15 0))))) → (¬ (a = b)) → (¬ (n < 0)) → (2 < n) → (some (.int (-1)), M, J) = r) (q6 : (¬ ((a < 0) ∨ (¬ (a < (M 15 0))))) → (¬ ((b < 0) ∨ (¬ (b < (M 15 0))))) → (¬ (a = b)) → (¬ (n < 0)) → (¬ (2 < n)) → fl_dn fB81 (61, [.ref 0, .int a, .int b, .int n], [.int 40, .int (-40), .int b, .int a, .int (2 * n), .ref 33, .ref 24, .ref 0], (m_23 24 15 M), J) r) : fl_dn fB81 (0, [.ref 0, .int a, .int b, .int n], [], M, J) r :=
 fl_td (s' := (2, [.ref 0, .int a, .int b, .int n], [.int a, .ref 0], M, J)) (fl_n 2 rfl) <|
 fl_td (s' := (5, [.ref 0, .int a, .int b, .int n], [.int (if (a < 0) ∨ (¬ (a < (M 15 0))) then 1 else 0)], M, J)) (fl_cv (o := some (.int (if (a < 0) ∨ (¬ (a < (M 15 0))) then 1 else 0))) rfl rfl rfl rfl (cc_25 M J a) rfl) <|
 fl_dtwo (fl_if (t := 30) rfl rfl) fl_b1 (fun h1 =>
  fl_td (s' := (31, [.ref 0, .int a, .int b, .int n], [.int (-1)], M, J)) (fl_n 1 rfl) <|
  fl_rt rfl (fun _ => rfl) (q1 h1)) (fun h1 =>
  fl_td (s' := (10, [.ref 0, .int a, .int b, .int n], [.int b, .ref 0], M, J)) (fl_n 2 rfl) <|
  fl_td (s' := (13, [.ref 0, .int a, .int b, .int n], [.int (if (b < 0) ∨ (¬ (b < (M 15 0))) then 1 else 0)], M, J)) (fl_cv (o := some (.int (if (b < 0) ∨ (¬ (b < (M 15 0))) then 1 else 0))) rfl rfl rfl rfl (cc_25 M J b) rfl) <|
  fl_dtwo (fl_if (t := 30) rfl rfl) fl_b1 (fun h2 =>
   fl_td (s' := (31, [.ref 0, .int a, .int b, .int n], [.int (-1)], M, J)) (fl_n 1 rfl) <|
   fl_rt rfl (fun _ => rfl) (q2 h1 h2)) (fun h2 =>
   fl_td (s' := (18, [.ref 0, .int a, .int b, .int n], [.int b, .int a], M, J)) (fl_n 2 rfl) <|
   fl_dtwo (fl_ic (t := 30) rfl rfl) fl_qeq (fun h3 =>
    fl_td (s' := (31, [.ref 0, .int a, .int b, .int n], [.int (-1)], M, J)) (fl_n 1 rfl) <|
    fl_rt rfl (fun _ => rfl) (q3 h1 h2 h3)) (fun h3 =>
    fl_td (s' := (22, [.ref 0, .int a, .int b, .int n], [.int n], M, J)) (fl_n 1 rfl) <|
    fl_dtwo (fl_if (t := 30) rfl rfl) fl_qlt (fun h4 =>
     fl_td (s' := (31, [.ref 0, .int a, .int b, .int n], [.int (-1)], M, J)) (fl_n 1 rfl) <|
     fl_rt rfl (fun _ => rfl) (q4 h1 h2 h3 h4)) (fun h4 =>
     fl_td (s' := (27, [.ref 0, .int a, .int b, .int n], [.int 2, .int n], M, J)) (fl_n 2 rfl) <|
     fl_dnot (fl_ic (t := 32) rfl rfl) fl_qle (fun h5 =>
      fl_td (s' := (31, [.ref 0, .int a, .int b, .int n], [.int (-1)], M, J)) (fl_n 1 rfl) <|
      fl_rt rfl (fun _ => rfl) (q5 h1 h2 h3 h4 h5)) (fun h5 =>
      fl_td (s' := (40, [.ref 0, .int a, .int b, .int n], [.ref 15, .ref 24], M, J)) (fl_n 4 rfl) <|
      fl_td (s' := (43, [.ref 0, .int a, .int b, .int n], [], (m_23 24 15 M), J)) (fl_cv (o := none) rfl rfl rfl rfl (cc_23 M J 24 15) rfl) <|
      fx_gen (p := fun (MM281 : fl_M) => fl_dn fB81 (43, [.ref 0, .int a, .int b, .int n], [], MM281, J) r) (m_23 24 15 M) (fun MM281 eMM281 =>
       fl_td (s' := (61, [.ref 0, .int a, .int b, .int n], [.int 40, .int (-40), .int b, .int a, .int (2 * n), .ref 33, .ref 24, .ref 0], MM281, J)) (fl_n 12 rfl) <|
       (by subst eMM281; exact (q6 h1 h2 h3 h4 h5))))))))
/-! By turns: the class' search comes to what is best. -/
def aF (M M' : fl_M) : Prop := ∀ c, (c < 33 ∨ 42 ≤ c) → M' c = M c
theorem aF_t {M M1 M2 : fl_M} (h : aF M M1) (h2 : aF M1 M2) : aF M M2 := fun c hc => (h2 c hc).trans (h c hc)
theorem aF_r {M M' X : fl_M} (h : aF M M') (t : tr 24 3776 M X) : tr 24 3776 M' X := tr_cc t (fun k hk => h (24 + k) (Or.inl (by omega)))
def aS (a b : Int32) (n k : Nat) : Prop := ∀ (M : fl_M) (J : fl_J) (X : fl_M) (lo hi : Int32), tr 24 3776 M X → (M 24 0).toNatClampNeg = n → lo < hi → ∃ (r : Int32) (M' : fl_M), fl_C 82 [.ref 24, .ref 33, .int (Int32.ofNat k), .int a, .int b, .int lo, .int hi] M J (some (.int r), M', J) ∧ aF M M' ∧ gs (gr a.toNatClampNeg b.toNatClampNeg n k X) r.toInt lo.toInt hi.toInt
theorem aW : ∀ k, k < 4 → 0 < Int32.ofNat (k + 1) ∧ Int32.ofNat (k + 1) - 1 = Int32.ofNat k ∧ (Int32.ofNat (k + 1) - Int32.ofNat (k + 1) / 2 * 2 = 0 ↔ ((k + 1) % 2 == 0) = true) := by decide +kernel
theorem aW1 (x : Int32) : x + 1 - 1 = x := by
  first
    | exact Int32.add_sub_cancel x 1
    | exact Int32.toBitVec_inj.mp (by rw [Int32.toBitVec_sub, Int32.toBitVec_add]; exact BitVec.add_sub_cancel _ _)
section AS2
variable {a b : Int32} {n k : Nat}
theorem aS_0 (ha : a.toNatClampNeg < n) (hb : b.toNatClampNeg < n) : aS a b n 0 := by
  intro M J X lo hi t hn hlt
  have t1 : tr 33 3776 (m_23 33 24 M) X := tk_rg (T := 33) (O := 24) (Or.inr (by decide)) t
  have e0 : m_23 33 24 M 33 0 = M 24 0 := by rw [t1.1.1, t.1.1]
  have g1 : m_150 3776 0 X 82 (3780 + a.toNatClampNeg) = m_46 0 33 (m_23 33 24 M) 36 a.toNatClampNeg ∧ 0 ≤ (m_46 0 33 (m_23 33 24 M) 36 a.toNatClampNeg).toInt ∧ (m_46 0 33 (m_23 33 24 M) 36 a.toNatClampNeg).toInt ≤ 40 := gl_y t1 (by rw [e0]; omega)
  have g2 : m_150 3776 0 X 82 (3780 + b.toNatClampNeg) = m_46 0 33 (m_23 33 24 M) 36 b.toNatClampNeg ∧ 0 ≤ (m_46 0 33 (m_23 33 24 M) 36 b.toNatClampNeg).toInt ∧ (m_46 0 33 (m_23 33 24 M) 36 b.toNatClampNeg).toInt ≤ 40 := gl_y t1 (by rw [e0]; omega)
  refine ⟨_, _, fl_Co (B := fB82) rfl rfl (ts_82_0 (Int32.ofNat 0) a b lo hi M J (fun z => absurd z (by decide)) (fun z => absurd z (by decide)) (fun _ => rfl)), fun c hc => by funext j; rw [fr_46 (T := 33) (by omega), fr_23 (T := 33) (by omega)], ?_⟩
  show gs (gl _ _ X) _ _ _
  unfold gl
  rw [g1.1, g2.1, fi_sub (by omega) (by omega)]
  exact gs_r
theorem aL (hk : k < 4) (ih : aS a b n k) (p : Bool) (lo hi w : Int32) (hw1 : p = true → ¬ w = 0) (hw2 : p = false → w = 0) (hlt : lo < hi) : ∀ (m : Nat) (best l : Int32) (u10 u11 u12 : Value) (M : fl_M) (J : fl_J) (X : fl_M), 0 ≤ l.toInt → m + l.toNatClampNeg = n → tr 24 3776 M X → (M 24 0).toNatClampNeg = n → gs (gf p (fun x => gr a.toNatClampNeg b.toNatClampNeg n k (gu X x)) (gr a.toNatClampNeg b.toNatClampNeg n k X) l.toNatClampNeg) best.toInt lo.toInt hi.toInt → ∃ (r : Int32) (M' : fl_M), fl_dn fB82 (63, [.ref 24, .ref 33, .int (Int32.ofNat (k + 1)), .int a, .int b, .int lo, .int hi, .int w, .int best, .int l, u10, u11, u12], [], M, J) (some (.int r), M', J) ∧ aF M M' ∧ gs (gf p (fun x => gr a.toNatClampNeg b.toNatClampNeg n k (gu X x)) (gr a.toNatClampNeg b.toNatClampNeg n k X) n) r.toInt lo.toInt hi.toInt := by
  have hlt' := fi_l.mp hlt
  intro m
  induction m with
  | zero =>
    intro best l u10 u11 u12 M J X l0 hl t hn hg
    have e : l.toNatClampNeg = n := by omega
    have b8 := t.1.2.2.1
    have c1 := fi_cl l
    have c2 := fi_cl (M 24 0)
    have c : ¬ l < M 24 0 := by rw [fi_l]; omega
    rw [e] at hg
    exact ⟨best, M, ts_82_63 _ a b lo hi w best l u10 u11 u12 M J (fun z => absurd z c) (fun z => absurd z c) (fun z => absurd z c) (fun z => absurd z c) (fun z => absurd z c) (fun z => absurd z c) (fun _ => rfl), fun _ _ => rfl, hg⟩
  | succ m ihm =>
    intro best l u10 u11 u12 M J X l0 hl t hn hg
    have b8 := t.1.2.2.1
    have c1 := fi_cl l
    have c2 := fi_cl (M 24 0)
    have c : l < M 24 0 := by rw [fi_l]; omega
    have lx : l.toNatClampNeg < (M 24 0).toNatClampNeg := by omega
    have e1 : (l + 1).toInt = l.toInt + 1 := fi_p1 (by omega)
    have c3 := fi_cl (l + 1)
    have eN : (l + 1).toNatClampNeg = l.toNatClampNeg + 1 := by omega
    have lS : 0 ≤ (l + 1).toInt := by omega
    have mS : m + (l + 1).toNatClampNeg = n := by omega
    have w2 := (aW k hk).2.1
    obtain ⟨G, hG⟩ : ∃ G, (fun x => gr a.toNatClampNeg b.toNatClampNeg n k (gu X x)) = G := ⟨_, rfl⟩
    obtain ⟨E, hE⟩ : ∃ E, gr a.toNatClampNeg b.toNatClampNeg n k X = E := ⟨_, rfl⟩
    rw [hG, hE] at hg ⊢
    -- laid and taken off again
    have back : ∀ M2, aF (fl_u M 28 l.toNatClampNeg (M 28 l.toNatClampNeg + 1)) M2 → aF M (fl_u M2 28 l.toNatClampNeg (M2 28 l.toNatClampNeg - 1)) := by
      intro M2 hf q hq
      by_cases h28 : q = 28
      · subst h28
        funext j
        have e28 := hf 28 (by decide)
        by_cases hj : j = l.toNatClampNeg
        · subst hj
          rw [fl_us, e28, fl_us, aW1]
        · rw [fl_uo (Or.inr hj), e28, fl_uo (Or.inr hj)]
      · rw [fl_un h28, hf q hq, fl_un h28]
    have full : ¬ M 28 l.toNatClampNeg < 20 → G l.toNatClampNeg = E := by
      intro h5
      subst hG
      subst hE
      show gr _ _ n k (gu X l.toNatClampNeg) = _
      rw [gt_n t lx h5]
    cases p with
    | false =>
      have w0 := hw2 rfl
      have hn1 : best.toInt < hi.toInt → (if best < hi then best else hi).toInt = best.toInt := fun z => by rw [if_pos (fi_l.mpr z)]
      have hn2 : ¬ best.toInt < hi.toInt → (if best < hi then best else hi).toInt = hi.toInt := fun z => by rw [if_neg (fun y => z (fi_l.mp y))]
      by_cases h4 : lo < (if best < hi then best else hi)
      · have h4' := fi_l.mp h4
        by_cases h5 : M 28 l.toNatClampNeg < 20
        · obtain ⟨got, M2, hC, hf, hg2⟩ := ih (fl_u M 28 l.toNatClampNeg (M 28 l.toNatClampNeg + 1)) J (gu X l.toNatClampNeg) lo (if best < hi then best else hi) (gt_u t lx h5) (by rw [fl_un (by decide)]; exact hn) h4
          rw [← w2] at hC
          have hM := back M2 hf
          have hg2 : gs (G l.toNatClampNeg) got.toInt lo.toInt (if best < hi then best else hi).toInt := by rw [← hG]; exact hg2
          obtain ⟨r, M', x1, x2, x3⟩ := ihm (if got < best then got else best) (l + 1) (.int lo) (.int (if best < hi then best else hi)) (.int got) _ J X lS mS (aF_r hM t) (by rw [hM 24 (by decide)]; exact hn) (by
            rw [hG, hE, eN]
            exact gs_f hg hg2 h4' hn1 hn2 (fun z => by rw [if_pos (fi_l.mpr z)]) (fun z => by rw [if_neg (fun y => z (fi_l.mp y))]) (fun z => gb_f.1 z) (fun z => gb_f.2 z))
          rw [hG, hE] at x3
          refine ⟨r, M', ts_82_63 _ a b lo hi w best l u10 u11 u12 M J (fun _ _ _ _ _ => ?_) (fun _ _ _ _ z => absurd h5 z) (fun _ _ _ z => absurd h4 z) (fun _ z => absurd w0 z) (fun _ z => absurd w0 z) (fun _ z => absurd w0 z) (fun z => absurd c z), aF_t hM x2, x3⟩
          exact fl_td (s' := (158, [.ref 24, .ref 33, .int (Int32.ofNat (k + 1)), .int a, .int b, .int lo, .int hi, .int w, .int best, .int l, .int lo, .int (if best < hi then best else hi), u12], [.int got], M2, J)) (fl_cs (o := some (.int got)) rfl rfl rfl hC rfl) (ts_82_158 _ a b lo hi w best l lo (if best < hi then best else hi) got u12 M2 J (fun _ => x1) (fun z => absurd w0 z))
        · obtain ⟨r, M', x1, x2, x3⟩ := ihm best (l + 1) (.int lo) (.int (if best < hi then best else hi)) u12 M J X lS mS t hn (by
            rw [hG, hE, eN]
            have : gf false G E (l.toNatClampNeg + 1) = gf false G E l.toNatClampNeg := gb_f.2 (by rw [full h5]; exact Int.not_lt.mpr (gf_fm (n := 0) (Nat.zero_le _)))
            rw [this]
            exact hg)
          rw [hG, hE] at x3
          exact ⟨r, M', ts_82_63 _ a b lo hi w best l u10 u11 u12 M J (fun _ _ _ _ z => absurd z h5) (fun _ _ _ _ _ => x1) (fun _ _ _ z => absurd h4 z) (fun _ z => absurd w0 z) (fun _ z => absurd w0 z) (fun _ z => absurd w0 z) (fun z => absurd c z), x2, x3⟩
      · have h4' : ¬ lo.toInt < best.toInt := by
          intro z
          apply h4
          rw [fi_l]
          by_cases y : best.toInt < hi.toInt
          · rw [hn1 y]; exact z
          · rw [hn2 y]; exact hlt'
        exact ⟨best, M, ts_82_63 _ a b lo hi w best l u10 u11 u12 M J (fun _ _ _ z => absurd z h4) (fun _ _ _ z => absurd z h4) (fun _ _ _ _ => rfl) (fun _ z => absurd w0 z) (fun _ z => absurd w0 z) (fun _ z => absurd w0 z) (fun z => absurd c z), fun _ _ => rfl, gs_fb hg hlt' h4' (gf_fm (by omega))⟩
    | true =>
      have w0 := hw1 rfl
      have hn1 : lo.toInt < best.toInt → (if lo < best then best else lo).toInt = best.toInt := fun z => by rw [if_pos (fi_l.mpr z)]
      have hn2 : ¬ lo.toInt < best.toInt → (if lo < best then best else lo).toInt = lo.toInt := fun z => by rw [if_neg (fun y => z (fi_l.mp y))]
      by_cases h4 : (if lo < best then best else lo) < hi
      · have h4' := fi_l.mp h4
        by_cases h5 : M 28 l.toNatClampNeg < 20
        · obtain ⟨got, M2, hC, hf, hg2⟩ := ih (fl_u M 28 l.toNatClampNeg (M 28 l.toNatClampNeg + 1)) J (gu X l.toNatClampNeg) (if lo < best then best else lo) hi (gt_u t lx h5) (by rw [fl_un (by decide)]; exact hn) h4
          rw [← w2] at hC
          have hM := back M2 hf
          have hg2 : gs (G l.toNatClampNeg) got.toInt (if lo < best then best else lo).toInt hi.toInt := by rw [← hG]; exact hg2
          obtain ⟨r, M', x1, x2, x3⟩ := ihm (if best < got then got else best) (l + 1) (.int (if lo < best then best else lo)) (.int hi) (.int got) _ J X lS mS (aF_r hM t) (by rw [hM 24 (by decide)]; exact hn) (by
            rw [hG, hE, eN]
            exact gs_t hg hg2 h4' hn1 hn2 (fun z => by rw [if_pos (fi_l.mpr z)]) (fun z => by rw [if_neg (fun y => z (fi_l.mp y))]) (fun z => gb_t.1 z) (fun z => gb_t.2 z))
          rw [hG, hE] at x3
          refine ⟨r, M', ts_82_63 _ a b lo hi w best l u10 u11 u12 M J (fun _ z => absurd z w0) (fun _ z => absurd z w0) (fun _ z => absurd z w0) (fun _ _ _ _ _ => ?_) (fun _ _ _ _ z => absurd h5 z) (fun _ _ _ z => absurd h4 z) (fun z => absurd c z), aF_t hM x2, x3⟩
          exact fl_td (s' := (158, [.ref 24, .ref 33, .int (Int32.ofNat (k + 1)), .int a, .int b, .int lo, .int hi, .int w, .int best, .int l, .int (if lo < best then best else lo), .int hi, u12], [.int got], M2, J)) (fl_cs (o := some (.int got)) rfl rfl rfl hC rfl) (ts_82_158 _ a b lo hi w best l (if lo < best then best else lo) hi got u12 M2 J (fun z => absurd z w0) (fun _ => x1))
        · obtain ⟨r, M', x1, x2, x3⟩ := ihm best (l + 1) (.int (if lo < best then best else lo)) (.int hi) u12 M J X lS mS t hn (by
            rw [hG, hE, eN]
            have : gf true G E (l.toNatClampNeg + 1) = gf true G E l.toNatClampNeg := gb_t.2 (by rw [full h5]; exact Int.not_lt.mpr (gf_tm (n := 0) (Nat.zero_le _)))
            rw [this]
            exact hg)
          rw [hG, hE] at x3
          exact ⟨r, M', ts_82_63 _ a b lo hi w best l u10 u11 u12 M J (fun _ z => absurd z w0) (fun _ z => absurd z w0) (fun _ z => absurd z w0) (fun _ _ _ _ z => absurd z h5) (fun _ _ _ _ _ => x1) (fun _ _ _ z => absurd h4 z) (fun z => absurd c z), x2, x3⟩
      · have h4' : ¬ best.toInt < hi.toInt := by
          intro z
          apply h4
          rw [fi_l]
          by_cases y : lo.toInt < best.toInt
          · rw [hn1 y]; exact z
          · rw [hn2 y]; exact hlt'
        exact ⟨best, M, ts_82_63 _ a b lo hi w best l u10 u11 u12 M J (fun _ z => absurd z w0) (fun _ z => absurd z w0) (fun _ z => absurd z w0) (fun _ _ _ z => absurd z h4) (fun _ _ _ z => absurd z h4) (fun _ _ _ _ => rfl) (fun z => absurd c z), fun _ _ => rfl, gs_tb hg hlt' h4' (gf_tm (by omega))⟩
theorem aS_s (hk : k < 4) (ih : aS a b n k) : aS a b n (k + 1) := by
  intro M J X lo hi t hn hlt
  obtain ⟨w1, w2, w3⟩ := aW k hk
  obtain ⟨r0, M0, hC, hf, hg⟩ := ih M J X lo hi t hn hlt
  rw [← w2] at hC
  have go : ∀ (p : Bool) (w : Int32), ((k + 1) % 2 == 0) = p → (p = true → ¬ w = 0) → (p = false → w = 0) → ∃ (r : Int32) (M' : fl_M), fl_dn fB82 (55, [.ref 24, .ref 33, .int (Int32.ofNat (k + 1)), .int a, .int b, .int lo, .int hi, .int w, .null, .null, .null, .null, .null], [.int hi, .int lo, .int b, .int a, .int (Int32.ofNat (k + 1) - 1), .ref 33, .ref 24], M, J) (some (.int r), M', J) ∧ aF M M' ∧ gs (gr a.toNatClampNeg b.toNatClampNeg n (k + 1) X) r.toInt lo.toInt hi.toInt := by
    intro p w hp hw1 hw2
    obtain ⟨r, M', x1, x2, x3⟩ := aL hk ih p lo hi w hw1 hw2 hlt n r0 0 .null .null .null M0 J X (by decide) (by rw [show (0 : Int32).toNatClampNeg = 0 from rfl]; rfl) (aF_r hf t) (by rw [hf 24 (by decide)]; exact hn) (by rw [show (0 : Int32).toNatClampNeg = 0 from rfl]; exact hg)
    refine ⟨r, M', fl_td (s' := (58, [.ref 24, .ref 33, .int (Int32.ofNat (k + 1)), .int a, .int b, .int lo, .int hi, .int w, .null, .null, .null, .null, .null], [.int r0], M0, J)) (fl_cs (o := some (.int r0)) rfl rfl rfl hC rfl) (fl_td (s' := (63, [.ref 24, .ref 33, .int (Int32.ofNat (k + 1)), .int a, .int b, .int lo, .int hi, .int w, .int r0, .int 0, .null, .null, .null], [], M0, J)) (fl_n 3 rfl) x1), aF_t hf x2, ?_⟩
    subst hp
    exact x3
  by_cases hz : Int32.ofNat (k + 1) - Int32.ofNat (k + 1) / 2 * 2 = 0
  · obtain ⟨r, M', x1, x2, x3⟩ := go true 1 (w3.mp hz) (fun _ => by decide) (fun z => by cases z)
    exact ⟨r, M', fl_Co (B := fB82) rfl rfl (ts_82_0 _ a b lo hi M J (fun _ _ => x1) (fun _ z => absurd hz z) (fun z => absurd w1 z)), x2, x3⟩
  · obtain ⟨r, M', x1, x2, x3⟩ := go false 0 (by cases e : ((k + 1) % 2 == 0) with
      | false => rfl
      | true => exact absurd (w3.mpr e) hz) (fun z => by cases z) (fun _ => rfl)
    exact ⟨r, M', fl_Co (B := fB82) rfl rfl (ts_82_0 _ a b lo hi M J (fun _ z => absurd z hz) (fun _ _ => x1) (fun z => absurd w1 z)), x2, x3⟩
theorem aS_k (ha : a.toNatClampNeg < n) (hb : b.toNatClampNeg < n) : ∀ k, k ≤ 4 → aS a b n k := by
  intro k
  induction k with
  | zero => exact fun _ => aS_0 ha hb
  | succ k ih => exact fun h => aS_s (by omega) (ih (by omega))
end AS2
/-- which duels the class fights -/
def dv_B (M : fl_M) (a b n : Int32) : Prop := ¬ ((a < 0) ∨ (¬ (a < (M 15 0)))) ∧ ¬ ((b < 0) ∨ (¬ (b < (M 15 0)))) ∧ ¬ a = b ∧ ¬ n < 0 ∧ ¬ 2 < n
theorem dv_0 (M : fl_M) (J : fl_J) {a b n : Int32} (h : ¬ dv_B M a b n) : fl_C 81 [.ref 0, .int a, .int b, .int n] M J (some (.int (-1)), M, J) :=
  fl_Co (B := fB81) rfl rfl (ts_81_0 a b n M J (fun _ => rfl) (fun _ _ => rfl) (fun _ _ _ => rfl) (fun _ _ _ _ => rfl) (fun _ _ _ _ _ => rfl) (fun z1 z2 z3 z4 z5 => absurd ⟨z1, z2, z3, z4, z5⟩ h))
theorem dv_2 {n : Int32} (h0 : ¬ n < 0) (h2 : ¬ 2 < n) : ∃ t : Nat, t ≤ 4 ∧ 2 * n = Int32.ofNat t ∧ t = 2 * n.toNatClampNeg := by
  rw [fi_l, fi_i0] at h0
  rw [fi_l, fj_2] at h2
  have : n = 0 ∨ n = 1 ∨ n = 2 := by
    rw [fi_e, fi_e, fi_e, fi_i0, fi_i1, fj_2]
    omega
  rcases this with h | h | h <;> subst h
  · exact ⟨0, by decide, rfl, rfl⟩
  · exact ⟨2, by decide, rfl, rfl⟩
  · exact ⟨4, by decide, rfl, rfl⟩
theorem dv_1 {M X : fl_M} (J : fl_J) {a b n : Int32} (h : dv_B M a b n) (t : tr 24 3776 (m_23 24 15 M) X) (h0 : m_23 24 15 M 24 0 = M 15 0) : ∃ (r : Int32) (M' : fl_M), fl_C 81 [.ref 0, .int a, .int b, .int n] M J (some (.int 1), fl_u M' 0 12 r, J) ∧ aF (m_23 24 15 M) M' ∧ r.toInt = gr a.toNatClampNeg b.toNatClampNeg (M 15 0).toNatClampNeg (2 * n.toNatClampNeg) X := by
  obtain ⟨h1, h2, h3, h4, h5⟩ := h
  obtain ⟨k, k4, e1, e2⟩ := dv_2 h4 h5
  have b8 := t.1.2.2.1
  rw [h0] at b8
  have ca := fi_cl a
  have cb := fi_cl b
  have cn := fi_cl (M 15 0)
  have a1 : ¬ a < 0 := fun z => h1 (Or.inl z)
  have a2 : a < M 15 0 := Classical.byContradiction (fun z => h1 (Or.inr z))
  have b1 : ¬ b < 0 := fun z => h2 (Or.inl z)
  have b2 : b < M 15 0 := Classical.byContradiction (fun z => h2 (Or.inr z))
  rw [fi_l, fi_i0] at a1 b1
  rw [fi_l] at a2 b2
  have la : a.toNatClampNeg < (M 15 0).toNatClampNeg := by omega
  have lb : b.toNatClampNeg < (M 15 0).toNatClampNeg := by omega
  obtain ⟨r, M', hC, hf, hg⟩ := aS_k la lb k k4 (m_23 24 15 M) J X (-40) 40 t (by rw [h0]) (by decide)
  have bd := gr_b (a := a.toNatClampNeg) (b := b.toNatClampNeg) k _ _ t (by rw [h0]) la lb
  rw [← e1] at hC
  rw [← e2]
  refine ⟨r, M', fl_Co (B := fB81) rfl rfl (ts_81_0 a b n M J (fun z => absurd z h1) (fun _ z => absurd z h2) (fun _ _ z => absurd z h3) (fun _ _ _ z => absurd z h4) (fun _ _ _ _ z => absurd z h5) (fun _ _ _ _ _ => ?_)), hf, ?_⟩
  · exact fl_td (s' := (64, [.ref 0, .int a, .int b, .int n], [.int r, .ref 0], M', J)) (fl_cs (o := some (.int r)) rfl rfl rfl hC rfl) (fl_td (s' := (67, [.ref 0, .int a, .int b, .int n], [.int 1], fl_u M' 0 12 r, J)) (fl_cv (o := some (.int 1)) rfl rfl rfl rfl (cc_5 M' J r) rfl) (fl_rt rfl (fun _ => rfl) rfl))
  · obtain ⟨g1, g2, g3⟩ := hg
    have e40 : (40 : Int32).toInt = 40 := rfl
    have em : (-40 : Int32).toInt = -40 := rfl
    rw [e40] at g2 g3
    rw [em] at g1 g3
    generalize gr a.toNatClampNeg b.toNatClampNeg (M 15 0).toNatClampNeg k X = V at bd g1 g2 g3 ⊢
    by_cases c1 : V ≤ -40
    · have := g1 c1; omega
    · by_cases c2 : 40 ≤ V
      · have := g2 c2; omega
      · exact g3 (by omega) (by omega)
