theorem lp_199_209 {r : fl_Q} (l1 : Int64) (u4 : Value) (M : fl_M) (J : fl_J) (hx : ∀ w3 w4 : Value, fl_dn fB199 (274, [.ref 81, .long (lr_199_209 l1 M), .null, w3, w4], [], M, J) r) : fl_dn fB199 (209, [.ref 81, .long l1, .null, .int 0, u4], [], M, J) r := by
  have hb : (4 : Int32).toNatClampNeg = 4 := rfl
  have key : ∀ (n m : Nat) (w4 : Value), m + n = 4 → fl_dn fB199 (209, [.ref 81, .long (lq_199_209 l1 M m), .null, .int (Int32.ofNat m), w4], [], M, J) r := by
    intro n
    induction n with
    | zero =>
      intro m w4 hm
      have hm : m = 4 := by omega
      have hn : ¬ ((Int32.ofNat m) < 4) := fun z => by have z := (fi_lt (by omega)).mp z; omega
      exact ts_199_209 (Int32.ofNat m) (lq_199_209 l1 M m) w4 M J (fun h1 u158 => absurd h1 hn) (fun h1 => (by have e : lr_199_209 l1 M = lq_199_209 l1 M m := (by show lq_199_209 l1 M (4) = _; rw [← hm]); rw [e] at hx; exact hx _ _))
    | succ n ih =>
      intro m w4 hm
      have hp : (Int32.ofNat m) < 4 := by exact (fi_lt (by omega)).mpr (by omega)
      refine ts_199_209 (Int32.ofNat m) (lq_199_209 l1 M m) w4 M J (fun h1 u158 => ?_) (fun h1 => absurd hp h1)
      · have e : lq_199_209 l1 M (m + 1) = (lr_199_231 (Int32.ofNat m) ((31 * (lq_199_209 l1 M m)) + ((M 89 (Int32.ofNat m).toNatClampNeg).toInt64)) M) := by
          rw [lqs_199_209]
          unfold ls_199_209
          rfl
        have q := ih (m + 1) u158 (by omega)
        rw [e] at q
        first | (rw [fi_s]; exact q) | (rw [← fi_s] at q; exact q) | (simp only [fi_s] at q ⊢; exact q)
  exact key (4) 0 u4 (Nat.zero_add _)
def v_199 (M : fl_M) : Int64 := (lr_199_209 (lr_199_141 (lr_199_108 (lr_199_72 (lr_199_33 (lr_199_6 17 M) M) M) M) M) M)
set_option maxRecDepth 8000 in
theorem cc_199 (M : fl_M) (J : fl_J) : fl_C 199 [.ref 81] M J (some (.long (v_199 M)), M, J) :=
 fl_Co (B := fB199) rfl rfl <|
 fl_td (s' := (6, [.ref 81, .long 17, .null, .int 0, .null], [], M, J)) (fl_n 4 rfl) <|
 lp_199_6 17 .null M J (fun u145 =>
  fx_gen (p := fun (LL146 : Int64) => fl_dn fB199 (31, [.ref 81, .long LL146, .null, u145, .null], [], M, J) (some (.long (v_199 M)), M, J)) (lr_199_6 17 M) (fun LL146 eLL146 =>
   fl_td (s' := (33, [.ref 81, .long LL146, .null, .int 0, .null], [], M, J)) (fl_n 2 rfl) <|
   lp_199_33 LL146 .null M J (fun u147 =>
    fx_gen (p := fun (LL148 : Int64) => fl_dn fB199 (70, [.ref 81, .long LL148, .null, u147, .null], [], M, J) (some (.long (v_199 M)), M, J)) (lr_199_33 LL146 M) (fun LL148 eLL148 =>
     fl_td (s' := (72, [.ref 81, .long LL148, .null, .int 0, .null], [], M, J)) (fl_n 2 rfl) <|
     lp_199_72 LL148 .null M J (fun u149 =>
      fx_gen (p := fun (LL150 : Int64) => fl_dn fB199 (106, [.ref 81, .long LL150, .null, u149, .null], [], M, J) (some (.long (v_199 M)), M, J)) (lr_199_72 LL148 M) (fun LL150 eLL150 =>
       fl_td (s' := (108, [.ref 81, .long LL150, .null, .int 1, .null], [], M, J)) (fl_n 2 rfl) <|
       lp_199_108 LL150 .null M J (fun u151 =>
        fx_gen (p := fun (LL152 : Int64) => fl_dn fB199 (139, [.ref 81, .long LL152, .null, u151, .null], [], M, J) (some (.long (v_199 M)), M, J)) (lr_199_108 LL150 M) (fun LL152 eLL152 =>
         fl_td (s' := (141, [.ref 81, .long LL152, .null, .int 0, .null], [], M, J)) (fl_n 2 rfl) <|
         lp_199_141 LL152 .null M J (fun u155 u156 =>
          fx_gen (p := fun (LL157 : Int64) => fl_dn fB199 (207, [.ref 81, .long LL157, .null, u155, u156], [], M, J) (some (.long (v_199 M)), M, J)) (lr_199_141 LL152 M) (fun LL157 eLL157 =>
           fl_td (s' := (209, [.ref 81, .long LL157, .null, .int 0, u156], [], M, J)) (fl_n 2 rfl) <|
           lp_199_209 LL157 u156 M J (fun u160 u161 =>
            fx_gen (p := fun (LL162 : Int64) => fl_dn fB199 (274, [.ref 81, .long LL162, .null, u160, u161], [], M, J) (some (.long (v_199 M)), M, J)) (lr_199_209 LL157 M) (fun LL162 eLL162 =>
             fl_td (s' := (275, [.ref 81, .long LL162, .null, u160, u161], [.long LL162], M, J)) (fl_n 1 rfl) <|
             fl_rt rfl (fun _ => rfl) (by subst eLL146; subst eLL148; subst eLL150; subst eLL152; subst eLL157; subst eLL162; rfl)))))))))))))
def fB186 : sm_P := (fun pc => sm_ch sm_t186 pc, sm_Kn 3 11 none, fun x => sm_lk sm_ca3 x, none)
theorem ts_186_6 {r : fl_Q} (l1 l3 l5 l7 : Int64) (u9 u10 : Value) (M : fl_M) (J : fl_J) (q1 : (l7 = 0) → fl_dn fB186 (31, [.ref 81, .long l1, .null, .long l3, .null, .long l5, .null, .long l7, .null, u9, u10], [], M, J) r) (q2 : (¬ (l7 = 0)) → fl_dn fB186 (6, [.ref 81, .long l1, .null, .long l3, .null, .long l7, .null, .long (l5 - l5 / l7 * l7), .null, .long (l5 - l5 / l7 * l7), u10], [], M, J) r) : fl_dn fB186 (6, [.ref 81, .long l1, .null, .long l3, .null, .long l5, .null, .long l7, .null, u9, u10], [], M, J) r :=
 fl_td (s' := (10, [.ref 81, .long l1, .null, .long l3, .null, .long l5, .null, .long l7, .null, u9, u10], [.int (lg_cmp l7 0)], M, J)) (fl_n 3 rfl) <|
 fl_dtwo (fl_if (t := 31) rfl rfl) fl_leq (fun h1 =>
  (q1 h1)) (fun h1 =>
  fl_td (s' := (6, [.ref 81, .long l1, .null, .long l3, .null, .long l7, .null, .long (l5 - l5 / l7 * l7), .null, .long (l5 - l5 / l7 * l7), u10], [], M, J)) (fl_n 9 rfl) <|
  (q2 h1))
def eu : Nat → Int64 → Int64 → Int64
  | 0, x, _ => x
  | n + 1, x, y => if y = 0 then x else eu n y (x - x / y * y)
theorem eu_rem {x y : Int64} (hx : 0 ≤ x.toInt) (hy : 0 < y.toInt) : (x - x / y * y).toInt = x.toInt % y.toInt := by
  have b1 := x.toInt_lt
  have b2 := y.toInt_lt
  have e1 : (x / y).toInt = x.toInt / y.toInt := by
    rw [Int64.toInt_div, Int.tdiv_eq_ediv_of_nonneg hx]
    have h2 : 0 ≤ x.toInt / y.toInt := Int.ediv_nonneg hx (by omega)
    have h3 : x.toInt / y.toInt ≤ x.toInt := Int.ediv_le_self _ hx
    unfold Int.bmod
    dsimp only
    split <;> omega
  have h4 : x.toInt / y.toInt * y.toInt ≤ x.toInt := Int.ediv_mul_le _ (by omega)
  have h5 : 0 ≤ x.toInt / y.toInt * y.toInt := Int.mul_nonneg (Int.ediv_nonneg hx (by omega)) (by omega)
  have e2 : (x / y * y).toInt = x.toInt / y.toInt * y.toInt := by
    rw [Int64.toInt_mul, e1]
    unfold Int.bmod
    dsimp only
    split <;> omega
  have h6 := Int.emod_def x.toInt y.toInt
  have h7 := Int.emod_nonneg x.toInt (show y.toInt ≠ 0 by omega)
  rw [Int.mul_comm] at h6
  rw [Int64.toInt_sub, e2, ← h6]
  unfold Int.bmod
  dsimp only
  split <;> omega
theorem lp_186_6 {r : fl_Q} (l1 l3 : Int64) (M : fl_M) (J : fl_J) : ∀ (n : Nat) (x y : Int64) (u9 u10 : Value), 0 ≤ x.toInt → 0 ≤ y.toInt → y.toInt < n → (∀ (y' : Int64) (u9 u10 : Value), fl_dn fB186 (31, [.ref 81, .long l1, .null, .long l3, .null, .long (eu n x y), .null, .long y', .null, u9, u10], [], M, J) r) → fl_dn fB186 (6, [.ref 81, .long l1, .null, .long l3, .null, .long x, .null, .long y, .null, u9, u10], [], M, J) r := by
  intro n
  induction n with
  | zero => intro x y u9 u10 hx hy hn; omega
  | succ n ih =>
    intro x y u9 u10 hx hy hn hk
    refine ts_186_6 l1 l3 x y u9 u10 M J (fun h1 => ?_) (fun h1 => ?_)
    · have q := hk y u9 u10
      unfold eu at q
      rw [if_pos h1] at q
      exact q
    · have y0 : y.toInt ≠ 0 := fun z => h1 (Int64.toInt_inj.mp z)
      have e := eu_rem hx (show 0 < y.toInt by omega)
      have e1 := Int.emod_nonneg x.toInt y0
      have e2 := Int.emod_lt_of_pos x.toInt (show 0 < y.toInt by omega)
      refine ih _ _ _ _ hy (by omega) (by omega) (fun y' u9 u10 => ?_)
      have q := hk y' u9 u10
      unfold eu at q
      rw [if_neg h1] at q
      exact q
def eg (a b : Int64) : Int64 := eu (b.toInt.toNat + 1) a b
theorem cc_186 (M : fl_M) (J : fl_J) (a b : Int64) (ha : 0 ≤ a.toInt) (hb : 0 ≤ b.toInt) : fl_C 186 [.ref 81, .long a, .long b] M J (none, M, (fl_w (fl_w J 81 12 (a / (eg a b))) 81 13 (b / (eg a b)))) :=
 fl_Co (B := fB186) rfl rfl <|
 fl_td (s' := (6, [.ref 81, .long a, .null, .long b, .null, .long a, .null, .long b, .null, .null, .null], [], M, J)) (fl_n 4 rfl) <|
 lp_186_6 a b M J (b.toInt.toNat + 1) a b _ _ ha hb (by omega) (fun y' u9 u10 => fl_td (s' := (47, [.ref 81, .long a, .null, .long b, .null, .long (eg a b), .null, .long y', .null, u9, u10], [], M, (fl_w (fl_w J 81 12 (a / (eg a b))) 81 13 (b / (eg a b))))) (fl_n 10 rfl) <|
  fl_rt rfl (fun _ => rfl) rfl)
def fB184 : sm_P := (fun pc => sm_ch sm_t184 pc, sm_Kn 3 10 none, fun x => sm_lk sm_ca3 x, some .int)
-- MiceRegistersModel.odds 30
def ls_184_30 (i1 i2 : Int32) (m : Nat) (q : (Int64 × Int64 × fl_M)) : (Int64 × Int64 × fl_M) := (if ((m_150 3776 (Int32.ofNat m) (lr_160_2 q.2.2)) 82 ((3780 + i1).toNatClampNeg)) = ((m_150 3776 (Int32.ofNat m) (lr_160_2 q.2.2)) 82 ((4 + i1).toNatClampNeg)) then ((q.1 + (lr_185_5 (Int32.ofNat m) i2 1 q.2.2)), (q.2.1 + (lr_185_5 (Int32.ofNat m) i2 1 q.2.2)), (m_150 3776 (Int32.ofNat m) (lr_160_2 q.2.2))) else ((q.1 + 0), (q.2.1 + (lr_185_5 (Int32.ofNat m) i2 1 q.2.2)), (m_150 3776 (Int32.ofNat m) (lr_160_2 q.2.2))))
def lq_184_30 (i1 i2 : Int32) (l3 l5 : Int64) (M : fl_M) (m : Nat) : (Int64 × Int64 × fl_M) := fx_it (ls_184_30 i1 i2) m (l3, l5, M)
theorem lqs_184_30 (i1 i2 : Int32) (l3 l5 : Int64) (M : fl_M) (m : Nat) : lq_184_30 i1 i2 l3 l5 M (m + 1) = (ls_184_30 i1 i2) m (lq_184_30 i1 i2 l3 l5 M m) := by
  unfold lq_184_30
  exact fx_it_s _ _ _
def lr_184_30 (i1 i2 : Int32) (l3 l5 : Int64) (M : fl_M) : (Int64 × Int64 × fl_M) := (lq_184_30 i1 i2 l3 l5 M ((((1 : Int32) <<< ((M 81 4) &&& 31))).toNatClampNeg))
set_option maxRecDepth 8000 in
theorem ts_184_30 {r : fl_Q} (i1 i2 i7 : Int32) (l3 l5 : Int64) (u8 u9 : Value) (M : fl_M) (J : fl_J) (q1 : (i7 < ((1 : Int32) <<< ((M 81 4) &&& 31))) → (((m_150 3776 i7 (lr_160_2 M)) 82 ((3780 + i1).toNatClampNeg)) = ((m_150 3776 i7 (lr_160_2 M)) 82 ((4 + i1).toNatClampNeg))) → fl_dn fB184 (30, [.ref 81, .int i1, .int i2, .long (l3 + (lr_185_5 i7 i2 1 M)), .null, .long (l5 + (lr_185_5 i7 i2 1 M)), .null, .int (i7 + 1), .long (lr_185_5 i7 i2 1 M), u9], [], (m_150 3776 i7 (lr_160_2 M)), J) r) (q2 : (i7 < ((1 : Int32) <<< ((M 81 4) &&& 31))) → (¬ (((m_150 3776 i7 (lr_160_2 M)) 82 ((3780 + i1).toNatClampNeg)) = ((m_150 3776 i7 (lr_160_2 M)) 82 ((4 + i1).toNatClampNeg)))) → fl_dn fB184 (30, [.ref 81, .int i1, .int i2, .long (l3 + 0), .null, .long (l5 + (lr_185_5 i7 i2 1 M)), .null, .int (i7 + 1), .long (lr_185_5 i7 i2 1 M), u9], [], (m_150 3776 i7 (lr_160_2 M)), J) r) (q3 : (¬ (i7 < ((1 : Int32) <<< ((M 81 4) &&& 31)))) → fl_dn fB184 (107, [.ref 81, .int i1, .int i2, .long l3, .null, .long l5, .null, .int i7, u8, u9], [], M, J) r) : fl_dn fB184 (30, [.ref 81, .int i1, .int i2, .long l3, .null, .long l5, .null, .int i7, u8, u9], [], M, J) r :=
 fl_td (s' := (38, [.ref 81, .int i1, .int i2, .long l3, .null, .long l5, .null, .int i7, u8, u9], [.int ((1 : Int32) <<< ((M 81 4) &&& 31)), .int i7], M, J)) (fl_n 5 rfl) <|
 fl_dnot (fl_ic (t := 107) rfl rfl) fl_nlt (fun h1 =>
  fl_td (s' := (45, [.ref 81, .int i1, .int i2, .long l3, .null, .long l5, .null, .int i7, u8, u9], [.int i2, .int i7, .ref 81], M, J)) (fl_n 3 rfl) <|
  fl_td (s' := (48, [.ref 81, .int i1, .int i2, .long l3, .null, .long l5, .null, .int i7, u8, u9], [.long (lr_185_5 i7 i2 1 M)], M, J)) (fl_cv (o := some (.long (lr_185_5 i7 i2 1 M))) rfl rfl rfl rfl (cc_185 M J i7 i2) rfl) <|
  fx_gen (p := fun (LL163 : Int64) => fl_dn fB184 (48, [.ref 81, .int i1, .int i2, .long l3, .null, .long l5, .null, .int i7, u8, u9], [.long LL163], M, J) r) (lr_185_5 i7 i2 1 M) (fun LL163 eLL163 =>
   fl_td (s' := (51, [.ref 81, .int i1, .int i2, .long l3, .null, .long l5, .null, .int i7, .long LL163, u9], [.ref 81], M, J)) (fl_n 2 rfl) <|
   fl_td (s' := (54, [.ref 81, .int i1, .int i2, .long l3, .null, .long l5, .null, .int i7, .long LL163, u9], [], (lr_160_2 M), J)) (fl_cv (o := none) rfl rfl rfl rfl (cc_160 M J) rfl) <|
   fx_gen (p := fun (MM164 : fl_M) => fl_dn fB184 (54, [.ref 81, .int i1, .int i2, .long l3, .null, .long l5, .null, .int i7, .long LL163, u9], [], MM164, J) r) (lr_160_2 M) (fun MM164 eMM164 =>
    fl_td (s' := (60, [.ref 81, .int i1, .int i2, .long l3, .null, .long l5, .null, .int i7, .long LL163, u9], [.int i7, .int 3776, .ref 81], MM164, J)) (fl_n 3 rfl) <|
    fl_td (s' := (63, [.ref 81, .int i1, .int i2, .long l3, .null, .long l5, .null, .int i7, .long LL163, u9], [.int ((lr_150_5 3776 i7 0 MM164).1)], (m_150 3776 i7 MM164), J)) (fl_cv (o := some (.int ((lr_150_5 3776 i7 0 MM164).1))) rfl rfl rfl rfl (cc_150 MM164 J 3776 i7) rfl) <|
    fx_gen (p := fun (MM165 : fl_M) => fl_dn fB184 (63, [.ref 81, .int i1, .int i2, .long l3, .null, .long l5, .null, .int i7, .long LL163, u9], [.int ((lr_150_5 3776 i7 0 MM164).1)], MM165, J) r) (m_150 3776 i7 MM164) (fun MM165 eMM165 =>
     fx_gen (p := fun (II166 : Int32) => fl_dn fB184 (63, [.ref 81, .int i1, .int i2, .long l3, .null, .long l5, .null, .int i7, .long LL163, u9], [.int II166], MM165, J) r) ((lr_150_5 3776 i7 0 MM164).1) (fun II166 eII166 =>
      fl_td (s' := (83, [.ref 81, .int i1, .int i2, .long l3, .null, .long l5, .null, .int i7, .long LL163, u9], [.int (MM165 82 ((4 + i1).toNatClampNeg)), .int (MM165 82 ((3780 + i1).toNatClampNeg)), .long l3], MM165, J)) (fl_n 14 rfl) <|
      fl_dnot (fl_ic (t := 91) rfl rfl) fl_cF (fun h4 =>
       fl_td (s' := (30, [.ref 81, .int i1, .int i2, .long (l3 + LL163), .null, .long (l5 + LL163), .null, .int (i7 + 1), .long LL163, u9], [], MM165, J)) (fl_n 10 rfl) <|
       (by subst eLL163; subst eMM164; subst eMM165; subst eII166; exact (q1 h1 h4))) (fun h4 =>
       fl_td (s' := (30, [.ref 81, .int i1, .int i2, .long (l3 + 0), .null, .long (l5 + LL163), .null, .int (i7 + 1), .long LL163, u9], [], MM165, J)) (fl_n 9 rfl) <|
       (by subst eLL163; subst eMM164; subst eMM165; subst eII166; exact (q2 h1 h4)))))))) (fun h1 =>
  (q3 h1))
