/-! The law over the small machine: its cases. -/
def la_B (L : Nat) (xs : Nat → Int32) : sm_P := (la_tb, sm_Kn 4 4 (some (L, xs)), fun x => sm_lk (sm_ca 4) x, some .boolean)
def la_lv (i : Int32) : sm_L := [(3, .int i), (2, .ref 81), (1, .ref 0), (0, .ref 998)]
def la_c5 (pc j : Nat) : Bool := decide (la_tb pc = some (.aload_n 0, 1)) && (decide (la_tb (pc + 1) = some (.iload_n 3, 1)) && (decide (la_tb (pc + 2) = some (.iconst (j : Int), 1)) && (decide (la_tb (pc + 3) = some (.iadd, 1)) && decide (la_tb (pc + 4) = some (.iaload, 1)))))
def la_ck : Nat → Nat → Nat → Bool
  | 0, _, _ => true
  | n + 1, j, pc => la_c5 pc j && la_ck n (j + 1) (pc + 5)
theorem la_of : ∀ j : Nat, j < 6 → (Int32.ofInt (j : Int)).toInt = (j : Int) := by decide
section LAWC
variable {L : Nat} {xs : Nat → Int32} {X : sm_X} {P : Option Value → List va_E → Prop} {i : Int32}
theorem la_at {j : Nat} (h0 : 0 ≤ i.toInt) (h6 : i.toInt + 6 ≤ (L : Int)) (hL : L ≤ 3072) (hj : j < 6) : ¬ ((i + Int32.ofInt (j : Int)) < 0 ∨ L ≤ (i + Int32.ofInt (j : Int)).toNatClampNeg) ∧ (i + Int32.ofInt (j : Int)).toNatClampNeg = i.toNatClampNeg + j := by
  have e := la_of j hj
  have a : (i + Int32.ofInt (j : Int)).toInt = i.toInt + (j : Int) := by
    rw [mr_add (by omega) (by omega), e]
  have b := aw_ix (i := i) h0
  have c := aw_ix (i := i + Int32.ofInt (j : Int)) (by omega)
  refine ⟨aw_in6 (q := ((i + Int32.ofInt (j : Int)).toInt, (i + Int32.ofInt (j : Int)).toInt)) ⟨Int.le_refl _, Int.le_refl _⟩ (by show 0 ≤ (i + Int32.ofInt (j : Int)).toInt; omega) (by show (i + Int32.ofInt (j : Int)).toInt < (L : Int); omega), by omega⟩
theorem la_ia {pc : Nat} {k : Int32} {st : List Value} {lv : sm_L} {h : List va_E} (T : la_tb pc = some (.iaload, 1)) (hin : ¬ (k < 0 ∨ L ≤ k.toNatClampNeg)) (kk : sm_Go (la_B L xs) X P (pc + 1) lv (.int (xs k.toNatClampNeg) :: st) h) : sm_Go (la_B L xs) X P pc lv (.int k :: .ref 998 :: st) h := by
  refine sm_go_st (t := (pc + 1, lv, .int (xs k.toNatClampNeg) :: st, h)) T ?_ kk
  show (if k < 0 ∨ L ≤ k.toNatClampNeg then none else some (pc + 1, lv, .int (xs k.toNatClampNeg) :: st, h)) = _
  rw [if_neg hin]
theorem la_arg {pc j : Nat} {st : List Value} {h : List va_E} (h0 : 0 ≤ i.toInt) (h6 : i.toInt + 6 ≤ (L : Int)) (hL : L ≤ 3072) (hj : j < 6) (T : la_c5 pc j = true) (kk : sm_Go (la_B L xs) X P (pc + 5) (la_lv i) (.int (xs (i.toNatClampNeg + j)) :: st) h) : sm_Go (la_B L xs) X P pc (la_lv i) st h := by
  obtain ⟨T1, T⟩ := sm_an T
  obtain ⟨T2, T⟩ := sm_an T
  obtain ⟨T3, T⟩ := sm_an T
  obtain ⟨T4, T5⟩ := sm_an T
  have T1 := of_decide_eq_true T1
  have T2 := of_decide_eq_true T2
  have T3 := of_decide_eq_true T3
  have T4 := of_decide_eq_true T4
  have T5 := of_decide_eq_true T5
  obtain ⟨a1, a2⟩ := la_at h0 h6 hL hj
  refine sm_go_st (t := (pc + 1, la_lv i, .ref 998 :: st, h)) T1 rfl ?_
  refine sm_go_st (t := (pc + 2, la_lv i, .int i :: .ref 998 :: st, h)) T2 rfl ?_
  refine sm_go_st (t := (pc + 3, la_lv i, .int (Int32.ofInt (j : Int)) :: .int i :: .ref 998 :: st, h)) T3 rfl ?_
  refine sm_go_st (t := (pc + 4, la_lv i, .int (i + Int32.ofInt (j : Int)) :: .ref 998 :: st, h)) T4 rfl ?_
  refine la_ia T5 a1 ?_
  rw [a2]
  exact kk
theorem la_args (h0 : 0 ≤ i.toInt) (h6 : i.toInt + 6 ≤ (L : Int)) (hL : L ≤ 3072) {h : List va_E} : ∀ (n j pc : Nat) (st : List Value), j + n ≤ 6 → la_ck n j pc = true → sm_Go (la_B L xs) X P (pc + 5 * n) (la_lv i) ((la_vs xs i.toNatClampNeg n j).reverse ++ st) h → sm_Go (la_B L xs) X P pc (la_lv i) st h
  | 0, _, _, _, _, _, kk => kk
  | n + 1, j, pc, st, hj, T, kk => by
    obtain ⟨T1, T2⟩ := sm_an T
    refine la_arg h0 h6 hL (by omega) T1 (la_args h0 h6 hL n (j + 1) (pc + 5) _ (by omega) T2 ?_)
    rw [la_vs, List.reverse_cons, List.append_assoc] at kk
    rw [show pc + 5 + 5 * n = pc + 5 * (n + 1) by omega]
    exact kk
theorem la_pop {b : Bool} {w : Value} {pc : Nat} {lv : sm_L} {st : List Value} {h : List va_E} (T : la_tb pc = some (if b then .pop2 else .pop, 1)) (hw : w.category = (if b then 2 else 1)) (kk : sm_Go (la_B L xs) X P (pc + 1) lv st h) : sm_Go (la_B L xs) X P pc lv (w :: st) h := by
  refine sm_go_st (t := (pc + 1, lv, st, h)) T ?_ kk
  cases b with
  | false =>
    have hw : w.category = 1 := hw
    show (if w.category = 1 then some (pc + 1, lv, st, h) else none) = _
    rw [if_pos hw]
  | true =>
    have hw : w.category = 2 := hw
    show (if w.category = 2 then some (pc + 1, lv, st, h) else none) = _
    rw [if_pos hw]
def la_T (b : Bool) (n x y : Nat) (off : Int) (pc : Nat) : Bool := decide (la_tb pc = some (.aload_n 1, 1)) && (la_ck n 1 (pc + 1) && (decide (la_tb (pc + 1 + 5 * n) = some (.invokevirtual x, 3)) && (decide (la_tb (pc + 1 + 5 * n + 3) = some (if b then .pop2 else .pop, 1)) && (decide (la_tb (pc + 1 + 5 * n + 4) = some (.aload_n 2, 1)) && (la_ck n 1 (pc + 1 + 5 * n + 5) && (decide (la_tb (pc + 1 + 5 * n + 5 + 5 * n) = some (.invokevirtual y, 3)) && (decide (la_tb (pc + 1 + 5 * n + 5 + 5 * n + 3) = some (if b then .pop2 else .pop, 1)) && (decide (la_tb (pc + 1 + 5 * n + 5 + 5 * n + 4) = some (.goto off, 3)) && decide (sm_j (pc + 1 + 5 * n + 5 + 5 * n + 4) off = some 1392)))))))))
theorem la_ob {h : List va_E} (hk : aw_h kw h) : ∃ fs, sm_obj h 0 2 = some fs := by
  obtain ⟨e, he, fs, rfl, -⟩ := hk _ List.mem_cons_self
  exact ⟨fs, by unfold sm_obj; rw [he]; exact if_pos rfl⟩
theorem la_om {li mi : ar_R} {te : List (Nat × Nat × ar_R)} {h : List va_E} (hk : aw_h (mw li mi te) h) : ∃ fs, sm_obj h 81 3 = some fs := by
  obtain ⟨e, he, fs, rfl, -⟩ := hk _ List.mem_cons_self
  exact ⟨fs, by unfold sm_obj; rw [he]; exact if_pos rfl⟩
theorem TT_ob {h : List va_E} (hs : fl_sh h) : ∃ fs, sm_obj h 0 2 = some fs := by
  obtain ⟨fs, hf, -⟩ := fw_obj hs (a := 0) (ci := 2) rfl (by decide)
  exact ⟨fs, hf⟩
theorem TT_om {h : List va_E} (hs : fl_sh h) : ∃ fs, sm_obj h 81 3 = some fs := by
  obtain ⟨fs, hf, -⟩ := fw_obj hs (a := 81) (ci := 3) rfl (by decide)
  exact ⟨fs, hf⟩
theorem la_case {b : Bool} {n x y pc kc km : Nat} {off : Int} (hL : L ≤ 3072) (h0 : 0 ≤ i.toInt) (h6 : i.toInt + 6 ≤ (L : Int)) (T : la_T b n x y off pc = true) (hn : n + 1 ≤ 6) (cx : sm_lk (sm_ca 4) x = some (0, kc, n, 2)) (cy : sm_lk (sm_ca 4) y = some (0, km, n, 3)) (hP : pt_ok (pr_c b) kc km (la_vs xs i.toNatClampNeg n 1)) (kk : ∀ h, TT h → sm_Go (la_B L xs) (sm_Ex 200 sm_ML sm_B 12) P 1392 (la_lv i) [] h) : ∀ h, TT h → sm_Go (la_B L xs) (sm_Ex 200 sm_ML sm_B 12) P pc (la_lv i) [] h := by
  intro h hT
  obtain ⟨T1, T⟩ := sm_an T
  obtain ⟨T2, T⟩ := sm_an T
  obtain ⟨T3, T⟩ := sm_an T
  obtain ⟨T4, T⟩ := sm_an T
  obtain ⟨T5, T⟩ := sm_an T
  obtain ⟨T6, T⟩ := sm_an T
  obtain ⟨T7, T⟩ := sm_an T
  obtain ⟨T8, T⟩ := sm_an T
  obtain ⟨T9, T10⟩ := sm_an T
  have T1 := of_decide_eq_true T1
  have T3 := of_decide_eq_true T3
  have T4 := of_decide_eq_true T4
  have T5 := of_decide_eq_true T5
  have T7 := of_decide_eq_true T7
  have T8 := of_decide_eq_true T8
  have T9 := of_decide_eq_true T9
  have T10 := of_decide_eq_true T10
  obtain ⟨w1, h1, w2, h2, x1, y1, ⟨c1, c2⟩, s1, hT2⟩ := hP h hT
  have hs := hT.1.2.1
  refine sm_go_st (t := (pc + 1, la_lv i, [.ref 0], h)) T1 rfl ?_
  refine la_args h0 h6 hL n 1 (pc + 1) [.ref 0] (by omega) T2 ?_
  refine sm_go_cl (k := kc) (vs := .ref 0 :: la_vs xs i.toNatClampNeg n 1) (r := []) T3 ⟨rfl, by decide, Or.inl ⟨x, 2, 0, _, rfl, ?_, rfl, rfl, TT_ob hs⟩⟩ x1 ?_
  · rw [la_len]; exact cx
  refine la_pop (b := b) T4 c1 ?_
  refine sm_go_st (t := (pc + 1 + 5 * n + 5, la_lv i, [.ref 81], h1)) T5 rfl ?_
  refine la_args h0 h6 hL n 1 (pc + 1 + 5 * n + 5) [.ref 81] (by omega) T6 ?_
  refine sm_go_cl (k := km) (vs := .ref 81 :: la_vs xs i.toNatClampNeg n 1) (r := []) T7 ⟨rfl, by decide, Or.inl ⟨y, 3, 81, _, rfl, ?_, rfl, rfl, TT_om s1⟩⟩ y1 ?_
  · rw [la_len]; exact cy
  refine la_pop (b := b) T8 c2 ?_
  refine sm_go_st (t := (1392, la_lv i, [], h2)) T9 ?_ (kk h2 hT2)
  show (sm_j (pc + 1 + 5 * n + 5 + 5 * n + 4) off).bind _ = _
  rw [T10]
  rfl
def la_TE (n x y : Nat) (off : Int) (e pc : Nat) : Bool := decide (la_tb pc = some (.aload_n 1, 1)) && (la_ck n 1 (pc + 1) && (decide (la_tb (pc + 1 + 5 * n) = some (.invokevirtual x, 3)) && (decide (la_tb (pc + 1 + 5 * n + 3) = some (.aload_n 2, 1)) && (la_ck n 1 (pc + 1 + 5 * n + 4) && (decide (la_tb (pc + 1 + 5 * n + 4 + 5 * n) = some (.invokevirtual y, 3)) && (decide (la_tb (pc + 1 + 5 * n + 4 + 5 * n + 3) = some (.if_icmp .eq off, 3)) && decide (sm_j (pc + 1 + 5 * n + 4 + 5 * n + 3) off = some e)))))))
/-- the compared call: both answer the same int -/
theorem la_cmp {n x y pc kc km e : Nat} {off : Int} (hL : L ≤ 3072) (h0 : 0 ≤ i.toInt) (h6 : i.toInt + 6 ≤ (L : Int)) (T : la_TE n x y off e pc = true) (hn : n + 1 ≤ 6) (cx : sm_lk (sm_ca 4) x = some (0, kc, n, 2)) (cy : sm_lk (sm_ca 4) y = some (0, km, n, 3)) (hP : pt_ok pr_e kc km (la_vs xs i.toNatClampNeg n 1)) (kk : ∀ h, TT h → sm_Go (la_B L xs) (sm_Ex 200 sm_ML sm_B 12) P e (la_lv i) [] h) : ∀ h, TT h → sm_Go (la_B L xs) (sm_Ex 200 sm_ML sm_B 12) P pc (la_lv i) [] h := by
  intro h hT
  obtain ⟨T1, T⟩ := sm_an T
  obtain ⟨T2, T⟩ := sm_an T
  obtain ⟨T3, T⟩ := sm_an T
  obtain ⟨T5, T⟩ := sm_an T
  obtain ⟨T6, T⟩ := sm_an T
  obtain ⟨T7, T⟩ := sm_an T
  obtain ⟨T8, T9⟩ := sm_an T
  have T1 := of_decide_eq_true T1
  have T3 := of_decide_eq_true T3
  have T5 := of_decide_eq_true T5
  have T7 := of_decide_eq_true T7
  have T8 := of_decide_eq_true T8
  have T9 := of_decide_eq_true T9
  obtain ⟨w1, h1, w2, h2, x1, y1, ⟨v, rfl, rfl⟩, s1, hT2⟩ := hP h hT
  have hs := hT.1.2.1
  refine sm_go_st (t := (pc + 1, la_lv i, [.ref 0], h)) T1 rfl ?_
  refine la_args h0 h6 hL n 1 (pc + 1) [.ref 0] (by omega) T2 ?_
  refine sm_go_cl (k := kc) (vs := .ref 0 :: la_vs xs i.toNatClampNeg n 1) (r := []) T3 ⟨rfl, by decide, Or.inl ⟨x, 2, 0, _, rfl, ?_, rfl, rfl, TT_ob hs⟩⟩ x1 ?_
  · rw [la_len]; exact cx
  refine sm_go_st (t := (pc + 1 + 5 * n + 4, la_lv i, [.ref 81, .int v], h1)) T5 rfl ?_
  refine la_args h0 h6 hL n 1 (pc + 1 + 5 * n + 4) [.ref 81, .int v] (by omega) T6 ?_
  refine sm_go_cl (k := km) (vs := .ref 81 :: la_vs xs i.toNatClampNeg n 1) (r := [.int v]) T7 ⟨rfl, (show (1 : Nat) ≤ 8 by decide), Or.inl ⟨y, 3, 81, _, rfl, ?_, rfl, rfl, TT_om s1⟩⟩ y1 ?_
  · rw [la_len]; exact cy
  exact sm_go_ic (r := []) (t := e) T8 T9 (fun _ => kk h2 hT2) (fun z => absurd (show v.toInt = v.toInt from rfl) z)
end LAWC
def la_pcs : List Nat := [216, 249, 292, 325, 348, 411, 434, 467, 510, 533, 556, 589, 622, 655, 668, 701, 724, 747, 770, 793, 816, 869, 902, 925, 948, 981, 1004, 1037, 1070, 1103, 1126, 1149, 1192, 1225, 1248, 1281, 1294, 1307, 1320, 1343, 1356, 1379]
theorem la_sw : ∀ j, j < 42 → ((#[183, 216, 259, 292, 315, 378, 401, 434, 477, 500, 523, 556, 589, 622, 635, 668, 691, 714, 737, 760, 783, 836, 869, 892, 915, 948, 971, 1004, 1037, 1070, 1093, 1116, 1159, 1192, 1215, 1248, 1261, 1274, 1287, 1310, 1323, 1346] : Array Int)[j]?).bind (fun off => sm_j 33 off) = some (la_pcs.getD j 0) := by decide +kernel
theorem la_0 {L : Nat} {xs : Nat → Int32} (hL : L ≤ 3072) {i : Int32} (h0 : 0 ≤ i.toInt) (h6 : i.toInt + 6 ≤ (L : Int)) {P : Option Value → List va_E → Prop} (kk : ∀ h, TT h → sm_Go (la_B L xs) (sm_Ex 200 sm_ML sm_B 12) P 1392 (la_lv i) [] h) : ∀ h, TT h → sm_Go (la_B L xs) (sm_Ex 200 sm_ML sm_B 12) P 216 (la_lv i) [] h := la_case (b := false) (n := 2) (x := 13) (y := 17) (off := 1146) (kc := 0) (km := 103) hL h0 h6 (by decide +kernel) (by decide +kernel) rfl rfl (pt_ec pt_0) kk
theorem la_1 {L : Nat} {xs : Nat → Int32} (hL : L ≤ 3072) {i : Int32} (h0 : 0 ≤ i.toInt) (h6 : i.toInt + 6 ≤ (L : Int)) {P : Option Value → List va_E → Prop} (kk : ∀ h, TT h → sm_Go (la_B L xs) (sm_Ex 200 sm_ML sm_B 12) P 1392 (la_lv i) [] h) : ∀ h, TT h → sm_Go (la_B L xs) (sm_Ex 200 sm_ML sm_B 12) P 249 (la_lv i) [] h := la_case (b := false) (n := 3) (x := 18) (y := 22) (off := 1103) (kc := 3) (km := 108) hL h0 h6 (by decide +kernel) (by decide +kernel) rfl rfl (pt_ec pt_1) kk
theorem la_2 {L : Nat} {xs : Nat → Int32} (hL : L ≤ 3072) {i : Int32} (h0 : 0 ≤ i.toInt) (h6 : i.toInt + 6 ≤ (L : Int)) {P : Option Value → List va_E → Prop} (kk : ∀ h, TT h → sm_Go (la_B L xs) (sm_Ex 200 sm_ML sm_B 12) P 1392 (la_lv i) [] h) : ∀ h, TT h → sm_Go (la_B L xs) (sm_Ex 200 sm_ML sm_B 12) P 292 (la_lv i) [] h := la_case (b := false) (n := 2) (x := 23) (y := 26) (off := 1070) (kc := 6) (km := 111) hL h0 h6 (by decide +kernel) (by decide +kernel) rfl rfl (pt_ec pt_2) kk
theorem la_3 {L : Nat} {xs : Nat → Int32} (hL : L ≤ 3072) {i : Int32} (h0 : 0 ≤ i.toInt) (h6 : i.toInt + 6 ≤ (L : Int)) {P : Option Value → List va_E → Prop} (kk : ∀ h, TT h → sm_Go (la_B L xs) (sm_Ex 200 sm_ML sm_B 12) P 1392 (la_lv i) [] h) : ∀ h, TT h → sm_Go (la_B L xs) (sm_Ex 200 sm_ML sm_B 12) P 325 (la_lv i) [] h := la_case (b := false) (n := 1) (x := 27) (y := 31) (off := 1047) (kc := 7) (km := 112) hL h0 h6 (by decide +kernel) (by decide +kernel) rfl rfl (pt_ec pt_3) kk
theorem la_4 {L : Nat} {xs : Nat → Int32} (hL : L ≤ 3072) {i : Int32} (h0 : 0 ≤ i.toInt) (h6 : i.toInt + 6 ≤ (L : Int)) {P : Option Value → List va_E → Prop} (kk : ∀ h, TT h → sm_Go (la_B L xs) (sm_Ex 200 sm_ML sm_B 12) P 1392 (la_lv i) [] h) : ∀ h, TT h → sm_Go (la_B L xs) (sm_Ex 200 sm_ML sm_B 12) P 348 (la_lv i) [] h := la_case (b := false) (n := 5) (x := 32) (y := 36) (off := 984) (kc := 8) (km := 113) hL h0 h6 (by decide +kernel) (by decide +kernel) rfl rfl (pt_ec pt_4) kk
theorem la_5 {L : Nat} {xs : Nat → Int32} (hL : L ≤ 3072) {i : Int32} (h0 : 0 ≤ i.toInt) (h6 : i.toInt + 6 ≤ (L : Int)) {P : Option Value → List va_E → Prop} (kk : ∀ h, TT h → sm_Go (la_B L xs) (sm_Ex 200 sm_ML sm_B 12) P 1392 (la_lv i) [] h) : ∀ h, TT h → sm_Go (la_B L xs) (sm_Ex 200 sm_ML sm_B 12) P 411 (la_lv i) [] h := la_case (b := false) (n := 1) (x := 37) (y := 40) (off := 961) (kc := 10) (km := 115) hL h0 h6 (by decide +kernel) (by decide +kernel) rfl rfl (pt_ec pt_5) kk
theorem la_6 {L : Nat} {xs : Nat → Int32} (hL : L ≤ 3072) {i : Int32} (h0 : 0 ≤ i.toInt) (h6 : i.toInt + 6 ≤ (L : Int)) {P : Option Value → List va_E → Prop} (kk : ∀ h, TT h → sm_Go (la_B L xs) (sm_Ex 200 sm_ML sm_B 12) P 1392 (la_lv i) [] h) : ∀ h, TT h → sm_Go (la_B L xs) (sm_Ex 200 sm_ML sm_B 12) P 434 (la_lv i) [] h := la_case (b := false) (n := 2) (x := 41) (y := 44) (off := 928) (kc := 11) (km := 116) hL h0 h6 (by decide +kernel) (by decide +kernel) rfl rfl (pt_ec pt_6) kk
theorem la_7 {L : Nat} {xs : Nat → Int32} (hL : L ≤ 3072) {i : Int32} (h0 : 0 ≤ i.toInt) (h6 : i.toInt + 6 ≤ (L : Int)) {P : Option Value → List va_E → Prop} (kk : ∀ h, TT h → sm_Go (la_B L xs) (sm_Ex 200 sm_ML sm_B 12) P 1392 (la_lv i) [] h) : ∀ h, TT h → sm_Go (la_B L xs) (sm_Ex 200 sm_ML sm_B 12) P 467 (la_lv i) [] h := la_case (b := false) (n := 3) (x := 45) (y := 48) (off := 885) (kc := 13) (km := 118) hL h0 h6 (by decide +kernel) (by decide +kernel) rfl rfl (pt_ec pt_7) kk
theorem la_8 {L : Nat} {xs : Nat → Int32} (hL : L ≤ 3072) {i : Int32} (h0 : 0 ≤ i.toInt) (h6 : i.toInt + 6 ≤ (L : Int)) {P : Option Value → List va_E → Prop} (kk : ∀ h, TT h → sm_Go (la_B L xs) (sm_Ex 200 sm_ML sm_B 12) P 1392 (la_lv i) [] h) : ∀ h, TT h → sm_Go (la_B L xs) (sm_Ex 200 sm_ML sm_B 12) P 510 (la_lv i) [] h := la_case (b := false) (n := 1) (x := 49) (y := 52) (off := 862) (kc := 14) (km := 119) hL h0 h6 (by decide +kernel) (by decide +kernel) rfl rfl (pt_ec pt_8) kk
theorem la_9 {L : Nat} {xs : Nat → Int32} (hL : L ≤ 3072) {i : Int32} (h0 : 0 ≤ i.toInt) (h6 : i.toInt + 6 ≤ (L : Int)) {P : Option Value → List va_E → Prop} (kk : ∀ h, TT h → sm_Go (la_B L xs) (sm_Ex 200 sm_ML sm_B 12) P 1392 (la_lv i) [] h) : ∀ h, TT h → sm_Go (la_B L xs) (sm_Ex 200 sm_ML sm_B 12) P 533 (la_lv i) [] h := la_case (b := false) (n := 1) (x := 53) (y := 56) (off := 839) (kc := 21) (km := 129) hL h0 h6 (by decide +kernel) (by decide +kernel) rfl rfl (pt_ec pt_9) kk
theorem la_10 {L : Nat} {xs : Nat → Int32} (hL : L ≤ 3072) {i : Int32} (h0 : 0 ≤ i.toInt) (h6 : i.toInt + 6 ≤ (L : Int)) {P : Option Value → List va_E → Prop} (kk : ∀ h, TT h → sm_Go (la_B L xs) (sm_Ex 200 sm_ML sm_B 12) P 1392 (la_lv i) [] h) : ∀ h, TT h → sm_Go (la_B L xs) (sm_Ex 200 sm_ML sm_B 12) P 556 (la_lv i) [] h := la_case (b := false) (n := 2) (x := 57) (y := 60) (off := 806) (kc := 24) (km := 130) hL h0 h6 (by decide +kernel) (by decide +kernel) rfl rfl (pt_ec pt_10) kk
theorem la_11 {L : Nat} {xs : Nat → Int32} (hL : L ≤ 3072) {i : Int32} (h0 : 0 ≤ i.toInt) (h6 : i.toInt + 6 ≤ (L : Int)) {P : Option Value → List va_E → Prop} (kk : ∀ h, TT h → sm_Go (la_B L xs) (sm_Ex 200 sm_ML sm_B 12) P 1392 (la_lv i) [] h) : ∀ h, TT h → sm_Go (la_B L xs) (sm_Ex 200 sm_ML sm_B 12) P 589 (la_lv i) [] h := la_case (b := false) (n := 2) (x := 61) (y := 64) (off := 773) (kc := 32) (km := 139) hL h0 h6 (by decide +kernel) (by decide +kernel) rfl rfl (pt_ec pt_11) kk
theorem la_12 {L : Nat} {xs : Nat → Int32} (hL : L ≤ 3072) {i : Int32} (h0 : 0 ≤ i.toInt) (h6 : i.toInt + 6 ≤ (L : Int)) {P : Option Value → List va_E → Prop} (kk : ∀ h, TT h → sm_Go (la_B L xs) (sm_Ex 200 sm_ML sm_B 12) P 1392 (la_lv i) [] h) : ∀ h, TT h → sm_Go (la_B L xs) (sm_Ex 200 sm_ML sm_B 12) P 622 (la_lv i) [] h := la_case (b := false) (n := 2) (x := 65) (y := 68) (off := 740) (kc := 36) (km := 143) hL h0 h6 (by decide +kernel) (by decide +kernel) rfl rfl (pt_ec pt_12) kk
theorem la_13 {L : Nat} {xs : Nat → Int32} (hL : L ≤ 3072) {i : Int32} (h0 : 0 ≤ i.toInt) (h6 : i.toInt + 6 ≤ (L : Int)) {P : Option Value → List va_E → Prop} (kk : ∀ h, TT h → sm_Go (la_B L xs) (sm_Ex 200 sm_ML sm_B 12) P 1392 (la_lv i) [] h) : ∀ h, TT h → sm_Go (la_B L xs) (sm_Ex 200 sm_ML sm_B 12) P 655 (la_lv i) [] h := la_case (b := false) (n := 0) (x := 69) (y := 73) (off := 727) (kc := 42) (km := 148) hL h0 h6 (by decide +kernel) (by decide +kernel) rfl rfl (pt_ec pt_13) kk
theorem la_14 {L : Nat} {xs : Nat → Int32} (hL : L ≤ 3072) {i : Int32} (h0 : 0 ≤ i.toInt) (h6 : i.toInt + 6 ≤ (L : Int)) {P : Option Value → List va_E → Prop} (kk : ∀ h, TT h → sm_Go (la_B L xs) (sm_Ex 200 sm_ML sm_B 12) P 1392 (la_lv i) [] h) : ∀ h, TT h → sm_Go (la_B L xs) (sm_Ex 200 sm_ML sm_B 12) P 668 (la_lv i) [] h := la_case (b := false) (n := 2) (x := 74) (y := 77) (off := 694) (kc := 47) (km := 151) hL h0 h6 (by decide +kernel) (by decide +kernel) rfl rfl (pt_ec pt_14) kk
theorem la_15 {L : Nat} {xs : Nat → Int32} (hL : L ≤ 3072) {i : Int32} (h0 : 0 ≤ i.toInt) (h6 : i.toInt + 6 ≤ (L : Int)) {P : Option Value → List va_E → Prop} (kk : ∀ h, TT h → sm_Go (la_B L xs) (sm_Ex 200 sm_ML sm_B 12) P 1392 (la_lv i) [] h) : ∀ h, TT h → sm_Go (la_B L xs) (sm_Ex 200 sm_ML sm_B 12) P 701 (la_lv i) [] h := la_case (b := false) (n := 1) (x := 78) (y := 81) (off := 671) (kc := 48) (km := 152) hL h0 h6 (by decide +kernel) (by decide +kernel) rfl rfl (pt_ec pt_15) kk
theorem la_16 {L : Nat} {xs : Nat → Int32} (hL : L ≤ 3072) {i : Int32} (h0 : 0 ≤ i.toInt) (h6 : i.toInt + 6 ≤ (L : Int)) {P : Option Value → List va_E → Prop} (kk : ∀ h, TT h → sm_Go (la_B L xs) (sm_Ex 200 sm_ML sm_B 12) P 1392 (la_lv i) [] h) : ∀ h, TT h → sm_Go (la_B L xs) (sm_Ex 200 sm_ML sm_B 12) P 724 (la_lv i) [] h := la_case (b := false) (n := 1) (x := 82) (y := 85) (off := 648) (kc := 49) (km := 153) hL h0 h6 (by decide +kernel) (by decide +kernel) rfl rfl (pt_ec pt_16) kk
theorem la_17 {L : Nat} {xs : Nat → Int32} (hL : L ≤ 3072) {i : Int32} (h0 : 0 ≤ i.toInt) (h6 : i.toInt + 6 ≤ (L : Int)) {P : Option Value → List va_E → Prop} (kk : ∀ h, TT h → sm_Go (la_B L xs) (sm_Ex 200 sm_ML sm_B 12) P 1392 (la_lv i) [] h) : ∀ h, TT h → sm_Go (la_B L xs) (sm_Ex 200 sm_ML sm_B 12) P 747 (la_lv i) [] h := la_case (b := false) (n := 1) (x := 86) (y := 89) (off := 625) (kc := 50) (km := 154) hL h0 h6 (by decide +kernel) (by decide +kernel) rfl rfl pt_17 kk
theorem la_18 {L : Nat} {xs : Nat → Int32} (hL : L ≤ 3072) {i : Int32} (h0 : 0 ≤ i.toInt) (h6 : i.toInt + 6 ≤ (L : Int)) {P : Option Value → List va_E → Prop} (kk : ∀ h, TT h → sm_Go (la_B L xs) (sm_Ex 200 sm_ML sm_B 12) P 1392 (la_lv i) [] h) : ∀ h, TT h → sm_Go (la_B L xs) (sm_Ex 200 sm_ML sm_B 12) P 770 (la_lv i) [] h := la_case (b := false) (n := 1) (x := 90) (y := 93) (off := 602) (kc := 52) (km := 155) hL h0 h6 (by decide +kernel) (by decide +kernel) rfl rfl (pt_ec pt_18) kk
theorem la_19 {L : Nat} {xs : Nat → Int32} (hL : L ≤ 3072) {i : Int32} (h0 : 0 ≤ i.toInt) (h6 : i.toInt + 6 ≤ (L : Int)) {P : Option Value → List va_E → Prop} (kk : ∀ h, TT h → sm_Go (la_B L xs) (sm_Ex 200 sm_ML sm_B 12) P 1392 (la_lv i) [] h) : ∀ h, TT h → sm_Go (la_B L xs) (sm_Ex 200 sm_ML sm_B 12) P 793 (la_lv i) [] h := la_case (b := false) (n := 1) (x := 94) (y := 97) (off := 579) (kc := 55) (km := 157) hL h0 h6 (by decide +kernel) (by decide +kernel) rfl rfl (pt_ec pt_19) kk
theorem la_20 {L : Nat} {xs : Nat → Int32} (hL : L ≤ 3072) {i : Int32} (h0 : 0 ≤ i.toInt) (h6 : i.toInt + 6 ≤ (L : Int)) {P : Option Value → List va_E → Prop} (kk : ∀ h, TT h → sm_Go (la_B L xs) (sm_Ex 200 sm_ML sm_B 12) P 1392 (la_lv i) [] h) : ∀ h, TT h → sm_Go (la_B L xs) (sm_Ex 200 sm_ML sm_B 12) P 816 (la_lv i) [] h := la_case (b := false) (n := 4) (x := 98) (y := 102) (off := 526) (kc := 56) (km := 158) hL h0 h6 (by decide +kernel) (by decide +kernel) rfl rfl (pt_ec pt_20) kk
theorem la_21 {L : Nat} {xs : Nat → Int32} (hL : L ≤ 3072) {i : Int32} (h0 : 0 ≤ i.toInt) (h6 : i.toInt + 6 ≤ (L : Int)) {P : Option Value → List va_E → Prop} (kk : ∀ h, TT h → sm_Go (la_B L xs) (sm_Ex 200 sm_ML sm_B 12) P 1392 (la_lv i) [] h) : ∀ h, TT h → sm_Go (la_B L xs) (sm_Ex 200 sm_ML sm_B 12) P 869 (la_lv i) [] h := la_case (b := false) (n := 2) (x := 103) (y := 106) (off := 493) (kc := 57) (km := 159) hL h0 h6 (by decide +kernel) (by decide +kernel) rfl rfl (pt_ec pt_21) kk
theorem la_22 {L : Nat} {xs : Nat → Int32} (hL : L ≤ 3072) {i : Int32} (h0 : 0 ≤ i.toInt) (h6 : i.toInt + 6 ≤ (L : Int)) {P : Option Value → List va_E → Prop} (kk : ∀ h, TT h → sm_Go (la_B L xs) (sm_Ex 200 sm_ML sm_B 12) P 1392 (la_lv i) [] h) : ∀ h, TT h → sm_Go (la_B L xs) (sm_Ex 200 sm_ML sm_B 12) P 902 (la_lv i) [] h := la_case (b := false) (n := 1) (x := 107) (y := 110) (off := 470) (kc := 60) (km := 162) hL h0 h6 (by decide +kernel) (by decide +kernel) rfl rfl (pt_ec pt_22) kk
theorem la_23 {L : Nat} {xs : Nat → Int32} (hL : L ≤ 3072) {i : Int32} (h0 : 0 ≤ i.toInt) (h6 : i.toInt + 6 ≤ (L : Int)) {P : Option Value → List va_E → Prop} (kk : ∀ h, TT h → sm_Go (la_B L xs) (sm_Ex 200 sm_ML sm_B 12) P 1392 (la_lv i) [] h) : ∀ h, TT h → sm_Go (la_B L xs) (sm_Ex 200 sm_ML sm_B 12) P 925 (la_lv i) [] h := la_case (b := false) (n := 1) (x := 111) (y := 114) (off := 447) (kc := 62) (km := 164) hL h0 h6 (by decide +kernel) (by decide +kernel) rfl rfl (pt_ec pt_23) kk
theorem la_24 {L : Nat} {xs : Nat → Int32} (hL : L ≤ 3072) {i : Int32} (h0 : 0 ≤ i.toInt) (h6 : i.toInt + 6 ≤ (L : Int)) {P : Option Value → List va_E → Prop} (kk : ∀ h, TT h → sm_Go (la_B L xs) (sm_Ex 200 sm_ML sm_B 12) P 1392 (la_lv i) [] h) : ∀ h, TT h → sm_Go (la_B L xs) (sm_Ex 200 sm_ML sm_B 12) P 948 (la_lv i) [] h := la_case (b := false) (n := 2) (x := 115) (y := 118) (off := 414) (kc := 63) (km := 165) hL h0 h6 (by decide +kernel) (by decide +kernel) rfl rfl (pt_ec pt_24) kk
theorem la_25 {L : Nat} {xs : Nat → Int32} (hL : L ≤ 3072) {i : Int32} (h0 : 0 ≤ i.toInt) (h6 : i.toInt + 6 ≤ (L : Int)) {P : Option Value → List va_E → Prop} (kk : ∀ h, TT h → sm_Go (la_B L xs) (sm_Ex 200 sm_ML sm_B 12) P 1392 (la_lv i) [] h) : ∀ h, TT h → sm_Go (la_B L xs) (sm_Ex 200 sm_ML sm_B 12) P 981 (la_lv i) [] h := la_case (b := false) (n := 1) (x := 119) (y := 122) (off := 391) (kc := 65) (km := 167) hL h0 h6 (by decide +kernel) (by decide +kernel) rfl rfl (pt_ec pt_25) kk
theorem la_26 {L : Nat} {xs : Nat → Int32} (hL : L ≤ 3072) {i : Int32} (h0 : 0 ≤ i.toInt) (h6 : i.toInt + 6 ≤ (L : Int)) {P : Option Value → List va_E → Prop} (kk : ∀ h, TT h → sm_Go (la_B L xs) (sm_Ex 200 sm_ML sm_B 12) P 1392 (la_lv i) [] h) : ∀ h, TT h → sm_Go (la_B L xs) (sm_Ex 200 sm_ML sm_B 12) P 1004 (la_lv i) [] h := la_cmp (n := 2) (x := 123) (y := 126) (off := 360) (kc := 67) (km := 169) hL h0 h6 (by decide +kernel) (by decide +kernel) rfl rfl pt_26 kk
theorem la_27 {L : Nat} {xs : Nat → Int32} (hL : L ≤ 3072) {i : Int32} (h0 : 0 ≤ i.toInt) (h6 : i.toInt + 6 ≤ (L : Int)) {P : Option Value → List va_E → Prop} (kk : ∀ h, TT h → sm_Go (la_B L xs) (sm_Ex 200 sm_ML sm_B 12) P 1392 (la_lv i) [] h) : ∀ h, TT h → sm_Go (la_B L xs) (sm_Ex 200 sm_ML sm_B 12) P 1037 (la_lv i) [] h := la_case (b := false) (n := 2) (x := 127) (y := 130) (off := 325) (kc := 70) (km := 172) hL h0 h6 (by decide +kernel) (by decide +kernel) rfl rfl (pt_ec pt_27) kk
theorem la_28 {L : Nat} {xs : Nat → Int32} (hL : L ≤ 3072) {i : Int32} (h0 : 0 ≤ i.toInt) (h6 : i.toInt + 6 ≤ (L : Int)) {P : Option Value → List va_E → Prop} (kk : ∀ h, TT h → sm_Go (la_B L xs) (sm_Ex 200 sm_ML sm_B 12) P 1392 (la_lv i) [] h) : ∀ h, TT h → sm_Go (la_B L xs) (sm_Ex 200 sm_ML sm_B 12) P 1070 (la_lv i) [] h := la_case (b := false) (n := 2) (x := 131) (y := 134) (off := 292) (kc := 72) (km := 174) hL h0 h6 (by decide +kernel) (by decide +kernel) rfl rfl (pt_ec pt_28) kk
theorem la_29 {L : Nat} {xs : Nat → Int32} (hL : L ≤ 3072) {i : Int32} (h0 : 0 ≤ i.toInt) (h6 : i.toInt + 6 ≤ (L : Int)) {P : Option Value → List va_E → Prop} (kk : ∀ h, TT h → sm_Go (la_B L xs) (sm_Ex 200 sm_ML sm_B 12) P 1392 (la_lv i) [] h) : ∀ h, TT h → sm_Go (la_B L xs) (sm_Ex 200 sm_ML sm_B 12) P 1103 (la_lv i) [] h := la_case (b := false) (n := 1) (x := 135) (y := 138) (off := 269) (kc := 76) (km := 176) hL h0 h6 (by decide +kernel) (by decide +kernel) rfl rfl (pt_ec pt_29) kk
theorem la_30 {L : Nat} {xs : Nat → Int32} (hL : L ≤ 3072) {i : Int32} (h0 : 0 ≤ i.toInt) (h6 : i.toInt + 6 ≤ (L : Int)) {P : Option Value → List va_E → Prop} (kk : ∀ h, TT h → sm_Go (la_B L xs) (sm_Ex 200 sm_ML sm_B 12) P 1392 (la_lv i) [] h) : ∀ h, TT h → sm_Go (la_B L xs) (sm_Ex 200 sm_ML sm_B 12) P 1126 (la_lv i) [] h := la_case (b := false) (n := 1) (x := 139) (y := 142) (off := 246) (kc := 80) (km := 179) hL h0 h6 (by decide +kernel) (by decide +kernel) rfl rfl (pt_ec pt_30) kk
theorem la_31 {L : Nat} {xs : Nat → Int32} (hL : L ≤ 3072) {i : Int32} (h0 : 0 ≤ i.toInt) (h6 : i.toInt + 6 ≤ (L : Int)) {P : Option Value → List va_E → Prop} (kk : ∀ h, TT h → sm_Go (la_B L xs) (sm_Ex 200 sm_ML sm_B 12) P 1392 (la_lv i) [] h) : ∀ h, TT h → sm_Go (la_B L xs) (sm_Ex 200 sm_ML sm_B 12) P 1149 (la_lv i) [] h := la_case (b := false) (n := 3) (x := 143) (y := 146) (off := 203) (kc := 81) (km := 180) hL h0 h6 (by decide +kernel) (by decide +kernel) rfl rfl pt_31 kk
theorem la_32 {L : Nat} {xs : Nat → Int32} (hL : L ≤ 3072) {i : Int32} (h0 : 0 ≤ i.toInt) (h6 : i.toInt + 6 ≤ (L : Int)) {P : Option Value → List va_E → Prop} (kk : ∀ h, TT h → sm_Go (la_B L xs) (sm_Ex 200 sm_ML sm_B 12) P 1392 (la_lv i) [] h) : ∀ h, TT h → sm_Go (la_B L xs) (sm_Ex 200 sm_ML sm_B 12) P 1192 (la_lv i) [] h := la_case (b := false) (n := 2) (x := 147) (y := 150) (off := 170) (kc := 83) (km := 184) hL h0 h6 (by decide +kernel) (by decide +kernel) rfl rfl (pt_ec pt_32) kk
theorem la_33 {L : Nat} {xs : Nat → Int32} (hL : L ≤ 3072) {i : Int32} (h0 : 0 ≤ i.toInt) (h6 : i.toInt + 6 ≤ (L : Int)) {P : Option Value → List va_E → Prop} (kk : ∀ h, TT h → sm_Go (la_B L xs) (sm_Ex 200 sm_ML sm_B 12) P 1392 (la_lv i) [] h) : ∀ h, TT h → sm_Go (la_B L xs) (sm_Ex 200 sm_ML sm_B 12) P 1225 (la_lv i) [] h := la_case (b := false) (n := 1) (x := 151) (y := 154) (off := 147) (kc := 87) (km := 187) hL h0 h6 (by decide +kernel) (by decide +kernel) rfl rfl (pt_ec pt_33) kk
theorem la_34 {L : Nat} {xs : Nat → Int32} (hL : L ≤ 3072) {i : Int32} (h0 : 0 ≤ i.toInt) (h6 : i.toInt + 6 ≤ (L : Int)) {P : Option Value → List va_E → Prop} (kk : ∀ h, TT h → sm_Go (la_B L xs) (sm_Ex 200 sm_ML sm_B 12) P 1392 (la_lv i) [] h) : ∀ h, TT h → sm_Go (la_B L xs) (sm_Ex 200 sm_ML sm_B 12) P 1248 (la_lv i) [] h := la_case (b := false) (n := 2) (x := 155) (y := 158) (off := 114) (kc := 88) (km := 188) hL h0 h6 (by decide +kernel) (by decide +kernel) rfl rfl (pt_ec pt_34) kk
theorem la_35 {L : Nat} {xs : Nat → Int32} (hL : L ≤ 3072) {i : Int32} (h0 : 0 ≤ i.toInt) (h6 : i.toInt + 6 ≤ (L : Int)) {P : Option Value → List va_E → Prop} (kk : ∀ h, TT h → sm_Go (la_B L xs) (sm_Ex 200 sm_ML sm_B 12) P 1392 (la_lv i) [] h) : ∀ h, TT h → sm_Go (la_B L xs) (sm_Ex 200 sm_ML sm_B 12) P 1281 (la_lv i) [] h := la_case (b := false) (n := 0) (x := 159) (y := 162) (off := 101) (kc := 90) (km := 190) hL h0 h6 (by decide +kernel) (by decide +kernel) rfl rfl pt_35 kk
theorem la_36 {L : Nat} {xs : Nat → Int32} (hL : L ≤ 3072) {i : Int32} (h0 : 0 ≤ i.toInt) (h6 : i.toInt + 6 ≤ (L : Int)) {P : Option Value → List va_E → Prop} (kk : ∀ h, TT h → sm_Go (la_B L xs) (sm_Ex 200 sm_ML sm_B 12) P 1392 (la_lv i) [] h) : ∀ h, TT h → sm_Go (la_B L xs) (sm_Ex 200 sm_ML sm_B 12) P 1294 (la_lv i) [] h := la_case (b := true) (n := 0) (x := 163) (y := 167) (off := 88) (kc := 91) (km := 191) hL h0 h6 (by decide +kernel) (by decide +kernel) rfl rfl (pt_lc pt_36) kk
theorem la_37 {L : Nat} {xs : Nat → Int32} (hL : L ≤ 3072) {i : Int32} (h0 : 0 ≤ i.toInt) (h6 : i.toInt + 6 ≤ (L : Int)) {P : Option Value → List va_E → Prop} (kk : ∀ h, TT h → sm_Go (la_B L xs) (sm_Ex 200 sm_ML sm_B 12) P 1392 (la_lv i) [] h) : ∀ h, TT h → sm_Go (la_B L xs) (sm_Ex 200 sm_ML sm_B 12) P 1307 (la_lv i) [] h := la_case (b := true) (n := 0) (x := 168) (y := 171) (off := 75) (kc := 92) (km := 192) hL h0 h6 (by decide +kernel) (by decide +kernel) rfl rfl (pt_lc pt_37) kk
theorem la_38 {L : Nat} {xs : Nat → Int32} (hL : L ≤ 3072) {i : Int32} (h0 : 0 ≤ i.toInt) (h6 : i.toInt + 6 ≤ (L : Int)) {P : Option Value → List va_E → Prop} (kk : ∀ h, TT h → sm_Go (la_B L xs) (sm_Ex 200 sm_ML sm_B 12) P 1392 (la_lv i) [] h) : ∀ h, TT h → sm_Go (la_B L xs) (sm_Ex 200 sm_ML sm_B 12) P 1320 (la_lv i) [] h := la_case (b := false) (n := 1) (x := 172) (y := 175) (off := 52) (kc := 93) (km := 193) hL h0 h6 (by decide +kernel) (by decide +kernel) rfl rfl (pt_ec pt_38) kk
theorem la_39 {L : Nat} {xs : Nat → Int32} (hL : L ≤ 3072) {i : Int32} (h0 : 0 ≤ i.toInt) (h6 : i.toInt + 6 ≤ (L : Int)) {P : Option Value → List va_E → Prop} (kk : ∀ h, TT h → sm_Go (la_B L xs) (sm_Ex 200 sm_ML sm_B 12) P 1392 (la_lv i) [] h) : ∀ h, TT h → sm_Go (la_B L xs) (sm_Ex 200 sm_ML sm_B 12) P 1343 (la_lv i) [] h := la_case (b := false) (n := 0) (x := 176) (y := 179) (off := 39) (kc := 98) (km := 197) hL h0 h6 (by decide +kernel) (by decide +kernel) rfl rfl (pt_ec pt_39) kk
theorem la_40 {L : Nat} {xs : Nat → Int32} (hL : L ≤ 3072) {i : Int32} (h0 : 0 ≤ i.toInt) (h6 : i.toInt + 6 ≤ (L : Int)) {P : Option Value → List va_E → Prop} (kk : ∀ h, TT h → sm_Go (la_B L xs) (sm_Ex 200 sm_ML sm_B 12) P 1392 (la_lv i) [] h) : ∀ h, TT h → sm_Go (la_B L xs) (sm_Ex 200 sm_ML sm_B 12) P 1356 (la_lv i) [] h := la_case (b := false) (n := 1) (x := 180) (y := 183) (off := 16) (kc := 99) (km := 198) hL h0 h6 (by decide +kernel) (by decide +kernel) rfl rfl (pt_ec pt_40) kk
theorem la_41 {L : Nat} {xs : Nat → Int32} (hL : L ≤ 3072) {i : Int32} (h0 : 0 ≤ i.toInt) (h6 : i.toInt + 6 ≤ (L : Int)) {P : Option Value → List va_E → Prop} (kk : ∀ h, TT h → sm_Go (la_B L xs) (sm_Ex 200 sm_ML sm_B 12) P 1392 (la_lv i) [] h) : ∀ h, TT h → sm_Go (la_B L xs) (sm_Ex 200 sm_ML sm_B 12) P 1379 (la_lv i) [] h := la_case (b := true) (n := 0) (x := 184) (y := 187) (off := 3) (kc := 100) (km := 199) hL h0 h6 (by decide +kernel) (by decide +kernel) rfl rfl (pt_lc pt_41) kk
/-! The law's loop. -/
theorem la_63 (x : Int32) : 0 ≤ (x &&& 63).toInt ∧ (x &&& 63).toInt ≤ 63 := by
  have a := ar_and_s x 63 (p := (-2147483648, 2147483647)) (q := (63, 63)) ⟨by have := x.le_toInt; show (-2147483648 : Int) ≤ x.toInt; omega, by have := x.toInt_lt; show x.toInt ≤ 2147483647; omega⟩ ⟨by decide, by decide⟩
  exact ar_1 a
theorem la_sub {L : Nat} (hL : L ≤ 3072) : (Int32.ofNat L - 6).toInt = (L : Int) - 6 := by
  have e : (Int32.ofNat L - 6).toInt = ((Int32.ofNat L).toInt - (6 : Int32).toInt).bmod (2 ^ 32) := Int32.toInt_sub _ _
  rw [Int32.toInt_ofNat_of_lt (by omega), show (6 : Int32).toInt = 6 from rfl] at e
  unfold Int.bmod at e
  dsimp only at e
  split at e <;> omega
def la_TL : Bool := decide (la_tb 18 = some (.iload_n 3, 1)) && (decide (la_tb 19 = some (.aload_n 0, 1)) && (decide (la_tb 20 = some (.arraylength, 1)) && (decide (la_tb 21 = some (.bipush 6, 2)) && (decide (la_tb 23 = some (.isub, 1)) && (decide (la_tb 24 = some (.if_icmp .gt 1374, 3)) && (decide (la_tb 27 = some (.aload_n 0, 1)) && (decide (la_tb 28 = some (.iload_n 3, 1)) && (decide (la_tb 29 = some (.iaload, 1)) && (decide (la_tb 30 = some (.bipush 63, 2)) && (decide (la_tb 32 = some (.iand, 1)) && (decide (la_tb 33 = some (.tableswitch 1359 0 41 #[183, 216, 259, 292, 315, 378, 401, 434, 477, 500, 523, 556, 589, 622, 635, 668, 691, 714, 737, 760, 783, 836, 869, 892, 915, 948, 971, 1004, 1037, 1070, 1093, 1116, 1159, 1192, 1215, 1248, 1261, 1274, 1287, 1310, 1323, 1346], 183)) && (decide (la_tb 1392 = some (.iinc 3 6, 3)) && (decide (la_tb 1395 = some (.goto (-1377), 3)) && (decide (la_tb 1398 = some (.iconst 1, 1)) && decide (la_tb 1399 = some (.ireturn, 1))))))))))))))))
theorem la_TLk : la_TL = true := by decide +kernel
set_option maxHeartbeats 2000000 in
theorem la_loop {L : Nat} {xs : Nat → Int32} (hL : L ≤ 3072) : ∀ (k : Nat) (i : Int32) (h : List va_E), TT h → 0 ≤ i.toInt → i.toInt ≤ (L : Int) → ((L : Int) - i.toInt).toNat < k → sm_Go (la_B L xs) (sm_Ex 200 sm_ML sm_B 12) (fun o _ => o = some (.int 1)) 18 (la_lv i) [] h := by
  obtain ⟨T1, T⟩ := sm_an la_TLk
  obtain ⟨T2, T⟩ := sm_an T
  obtain ⟨T3, T⟩ := sm_an T
  obtain ⟨T4, T⟩ := sm_an T
  obtain ⟨T5, T⟩ := sm_an T
  obtain ⟨T6, T⟩ := sm_an T
  obtain ⟨T7, T⟩ := sm_an T
  obtain ⟨T8, T⟩ := sm_an T
  obtain ⟨T9, T⟩ := sm_an T
  obtain ⟨T10, T⟩ := sm_an T
  obtain ⟨T11, T⟩ := sm_an T
  obtain ⟨T12, T⟩ := sm_an T
  obtain ⟨T13, T⟩ := sm_an T
  obtain ⟨T14, T⟩ := sm_an T
  obtain ⟨T15, T16⟩ := sm_an T
  have T1 := of_decide_eq_true T1
  have T2 := of_decide_eq_true T2
  have T3 := of_decide_eq_true T3
  have T4 := of_decide_eq_true T4
  have T5 := of_decide_eq_true T5
  have T6 := of_decide_eq_true T6
  have T7 := of_decide_eq_true T7
  have T8 := of_decide_eq_true T8
  have T9 := of_decide_eq_true T9
  have T10 := of_decide_eq_true T10
  have T11 := of_decide_eq_true T11
  have T12 := of_decide_eq_true T12
  have T13 := of_decide_eq_true T13
  have T14 := of_decide_eq_true T14
  have T15 := of_decide_eq_true T15
  have T16 := of_decide_eq_true T16
  intro k
  induction k with
  | zero => intro i h _ _ _ hk; exact absurd hk (Nat.not_lt_zero _)
  | succ k ih =>
    intro i h hT h0 hl hk
    have es := la_sub hL
    refine sm_go_st (t := (19, la_lv i, [.int i], h)) T1 rfl ?_
    refine sm_go_st (t := (20, la_lv i, [.ref 998, .int i], h)) T2 rfl ?_
    refine sm_go_st (t := (21, la_lv i, [.int (Int32.ofNat L), .int i], h)) T3 rfl ?_
    refine sm_go_st (t := (23, la_lv i, [.int 6, .int (Int32.ofNat L), .int i], h)) T4 rfl ?_
    refine sm_go_st (t := (24, la_lv i, [.int (Int32.ofNat L - 6), .int i], h)) T5 rfl ?_
    refine sm_go_ic (r := []) (t := 1398) T6 rfl (fun _ => ?_) (fun c => ?_)
    · refine sm_go_st (t := (1399, la_lv i, [.int 1], h)) T15 rfl ?_
      exact sm_go_rt (o := some (.int 1)) T16 ⟨rfl, Or.inl ⟨rfl, 1, rfl, rfl, Or.inr ⟨rfl, Or.inr rfl⟩⟩⟩ rfl
    · have c : ¬ (Int32.ofNat L - 6).toInt < i.toInt := c
      have h6 : i.toInt + 6 ≤ (L : Int) := by omega
      have hin := aw_in6 (i := i) (q := (i.toInt, i.toInt)) (n := L) ⟨Int.le_refl _, Int.le_refl _⟩ h0 (by show i.toInt < (L : Int); omega)
      refine sm_go_st (t := (28, la_lv i, [.ref 998], h)) T7 rfl ?_
      refine sm_go_st (t := (29, la_lv i, [.int i, .ref 998], h)) T8 rfl ?_
      refine la_ia T9 hin ?_
      refine sm_go_st (t := (32, la_lv i, [.int 63, .int (xs i.toNatClampNeg)], h)) T10 rfl ?_
      refine sm_go_st (t := (33, la_lv i, [.int (xs i.toNatClampNeg &&& 63)], h)) T11 rfl ?_
      have hv := la_63 (xs i.toNatClampNeg)
      generalize xs i.toNatClampNeg &&& 63 = v at hv ⊢
      have kk : ∀ h, TT h → sm_Go (la_B L xs) (sm_Ex 200 sm_ML sm_B 12) (fun o _ => o = some (.int 1)) 1392 (la_lv i) [] h := by
        intro h hT
        have e6 : (i + Int32.ofInt 6).toInt = i.toInt + 6 := by
          have e : (Int32.ofInt 6).toInt = 6 := rfl
          rw [mr_add (by omega) (by omega), e]
        refine sm_go_st (t := (1395, la_lv (i + Int32.ofInt 6), [], h)) T13 rfl ?_
        refine sm_go_st (t := (18, la_lv (i + Int32.ofInt 6), [], h)) T14 ?_ ?_
        · show (sm_j 1395 (-1377)).bind (fun t => some (t, la_lv (i + Int32.ofInt 6), [], h)) = _
          rw [show sm_j 1395 (-1377) = some 18 by decide +kernel]
          rfl
        exact ih (i + Int32.ofInt 6) h hT (by omega) (by omega) (by omega)
      by_cases hc : v.toInt ≤ 41
      · obtain ⟨j, hj⟩ : ∃ j : Nat, v.toInt = (j : Int) := ⟨v.toInt.toNat, by omega⟩
        have hj2 : j < 42 := by omega
        refine sm_go_st (t := (la_pcs.getD j 0, la_lv i, [], h)) T12 ?_ ?_
        · show (if v.toInt < 0 ∨ 41 < v.toInt then _ else _) = _
          rw [if_neg (by omega), show (v.toInt - 0).toNat = j by omega]
          have e := la_sw j hj2
          rw [← Option.bind_assoc, e]
          rfl
        · show sm_Go (la_B L xs) (sm_Ex 200 sm_ML sm_B 12) (fun o _ => o = some (.int 1)) (la_pcs.getD j 0) (la_lv i) [] h
          clear hj
          match j, hj2 with
          | 0, _ => exact la_0 hL h0 h6 kk h hT
          | 1, _ => exact la_1 hL h0 h6 kk h hT
          | 2, _ => exact la_2 hL h0 h6 kk h hT
          | 3, _ => exact la_3 hL h0 h6 kk h hT
          | 4, _ => exact la_4 hL h0 h6 kk h hT
          | 5, _ => exact la_5 hL h0 h6 kk h hT
          | 6, _ => exact la_6 hL h0 h6 kk h hT
          | 7, _ => exact la_7 hL h0 h6 kk h hT
          | 8, _ => exact la_8 hL h0 h6 kk h hT
          | 9, _ => exact la_9 hL h0 h6 kk h hT
          | 10, _ => exact la_10 hL h0 h6 kk h hT
          | 11, _ => exact la_11 hL h0 h6 kk h hT
          | 12, _ => exact la_12 hL h0 h6 kk h hT
          | 13, _ => exact la_13 hL h0 h6 kk h hT
          | 14, _ => exact la_14 hL h0 h6 kk h hT
          | 15, _ => exact la_15 hL h0 h6 kk h hT
          | 16, _ => exact la_16 hL h0 h6 kk h hT
          | 17, _ => exact la_17 hL h0 h6 kk h hT
          | 18, _ => exact la_18 hL h0 h6 kk h hT
          | 19, _ => exact la_19 hL h0 h6 kk h hT
          | 20, _ => exact la_20 hL h0 h6 kk h hT
          | 21, _ => exact la_21 hL h0 h6 kk h hT
          | 22, _ => exact la_22 hL h0 h6 kk h hT
          | 23, _ => exact la_23 hL h0 h6 kk h hT
          | 24, _ => exact la_24 hL h0 h6 kk h hT
          | 25, _ => exact la_25 hL h0 h6 kk h hT
          | 26, _ => exact la_26 hL h0 h6 kk h hT
          | 27, _ => exact la_27 hL h0 h6 kk h hT
          | 28, _ => exact la_28 hL h0 h6 kk h hT
          | 29, _ => exact la_29 hL h0 h6 kk h hT
          | 30, _ => exact la_30 hL h0 h6 kk h hT
          | 31, _ => exact la_31 hL h0 h6 kk h hT
          | 32, _ => exact la_32 hL h0 h6 kk h hT
          | 33, _ => exact la_33 hL h0 h6 kk h hT
          | 34, _ => exact la_34 hL h0 h6 kk h hT
          | 35, _ => exact la_35 hL h0 h6 kk h hT
          | 36, _ => exact la_36 hL h0 h6 kk h hT
          | 37, _ => exact la_37 hL h0 h6 kk h hT
          | 38, _ => exact la_38 hL h0 h6 kk h hT
          | 39, _ => exact la_39 hL h0 h6 kk h hT
          | 40, _ => exact la_40 hL h0 h6 kk h hT
          | 41, _ => exact la_41 hL h0 h6 kk h hT
          | n + 42, hj => exact absurd hj (by omega)
      · refine sm_go_st (t := (1392, la_lv i, [], h)) T12 ?_ (kk h hT)
        show (if v.toInt < 0 ∨ 41 < v.toInt then _ else _) = _
        rw [if_pos (by omega)]
        rfl
