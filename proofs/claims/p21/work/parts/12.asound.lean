/-! A step over ranges is sound. -/
theorem ar_pt (x : Int) : ar_in x [(x, x)] := ⟨_, List.mem_cons_self, Int.le_refl _, Int.le_refl _⟩
theorem aw_fz1 {lv : sm_L} {k nf j : Nat} {v w : Value} (hk : nf < k + 1) (hj : j < nf) (hc : w.category = 2 → j + 1 < nf) (h : sm_get lv j = some w) : sm_get (sm_put1 lv k v) j = some w := by
  unfold sm_put1 sm_get
  rw [if_neg (by dsimp only; omega)]
  refine aw_get_fl h ?_
  simp only [Bool.and_eq_true, Bool.not_eq_true', Bool.and_eq_false_iff, beq_eq_false_iff_ne, ne_eq]
  refine ⟨by omega, ?_⟩
  by_cases h2 : w.category = 2
  · have := hc h2
    exact Or.inl (by omega)
  · exact Or.inr h2
theorem aw_fz2 {lv : sm_L} {k nf j : Nat} {v w : Value} (hk : nf < k + 1) (hj : j < nf) (hc : w.category = 2 → j + 1 < nf) (h : sm_get lv j = some w) : sm_get (sm_put2 lv k v) j = some w := by
  unfold sm_put2 sm_get
  rw [if_neg (by dsimp only; omega)]
  refine aw_get_fl h ?_
  simp only [Bool.and_eq_true, Bool.not_eq_true', Bool.and_eq_false_iff, beq_eq_false_iff_ne, ne_eq]
  refine ⟨by omega, by omega, ?_⟩
  by_cases h2 : w.category = 2
  · have := hc h2
    exact Or.inl (by omega)
  · exact Or.inr h2
theorem aw_n0_s {r : ar_R} {z : Int} (h : aw_n0 r = true) (hz : ar_in z r) : z ≠ 0 := by
  have a := ar_h_s hz
  unfold aw_n0 at h
  simp only [Bool.or_eq_true, decide_eq_true_eq] at h
  omega
theorem aw_i0 {y : Int32} (h : y.toInt ≠ 0) : ¬ y = 0 := fun e => h (by rw [e]; rfl)
theorem aw_j0 {y : Int64} (h : y.toInt ≠ 0) : ¬ y = 0 := fun e => h (by rw [e]; rfl)
theorem aw_div_s {x y : Int32} (p q : Int × Int) (hx : p.1 ≤ x.toInt ∧ x.toInt ≤ p.2) (hy : q.1 ≤ y.toInt ∧ y.toInt ≤ q.2) : ar_in (x / y).toInt (aw_div p q) := by
  unfold aw_div
  split
  · rename_i r hr
    exact ⟨r, List.mem_cons_self, ar_div_s hx hy hr⟩
  · exact ar_in32 _
theorem aw_ldiv_s {x y : Int64} (p q : Int × Int) (hx : p.1 ≤ x.toInt ∧ x.toInt ≤ p.2) (hy : q.1 ≤ y.toInt ∧ y.toInt ≤ q.2) : ar_in (x / y).toInt (aw_ldiv p q) := by
  unfold aw_ldiv
  split
  · rename_i r hr
    exact ⟨r, List.mem_cons_self, ar_ldiv_s hx hy hr⟩
  · exact ar_in64 _
theorem aw_rem_s {x y : Int32} (p q : Int × Int) (hx : p.1 ≤ x.toInt ∧ x.toInt ≤ p.2) (hy : q.1 ≤ y.toInt ∧ y.toInt ≤ q.2) : ar_in (x - x / y * y).toInt (aw_rem p q) := by
  unfold aw_rem
  split
  · rename_i r hr
    obtain ⟨h1, h2⟩ := ar_rem_z hx hy hr
    rw [ar_rem_eq x y h1]
    exact ⟨r, List.mem_cons_self, h2⟩
  · exact ar_in32 _
theorem aw_lrem_s {x y : Int64} (p q : Int × Int) (hx : p.1 ≤ x.toInt ∧ x.toInt ≤ p.2) (hy : q.1 ≤ y.toInt ∧ y.toInt ≤ q.2) : ar_in (x - x / y * y).toInt (aw_lrem p q) := by
  unfold aw_lrem
  split
  · rename_i r hr
    obtain ⟨h1, h2⟩ := ar_rem_z hx hy hr
    rw [ar_lrem_eq x y h1]
    exact ⟨r, List.mem_cons_self, h2⟩
  · exact ar_in64 _
theorem aw_lcmp (q : Jvm.ClassFile.Cond) (x y : Int64) : sm_cmp q (lg_cmp x y) 0 = true ↔ ar_holds q x.toInt y.toInt := by
  rw [ar_smcmp]
  have e : (lg_cmp x y).toInt = if y.toInt < x.toInt then 1 else if x.toInt = y.toInt then 0 else -1 := by
    unfold lg_cmp
    by_cases h1 : y < x
    · have h1' := Int64.lt_iff_toInt_lt.mp h1
      rw [if_pos h1, if_pos h1']
      rfl
    · have h1' : ¬ y.toInt < x.toInt := fun z => h1 (Int64.lt_iff_toInt_lt.mpr z)
      rw [if_neg h1, if_neg h1']
      by_cases h2 : x = y
      · rw [if_pos h2, if_pos (by rw [h2])]
        rfl
      · rw [if_neg h2, if_neg (fun z => h2 (Int64.toInt_inj.mp z))]
        rfl
  have z0 : (0 : Int32).toInt = 0 := rfl
  rw [z0, e]
  cases q <;> simp only [ar_holds] <;> (repeat' split) <;> omega
theorem aw_byte (x : Int32) : ar_in (vp_nar .byte x).toInt [(-128, 127)] := by
  have e : vp_nar .byte x = x.toInt8.toInt32 := rfl
  rw [e, Int8.toInt_toInt32]
  have h1 := x.toInt8.le_toInt
  have h2 := x.toInt8.toInt_lt
  exact ⟨_, List.mem_cons_self, by show (-128 : Int) ≤ _; omega, by show _ ≤ (127 : Int); omega⟩
theorem aw_byt2 (x : Int32) : ar_in x.toInt8.toInt32.toInt [(-128, 127)] := by
  rw [Int8.toInt_toInt32]
  have h1 := x.toInt8.le_toInt
  have h2 := x.toInt8.toInt_lt
  exact ⟨_, List.mem_cons_self, by show (-128 : Int) ≤ _; omega, by show _ ≤ (127 : Int); omega⟩
theorem aw_in6 {i : Int32} {q : Int × Int} {n : Nat} (hq : q.1 ≤ i.toInt ∧ i.toInt ≤ q.2) (h0 : 0 ≤ q.1) (hn : q.2 < (n : Int)) : ¬ (i < 0 ∨ n ≤ i.toNatClampNeg) := by
  have e := aw_ix (i := i) (by omega)
  intro z
  rcases z with z | z
  · have := Int32.lt_iff_toInt_lt.mp z
    have z0 : (0 : Int32).toInt = 0 := rfl
    omega
  · omega
theorem aw_ints_of {h : List va_E} {a n : Nat} {f : Nat → Int32} (he : h[a]? = some (.inl (0, n, .inl f))) : sm_ints h a = some (n, f) := by
  unfold sm_ints
  rw [he]
  rfl
theorem aw_byts_of {h : List va_E} {a n : Nat} {f : Nat → Int32} (he : h[a]? = some (.inl (1, n, .inl f))) : sm_byts h a = some (n, f) := by
  unfold sm_byts
  rw [he]
  rfl
theorem aw_fr {WR : List Nat} {a : Nat} {e : va_E} {h : List va_E} (ha : a ∈ WR) : ∀ b, b ∉ WR → (h.set a e)[b]? = h[b]? := by
  intro b hb
  rw [List.getElem?_set, if_neg]
  intro e
  subst e
  exact hb ha
section AWT
variable {K : sm_K} {tb : Nat → Option (Instr × Nat)} {WR : List Nat} {nf : Nat} {G : Nat → sm_L → List Value → List va_E → Prop} {Psi : List va_E → Prop}
set_option maxHeartbeats 4000000 in
theorem aw_sound (hG : ∀ (pc : Nat) (i : Instr) (n : Nat) (lv : sm_L) (st : List Value) (h : List va_E) (t : sm_T), tb pc = some (i, n) → sm_step K i n pc lv st h = some t → G t.1 t.2.1 t.2.2.1 t.2.2.2 → G pc lv st h)
    (hPsi : ∀ (h : List va_E) (a : Nat) (e : va_E), a ∈ WR → Psi h → Psi (h.set a e)) {i : Instr} {n pc : Nat} {S : aw_S} {Ls : List (Nat × aw_S)} {lv : sm_L} {st : List Value} {h : List va_E} (htb : tb pc = some (i, n)) (hs : aw_step K tb WR nf i n pc S = some Ls) (hok : aw_ok S lv st h) (hp : Psi h)
    (k : ∀ u ∈ Ls, ∀ (lv' : sm_L) (st' : List Value) (h' : List va_E), aw_ok u.2 lv' st' h' → (∀ a, a ∉ WR → h'[a]? = h[a]?) → Psi h' → (∀ (j : Nat) (w : Value), j < nf → (w.category = 2 → j + 1 < nf) → sm_get lv j = some w → sm_get lv' j = some w) → G u.1 lv' st' h') : G pc lv st h := by
  obtain ⟨L, sa, H⟩ := S
  obtain ⟨hL, hst, hH⟩ := hok
  have fr : ∀ a, a ∉ WR → h[a]? = h[a]? := fun _ _ => rfl
  have fz : ∀ (j : Nat) (w : Value), j < nf → (w.category = 2 → j + 1 < nf) → sm_get lv j = some w → sm_get lv j = some w := fun _ _ _ _ z => z
  cases i with
  | iconst v =>
    have hs9 := sm_if hs
    clear hs
    obtain ⟨rfl, hs⟩ := hs9
    cases hs
    exact hG pc _ _ lv st h _ htb rfl (k _ List.mem_cons_self _ _ _ ⟨hL, ⟨⟨_, rfl, ar_pt _⟩, trivial, hst⟩, hH⟩ fr hp fz)
  | bipush v =>
    have hs9 := sm_if hs
    clear hs
    obtain ⟨rfl, hs⟩ := hs9
    cases hs
    exact hG pc _ _ lv st h _ htb rfl (k _ List.mem_cons_self _ _ _ ⟨hL, ⟨⟨_, rfl, ar_pt _⟩, trivial, hst⟩, hH⟩ fr hp fz)
  | sipush v =>
    have hs9 := sm_if hs
    clear hs
    obtain ⟨rfl, hs⟩ := hs9
    cases hs
    exact hG pc _ _ lv st h _ htb rfl (k _ List.mem_cons_self _ _ _ ⟨hL, ⟨⟨_, rfl, ar_pt _⟩, trivial, hst⟩, hH⟩ fr hp fz)
  | lconst v =>
    have hs9 := sm_if hs
    clear hs
    obtain ⟨rfl, hs⟩ := hs9
    cases hs
    exact hG pc _ _ lv st h _ htb rfl (k _ List.mem_cons_self _ _ _ ⟨hL, ⟨⟨_, rfl, ar_pt _⟩, trivial, hst⟩, hH⟩ fr hp fz)
  | ldc x =>
    have hs9 := sm_if hs
    clear hs
    obtain ⟨rfl, hs⟩ := hs9
    obtain ⟨v, hv, hs⟩ := sm_bd hs
    cases hs
    exact hG pc _ _ lv st h (pc + 2, lv, .int v :: st, h) htb (show (K.2.1 x).bind _ = _ by rw [hv]; rfl) (k _ List.mem_cons_self _ _ _ ⟨hL, ⟨⟨_, rfl, ar_pt _⟩, trivial, hst⟩, hH⟩ fr hp fz)
  | ldc_w x =>
    have hs9 := sm_if hs
    clear hs
    obtain ⟨rfl, hs⟩ := hs9
    obtain ⟨v, hv, hs⟩ := sm_bd hs
    cases hs
    exact hG pc _ _ lv st h (pc + 3, lv, .int v :: st, h) htb (show (K.2.1 x).bind _ = _ by rw [hv]; rfl) (k _ List.mem_cons_self _ _ _ ⟨hL, ⟨⟨_, rfl, ar_pt _⟩, trivial, hst⟩, hH⟩ fr hp fz)
  | ldc2_w x =>
    have hs9 := sm_if hs
    clear hs
    obtain ⟨rfl, hs⟩ := hs9
    obtain ⟨v, hv, hs⟩ := sm_bd hs
    cases hs
    exact hG pc _ _ lv st h (pc + 3, lv, .long v :: st, h) htb (show (K.2.2.1 x).bind _ = _ by rw [hv]; rfl) (k _ List.mem_cons_self _ _ _ ⟨hL, ⟨⟨_, rfl, ar_pt _⟩, trivial, hst⟩, hH⟩ fr hp fz)
  | iload_n j =>
    have hs9 := sm_if hs
    clear hs
    obtain ⟨rfl, hs⟩ := hs9
    obtain ⟨v, hv, hs⟩ := sm_bd hs
    obtain ⟨w, hw, hm⟩ := hL _ (aw_lk hv)
    unfold aw_i1 at hs
    split at hs
    · rename_i x g r e
      cases e
      cases hs
      obtain ⟨y, rfl, hy⟩ := hm
      exact hG pc _ _ lv st h (pc + 1, lv, .int y :: st, h) htb (show (sm_get lv _).bind _ = _ by rw [hw]; rfl) (k _ List.mem_cons_self _ _ _ ⟨hL, ⟨⟨y, rfl, hy⟩, ⟨_, hw, rfl⟩, hst⟩, hH⟩ fr hp fz)
    · cases hs
  | iload j =>
    have hs9 := sm_if hs
    clear hs
    obtain ⟨rfl, hs⟩ := hs9
    obtain ⟨v, hv, hs⟩ := sm_bd hs
    obtain ⟨w, hw, hm⟩ := hL _ (aw_lk hv)
    unfold aw_i1 at hs
    split at hs
    · rename_i x g r e
      cases e
      cases hs
      obtain ⟨y, rfl, hy⟩ := hm
      exact hG pc _ _ lv st h (pc + 2, lv, .int y :: st, h) htb (show (sm_get lv _).bind _ = _ by rw [hw]; rfl) (k _ List.mem_cons_self _ _ _ ⟨hL, ⟨⟨y, rfl, hy⟩, ⟨_, hw, rfl⟩, hst⟩, hH⟩ fr hp fz)
    · cases hs
  | lload_n j =>
    have hs9 := sm_if hs
    clear hs
    obtain ⟨rfl, hs⟩ := hs9
    obtain ⟨v, hv, hs⟩ := sm_bd hs
    obtain ⟨w, hw, hm⟩ := hL _ (aw_lk hv)
    unfold aw_l1 at hs
    split at hs
    · rename_i x g r e
      cases e
      cases hs
      obtain ⟨y, rfl, hy⟩ := hm
      exact hG pc _ _ lv st h (pc + 1, lv, .long y :: st, h) htb (show (sm_get lv _).bind _ = _ by rw [hw]; rfl) (k _ List.mem_cons_self _ _ _ ⟨hL, ⟨⟨y, rfl, hy⟩, ⟨_, hw, rfl⟩, hst⟩, hH⟩ fr hp fz)
    · cases hs
  | lload j =>
    have hs9 := sm_if hs
    clear hs
    obtain ⟨rfl, hs⟩ := hs9
    obtain ⟨v, hv, hs⟩ := sm_bd hs
    obtain ⟨w, hw, hm⟩ := hL _ (aw_lk hv)
    unfold aw_l1 at hs
    split at hs
    · rename_i x g r e
      cases e
      cases hs
      obtain ⟨y, rfl, hy⟩ := hm
      exact hG pc _ _ lv st h (pc + 2, lv, .long y :: st, h) htb (show (sm_get lv _).bind _ = _ by rw [hw]; rfl) (k _ List.mem_cons_self _ _ _ ⟨hL, ⟨⟨y, rfl, hy⟩, ⟨_, hw, rfl⟩, hst⟩, hH⟩ fr hp fz)
    · cases hs
  | aload_n j =>
    have hs9 := sm_if hs
    clear hs
    obtain ⟨rfl, hs⟩ := hs9
    obtain ⟨v, hv, hs⟩ := sm_bd hs
    obtain ⟨w, hw, hm⟩ := hL _ (aw_lk hv)
    unfold aw_r1 at hs
    split at hs
    · rename_i a g r e
      cases e
      cases hs
      have hm : w = _ := hm
      subst hm
      exact hG pc _ _ lv st h (pc + 1, lv, .ref a :: st, h) htb (show (sm_get lv _).bind _ = _ by rw [hw]; rfl) (k _ List.mem_cons_self _ _ _ ⟨hL, ⟨rfl, trivial, hst⟩, hH⟩ fr hp fz)
    · cases hs
  | aload j =>
    have hs9 := sm_if hs
    clear hs
    obtain ⟨rfl, hs⟩ := hs9
    obtain ⟨v, hv, hs⟩ := sm_bd hs
    obtain ⟨w, hw, hm⟩ := hL _ (aw_lk hv)
    unfold aw_r1 at hs
    split at hs
    · rename_i a g r e
      cases e
      cases hs
      have hm : w = _ := hm
      subst hm
      exact hG pc _ _ lv st h (pc + 2, lv, .ref a :: st, h) htb (show (sm_get lv _).bind _ = _ by rw [hw]; rfl) (k _ List.mem_cons_self _ _ _ ⟨hL, ⟨rfl, trivial, hst⟩, hH⟩ fr hp fz)
    · cases hs
  | istore_n j =>
    have hs9 := sm_if hs
    clear hs
    obtain ⟨⟨rfl, hk, hnf⟩, hs⟩ := hs9
    obtain ⟨x, g, r, y, ws, hs, rfl, hy, -, hr⟩ := aw_i1_s hs hst
    cases hs
    exact hG pc _ _ lv _ h _ htb (show (if _ then _ else _) = _ by rw [if_pos ⟨rfl, hk⟩]; rfl) (k _ List.mem_cons_self _ _ _ ⟨aw_p1_s hL ⟨y, rfl, hy⟩, aw_c0_s hr, hH⟩ fr hp (fun _ _ a1 a2 a3 => aw_fz1 hnf a1 a2 a3))
  | istore j =>
    have hs9 := sm_if hs
    clear hs
    obtain ⟨⟨rfl, hk, hnf⟩, hs⟩ := hs9
    obtain ⟨x, g, r, y, ws, hs, rfl, hy, -, hr⟩ := aw_i1_s hs hst
    cases hs
    exact hG pc _ _ lv _ h _ htb (show (if _ then _ else _) = _ by rw [if_pos ⟨rfl, hk⟩]; rfl) (k _ List.mem_cons_self _ _ _ ⟨aw_p1_s hL ⟨y, rfl, hy⟩, aw_c0_s hr, hH⟩ fr hp (fun _ _ a1 a2 a3 => aw_fz1 hnf a1 a2 a3))
  | lstore_n j =>
    have hs9 := sm_if hs
    clear hs
    obtain ⟨⟨rfl, hk, hnf⟩, hs⟩ := hs9
    obtain ⟨x, g, r, y, ws, hs, rfl, hy, -, hr⟩ := aw_l1_s hs hst
    cases hs
    exact hG pc _ _ lv _ h _ htb (show (if _ then _ else _) = _ by rw [if_pos ⟨rfl, hk⟩]; rfl) (k _ List.mem_cons_self _ _ _ ⟨aw_p2_s hL ⟨y, rfl, hy⟩, aw_c0_s hr, hH⟩ fr hp (fun _ _ a1 a2 a3 => aw_fz2 hnf a1 a2 a3))
  | lstore j =>
    have hs9 := sm_if hs
    clear hs
    obtain ⟨⟨rfl, hk, hnf⟩, hs⟩ := hs9
    obtain ⟨x, g, r, y, ws, hs, rfl, hy, -, hr⟩ := aw_l1_s hs hst
    cases hs
    exact hG pc _ _ lv _ h _ htb (show (if _ then _ else _) = _ by rw [if_pos ⟨rfl, hk⟩]; rfl) (k _ List.mem_cons_self _ _ _ ⟨aw_p2_s hL ⟨y, rfl, hy⟩, aw_c0_s hr, hH⟩ fr hp (fun _ _ a1 a2 a3 => aw_fz2 hnf a1 a2 a3))
  | astore_n j =>
    have hs9 := sm_if hs
    clear hs
    obtain ⟨⟨rfl, hk, hnf⟩, hs⟩ := hs9
    obtain ⟨a, r, ws, hs, rfl, hr⟩ := aw_r1_s hs hst
    cases hs
    exact hG pc _ _ lv _ h _ htb (show (if _ then _ else _) = _ by rw [if_pos ⟨rfl, hk⟩]; rfl) (k _ List.mem_cons_self _ _ _ ⟨aw_p1_s hL rfl, aw_c0_s hr, hH⟩ fr hp (fun _ _ a1 a2 a3 => aw_fz1 hnf a1 a2 a3))
  | astore j =>
    have hs9 := sm_if hs
    clear hs
    obtain ⟨⟨rfl, hk, hnf⟩, hs⟩ := hs9
    obtain ⟨a, r, ws, hs, rfl, hr⟩ := aw_r1_s hs hst
    cases hs
    exact hG pc _ _ lv _ h _ htb (show (if _ then _ else _) = _ by rw [if_pos ⟨rfl, hk⟩]; rfl) (k _ List.mem_cons_self _ _ _ ⟨aw_p1_s hL rfl, aw_c0_s hr, hH⟩ fr hp (fun _ _ a1 a2 a3 => aw_fz1 hnf a1 a2 a3))
  | iinc j v =>
    have hs9 := sm_if hs
    clear hs
    obtain ⟨⟨rfl, hk, hnf⟩, hs⟩ := hs9
    obtain ⟨v0, hv, hs⟩ := sm_bd hs
    obtain ⟨w, hw, hm⟩ := hL _ (aw_lk hv)
    unfold aw_i1 at hs
    split at hs
    · rename_i x g r e
      cases e
      cases hs
      obtain ⟨y, rfl, hy⟩ := hm
      have hsum : ar_in (y + Int32.ofInt v).toInt (ar_2 (· + ·) (fun p q => ar_f32 (ar_add p q)) x [((Int32.ofInt v).toInt, (Int32.ofInt v).toInt)]) := ar_2_s hy (ar_pt _) (fun p q a b => ar_f32_s (Int32.toInt_add _ _) (by unfold ar_add; dsimp only; omega))
      exact hG pc _ _ lv _ h _ htb (show (if _ then _ else _) = _ by rw [if_pos ⟨rfl, hk⟩, hw]; rfl) (k _ List.mem_cons_self _ _ _ ⟨aw_p1_s hL ⟨_, rfl, hsum⟩, aw_c0_s hst, hH⟩ fr hp (fun _ _ a1 a2 a3 => aw_fz1 hnf a1 a2 a3))
    · cases hs
  | iadd =>
    have hs9 := sm_if hs
    clear hs
    obtain ⟨rfl, hs⟩ := hs9
    obtain ⟨rx, gx, ry, gy, r, x, y, ws, hs, rfl, hx, hy, -, -, hr⟩ := aw_i2_s hs hst
    cases hs
    have hv := ar_2_s (g := (· + ·)) (F := (fun p q => ar_f32 (ar_add p q))) hx hy (fun p q a b => ar_f32_s (Int32.toInt_add _ _) (by unfold ar_add; dsimp only; omega))
    exact hG pc _ _ lv _ h (pc + 1, lv, .int ((· + ·) x y) :: ws, h) htb rfl (k _ List.mem_cons_self _ _ _ ⟨hL, ⟨⟨_, rfl, hv⟩, trivial, hr⟩, hH⟩ fr hp fz)
  | isub =>
    have hs9 := sm_if hs
    clear hs
    obtain ⟨rfl, hs⟩ := hs9
    obtain ⟨rx, gx, ry, gy, r, x, y, ws, hs, rfl, hx, hy, -, -, hr⟩ := aw_i2_s hs hst
    cases hs
    have hv := ar_2_s (g := (· - ·)) (F := (fun p q => ar_f32 (ar_subt p q))) hx hy (fun p q a b => ar_f32_s (Int32.toInt_sub _ _) (by unfold ar_subt; dsimp only; omega))
    exact hG pc _ _ lv _ h (pc + 1, lv, .int ((· - ·) x y) :: ws, h) htb rfl (k _ List.mem_cons_self _ _ _ ⟨hL, ⟨⟨_, rfl, hv⟩, trivial, hr⟩, hH⟩ fr hp fz)
  | imul =>
    have hs9 := sm_if hs
    clear hs
    obtain ⟨rfl, hs⟩ := hs9
    obtain ⟨rx, gx, ry, gy, r, x, y, ws, hs, rfl, hx, hy, -, -, hr⟩ := aw_i2_s hs hst
    cases hs
    have hv := ar_2_s (g := (· * ·)) (F := (fun p q => ar_f32 (ar_mul p q))) hx hy (fun p q a b => ar_f32_s (Int32.toInt_mul _ _) (ar_mul_s a b))
    exact hG pc _ _ lv _ h (pc + 1, lv, .int ((· * ·) x y) :: ws, h) htb rfl (k _ List.mem_cons_self _ _ _ ⟨hL, ⟨⟨_, rfl, hv⟩, trivial, hr⟩, hH⟩ fr hp fz)
  | iand =>
    have hs9 := sm_if hs
    clear hs
    obtain ⟨rfl, hs⟩ := hs9
    obtain ⟨rx, gx, ry, gy, r, x, y, ws, hs, rfl, hx, hy, -, -, hr⟩ := aw_i2_s hs hst
    cases hs
    have hv := ar_2_s (g := (· &&& ·)) (F := ar_and) hx hy (fun p q a b => ar_and_s x y a b)
    exact hG pc _ _ lv _ h (pc + 1, lv, .int ((· &&& ·) x y) :: ws, h) htb rfl (k _ List.mem_cons_self _ _ _ ⟨hL, ⟨⟨_, rfl, hv⟩, trivial, hr⟩, hH⟩ fr hp fz)
  | ishl =>
    have hs9 := sm_if hs
    clear hs
    obtain ⟨rfl, hs⟩ := hs9
    obtain ⟨rx, gx, ry, gy, r, x, y, ws, hs, rfl, hx, hy, -, -, hr⟩ := aw_i2_s hs hst
    cases hs
    have hv := ar_2_s (g := (fun a b : Int32 => a <<< (b &&& 31))) (F := ar_shl) hx hy (fun p q a b => ar_shl_s x y a b)
    exact hG pc _ _ lv _ h (pc + 1, lv, .int ((fun a b : Int32 => a <<< (b &&& 31)) x y) :: ws, h) htb rfl (k _ List.mem_cons_self _ _ _ ⟨hL, ⟨⟨_, rfl, hv⟩, trivial, hr⟩, hH⟩ fr hp fz)
  | ior =>
    have hs9 := sm_if hs
    clear hs
    obtain ⟨rfl, hs⟩ := hs9
    obtain ⟨rx, gx, ry, gy, r, x, y, ws, hs, rfl, hx, hy, -, -, hr⟩ := aw_i2_s hs hst
    cases hs
    have hv := ar_2_s (g := (· ||| ·)) (F := (fun _ _ => ar_t32)) hx hy (fun p q a b => ar_in32 _)
    exact hG pc _ _ lv _ h (pc + 1, lv, .int ((· ||| ·) x y) :: ws, h) htb rfl (k _ List.mem_cons_self _ _ _ ⟨hL, ⟨⟨_, rfl, hv⟩, trivial, hr⟩, hH⟩ fr hp fz)
  | ixor =>
    have hs9 := sm_if hs
    clear hs
    obtain ⟨rfl, hs⟩ := hs9
    obtain ⟨rx, gx, ry, gy, r, x, y, ws, hs, rfl, hx, hy, -, -, hr⟩ := aw_i2_s hs hst
    cases hs
    have hv := ar_2_s (g := (· ^^^ ·)) (F := (fun _ _ => ar_t32)) hx hy (fun p q a b => ar_in32 _)
    exact hG pc _ _ lv _ h (pc + 1, lv, .int ((· ^^^ ·) x y) :: ws, h) htb rfl (k _ List.mem_cons_self _ _ _ ⟨hL, ⟨⟨_, rfl, hv⟩, trivial, hr⟩, hH⟩ fr hp fz)
  | ishr =>
    have hs9 := sm_if hs
    clear hs
    obtain ⟨rfl, hs⟩ := hs9
    obtain ⟨rx, gx, ry, gy, r, x, y, ws, hs, rfl, hx, hy, -, -, hr⟩ := aw_i2_s hs hst
    cases hs
    have hv := ar_2_s (g := (fun a b : Int32 => a >>> (b &&& 31))) (F := (fun _ _ => ar_t32)) hx hy (fun p q a b => ar_in32 _)
    exact hG pc _ _ lv _ h (pc + 1, lv, .int ((fun a b : Int32 => a >>> (b &&& 31)) x y) :: ws, h) htb rfl (k _ List.mem_cons_self _ _ _ ⟨hL, ⟨⟨_, rfl, hv⟩, trivial, hr⟩, hH⟩ fr hp fz)
  | idiv =>
    have hs9 := sm_if hs
    clear hs
    obtain ⟨rfl, hs⟩ := hs9
    obtain ⟨rx, gx, ry, gy, r, x, y, ws, hs, rfl, hx, hy, -, -, hr⟩ := aw_i2_s hs hst
    have hs9 := sm_if hs
    clear hs
    obtain ⟨hn, hs⟩ := hs9
    have hne := aw_i0 (aw_n0_s hn hy)
    cases hs
    have hv := ar_2_s (g := (· / ·)) (F := aw_div) hx hy (fun p q a b => aw_div_s p q a b)
    exact hG pc _ _ lv _ h (pc + 1, lv, .int ((· / ·) x y) :: ws, h) htb (show (if _ then _ else _) = _ by rw [if_neg hne]) (k _ List.mem_cons_self _ _ _ ⟨hL, ⟨⟨_, rfl, hv⟩, trivial, hr⟩, hH⟩ fr hp fz)
  | irem =>
    have hs9 := sm_if hs
    clear hs
    obtain ⟨rfl, hs⟩ := hs9
    obtain ⟨rx, gx, ry, gy, r, x, y, ws, hs, rfl, hx, hy, -, -, hr⟩ := aw_i2_s hs hst
    have hs9 := sm_if hs
    clear hs
    obtain ⟨hn, hs⟩ := hs9
    have hne := aw_i0 (aw_n0_s hn hy)
    cases hs
    have hv := ar_2_s (g := (fun a b : Int32 => a - a / b * b)) (F := aw_rem) hx hy (fun p q a b => aw_rem_s p q a b)
    exact hG pc _ _ lv _ h (pc + 1, lv, .int ((fun a b : Int32 => a - a / b * b) x y) :: ws, h) htb (show (if _ then _ else _) = _ by rw [if_neg hne]) (k _ List.mem_cons_self _ _ _ ⟨hL, ⟨⟨_, rfl, hv⟩, trivial, hr⟩, hH⟩ fr hp fz)
  | ladd =>
    have hs9 := sm_if hs
    clear hs
    obtain ⟨rfl, hs⟩ := hs9
    obtain ⟨rx, gx, ry, gy, r, x, y, ws, hs, rfl, hx, hy, -, -, hr⟩ := aw_l2_s hs hst
    cases hs
    have hv := ar_2l_s (g := (· + ·)) (F := (fun p q => ar_f64 (ar_add p q))) hx hy (fun p q a b => ar_f64_s (Int64.toInt_add _ _) (by unfold ar_add; dsimp only; omega))
    exact hG pc _ _ lv _ h (pc + 1, lv, .long ((· + ·) x y) :: ws, h) htb rfl (k _ List.mem_cons_self _ _ _ ⟨hL, ⟨⟨_, rfl, hv⟩, trivial, hr⟩, hH⟩ fr hp fz)
  | lmul =>
    have hs9 := sm_if hs
    clear hs
    obtain ⟨rfl, hs⟩ := hs9
    obtain ⟨rx, gx, ry, gy, r, x, y, ws, hs, rfl, hx, hy, -, -, hr⟩ := aw_l2_s hs hst
    cases hs
    have hv := ar_2l_s (g := (· * ·)) (F := (fun p q => ar_f64 (ar_mul p q))) hx hy (fun p q a b => ar_f64_s (Int64.toInt_mul _ _) (ar_mul_s a b))
    exact hG pc _ _ lv _ h (pc + 1, lv, .long ((· * ·) x y) :: ws, h) htb rfl (k _ List.mem_cons_self _ _ _ ⟨hL, ⟨⟨_, rfl, hv⟩, trivial, hr⟩, hH⟩ fr hp fz)
  | ldiv =>
    have hs9 := sm_if hs
    clear hs
    obtain ⟨rfl, hs⟩ := hs9
    obtain ⟨rx, gx, ry, gy, r, x, y, ws, hs, rfl, hx, hy, -, -, hr⟩ := aw_l2_s hs hst
    have hs9 := sm_if hs
    clear hs
    obtain ⟨hn, hs⟩ := hs9
    have hne := aw_j0 (aw_n0_s hn hy)
    cases hs
    have hv := ar_2l_s (g := (· / ·)) (F := aw_ldiv) hx hy (fun p q a b => aw_ldiv_s p q a b)
    exact hG pc _ _ lv _ h (pc + 1, lv, .long ((· / ·) x y) :: ws, h) htb (show (if _ then _ else _) = _ by rw [if_neg hne]) (k _ List.mem_cons_self _ _ _ ⟨hL, ⟨⟨_, rfl, hv⟩, trivial, hr⟩, hH⟩ fr hp fz)
  | lrem =>
    have hs9 := sm_if hs
    clear hs
    obtain ⟨rfl, hs⟩ := hs9
    obtain ⟨rx, gx, ry, gy, r, x, y, ws, hs, rfl, hx, hy, -, -, hr⟩ := aw_l2_s hs hst
    have hs9 := sm_if hs
    clear hs
    obtain ⟨hn, hs⟩ := hs9
    have hne := aw_j0 (aw_n0_s hn hy)
    cases hs
    have hv := ar_2l_s (g := (fun a b : Int64 => a - a / b * b)) (F := aw_lrem) hx hy (fun p q a b => aw_lrem_s p q a b)
    exact hG pc _ _ lv _ h (pc + 1, lv, .long ((fun a b : Int64 => a - a / b * b) x y) :: ws, h) htb (show (if _ then _ else _) = _ by rw [if_neg hne]) (k _ List.mem_cons_self _ _ _ ⟨hL, ⟨⟨_, rfl, hv⟩, trivial, hr⟩, hH⟩ fr hp fz)
  | ineg =>
    have hs9 := sm_if hs
    clear hs
    obtain ⟨rfl, hs⟩ := hs9
    obtain ⟨rx, g, r, x, ws, hs, rfl, hx, hg, hr⟩ := aw_i1_s hs hst
    cases hs
    have hv : ar_in (0 - x).toInt (ar_f32 (ar_subt (0, 0) (ar_h rx))) := ar_f32_s (Int32.toInt_sub _ _) (by have a := ar_h_s hx; have z0 : (0 : Int32).toInt = 0 := rfl; unfold ar_subt; dsimp only; omega)
    exact hG pc _ _ lv _ h _ htb rfl (k _ List.mem_cons_self _ _ _ ⟨hL, ⟨⟨_, rfl, hv⟩, trivial, hr⟩, hH⟩ fr hp fz)
  | i2l =>
    have hs9 := sm_if hs
    clear hs
    obtain ⟨rfl, hs⟩ := hs9
    obtain ⟨rx, g, r, x, ws, hs, rfl, hx, hg, hr⟩ := aw_i1_s hs hst
    cases hs
    have tg : aw_t lv h g (.long x.toInt64) := by
      have e : aw_z (.long x.toInt64) = aw_z (.int x) := by show some x.toInt64.toInt = some x.toInt; rw [Int32.toInt_toInt64]
      match g, hg with
      | none, _ => trivial
      | some (0, _, _), hg => obtain ⟨w, h1, h2⟩ := hg; exact ⟨w, h1, h2.trans e.symm⟩
      | some (1, _, _), hg => obtain ⟨ci, fs, w, h1, h2, h3⟩ := hg; exact ⟨ci, fs, w, h1, h2, h3.trans e.symm⟩
      | some (_ + 2, _, _), hg => obtain ⟨t, n, f, h1, h2, h3⟩ := hg; exact ⟨t, n, f, h1, h2, h3.trans e.symm⟩
    exact hG pc _ _ lv _ h _ htb rfl (k _ List.mem_cons_self _ _ _ ⟨hL, ⟨⟨_, rfl, by rw [Int32.toInt_toInt64]; exact hx⟩, tg, hr⟩, hH⟩ fr hp fz)
  | l2i =>
    have hs9 := sm_if hs
    clear hs
    obtain ⟨rfl, hs⟩ := hs9
    obtain ⟨rx, g, r, x, ws, hs, rfl, hx, hg, hr⟩ := aw_l1_s hs hst
    cases hs
    have hv : ar_in x.toInt32.toInt (ar_f32 (ar_h rx)) := ar_f32_s (Int64.toInt_toInt32 x) (ar_h_s hx)
    exact hG pc _ _ lv _ h _ htb rfl (k _ List.mem_cons_self _ _ _ ⟨hL, ⟨⟨_, rfl, hv⟩, trivial, hr⟩, hH⟩ fr hp fz)
  | i2b =>
    have hs9 := sm_if hs
    clear hs
    obtain ⟨rfl, hs⟩ := hs9
    obtain ⟨rx, g, r, x, ws, hs, rfl, hx, hg, hr⟩ := aw_i1_s hs hst
    cases hs
    exact hG pc _ _ lv _ h _ htb rfl (k _ List.mem_cons_self _ _ _ ⟨hL, ⟨⟨_, rfl, aw_byt2 x⟩, trivial, hr⟩, hH⟩ fr hp fz)
  | goto off =>
    have hs9 := sm_if hs
    clear hs
    obtain ⟨rfl, hs⟩ := hs9
    obtain ⟨t, ht, hs⟩ := sm_bd hs
    cases hs
    exact hG pc _ _ lv st h _ htb (show (sm_j pc off).bind _ = _ by rw [ht]; rfl) (k _ List.mem_cons_self _ _ _ ⟨hL, hst, hH⟩ fr hp fz)
  | ifCond q off =>
    have hs9 := sm_if hs
    clear hs
    obtain ⟨rfl, hs⟩ := hs9
    obtain ⟨t, ht, hs⟩ := sm_bd hs
    obtain ⟨rx, g, r, x, ws, hs, rfl, hx, hg, hr⟩ := aw_i1_s hs hst
    cases hs
    obtain ⟨b1, b2⟩ := aw_br_s (q := q) (pt := t) (pf := pc + 3) (S := (L, r, H)) (wy := .int 0) ⟨hL, hr, hH⟩ hx (ar_pt 0) hg (show aw_t lv h none (.int 0) from trivial) rfl rfl
    have stp : sm_step K (.ifCond q off) 3 pc lv (.int x :: ws) h = some (if sm_cmp q x 0 = true then t else pc + 3, lv, ws, h) := by show (sm_j pc off).bind _ = _; rw [ht]; rfl
    have ih := ar_smcmp q x 0
    by_cases hc : sm_cmp q x 0 = true
    · obtain ⟨u, hu, e1, e2⟩ := b1 (ih.mp hc)
      refine hG pc _ _ lv _ h _ htb stp ?_
      rw [if_pos hc, ← e1]
      exact k u hu _ _ _ e2 fr hp fz
    · obtain ⟨u, hu, e1, e2⟩ := b2 (fun z => hc (ih.mpr z))
      refine hG pc _ _ lv _ h _ htb stp ?_
      rw [if_neg hc, ← e1]
      exact k u hu _ _ _ e2 fr hp fz
  | if_icmp q off =>
    have hs9 := sm_if hs
    clear hs
    obtain ⟨rfl, hs⟩ := hs9
    obtain ⟨t, ht, hs⟩ := sm_bd hs
    obtain ⟨rx, gx, ry, gy, r, x, y, ws, hs, rfl, hx, hy, hgx, hgy, hr⟩ := aw_i2_s hs hst
    cases hs
    obtain ⟨b1, b2⟩ := aw_br_s (q := q) (pt := t) (pf := pc + 3) (S := (L, r, H)) ⟨hL, hr, hH⟩ hx hy hgx hgy rfl rfl
    have stp : sm_step K (.if_icmp q off) 3 pc lv (.int y :: .int x :: ws) h = some (if sm_cmp q x y = true then t else pc + 3, lv, ws, h) := by show (sm_j pc off).bind _ = _; rw [ht]; rfl
    have ih := ar_smcmp q x y
    by_cases hc : sm_cmp q x y = true
    · obtain ⟨u, hu, e1, e2⟩ := b1 (ih.mp hc)
      refine hG pc _ _ lv _ h _ htb stp ?_
      rw [if_pos hc, ← e1]
      exact k u hu _ _ _ e2 fr hp fz
    · obtain ⟨u, hu, e1, e2⟩ := b2 (fun z => hc (ih.mpr z))
      refine hG pc _ _ lv _ h _ htb stp ?_
      rw [if_neg hc, ← e1]
      exact k u hu _ _ _ e2 fr hp fz
  | lcmp =>
    have hs9 := sm_if hs
    clear hs
    obtain ⟨rfl, hs⟩ := hs9
    obtain ⟨u, hu, hs⟩ := sm_bd hs
    split at hs
    · rename_i q off
      obtain ⟨t, ht, hs⟩ := sm_bd hs
      obtain ⟨rx, gx, ry, gy, r, x, y, ws, hs, rfl, hx, hy, hgx, hgy, hr⟩ := aw_l2_s hs hst
      cases hs
      obtain ⟨b1, b2⟩ := aw_br_s (q := q) (pt := t) (pf := pc + 1 + 3) (S := (L, r, H)) ⟨hL, hr, hH⟩ hx hy hgx hgy rfl rfl
      have stp : sm_step K (.ifCond q off) 3 (pc + 1) lv (.int (lg_cmp x y) :: ws) h = some (if sm_cmp q (lg_cmp x y) 0 = true then t else pc + 1 + 3, lv, ws, h) := by show (sm_j (pc + 1) off).bind _ = _; rw [ht]; rfl
      have ih := aw_lcmp q x y
      refine hG pc _ _ lv _ h (pc + 1, lv, .int (lg_cmp x y) :: ws, h) htb rfl ?_
      by_cases hc : sm_cmp q (lg_cmp x y) 0 = true
      · obtain ⟨u, hu2, e1, e2⟩ := b1 (ih.mp hc)
        refine hG (pc + 1) _ _ lv _ h _ hu stp ?_
        rw [if_pos hc, ← e1]
        exact k u hu2 _ _ _ e2 fr hp fz
      · obtain ⟨u, hu2, e1, e2⟩ := b2 (fun z => hc (ih.mpr z))
        refine hG (pc + 1) _ _ lv _ h _ hu stp ?_
        rw [if_neg hc, ← e1]
        exact k u hu2 _ _ _ e2 fr hp fz
    · cases hs
  | getstatic x =>
    have hs9 := sm_if hs
    clear hs
    obtain ⟨⟨rfl, hq⟩, hs⟩ := hs9
    cases hs
    exact hG pc _ _ lv st h (pc + 3, lv, .ref 999 :: st, h) htb (show (if _ then _ else _) = _ by rw [if_pos ⟨rfl, hq⟩]) (k _ List.mem_cons_self _ _ _ ⟨hL, ⟨rfl, trivial, hst⟩, hH⟩ fr hp fz)
  | tableswitch dflt lo hi offs =>
    have hs9 := sm_if hs
    clear hs
    obtain ⟨hhi, hs⟩ := hs9
    obtain ⟨rx, g, r, x, ws, hs, rfl, hx, hg, hr⟩ := aw_i1_s hs hst
    obtain ⟨t, ht, hs⟩ := sm_bd hs
    obtain ⟨l, hl, hs⟩ := sm_bd hs
    cases hs
    have O : aw_ok (L, r, H) lv ws h := ⟨hL, hr, hH⟩
    by_cases h1 : x.toInt < lo
    · have a := ar_le_s hx (show x.toInt ≤ lo - 1 by omega)
      refine hG pc _ _ lv _ h (t, lv, ws, h) htb (show (if _ then _ else _) = _ by rw [if_pos (Or.inl h1), ht]; rfl) ?_
      exact k (t, aw_rf g (ar_le rx (lo - 1)) (L, r, H)) (List.mem_append_left _ (by rw [aw_ne a]; exact List.mem_cons_self)) _ _ _ (aw_rf_s O hg rfl a) fr hp fz
    · by_cases h2 : hi < x.toInt
      · have a := ar_ge_s hx (show hi + 1 ≤ x.toInt by omega)
        refine hG pc _ _ lv _ h (t, lv, ws, h) htb (show (if _ then _ else _) = _ by rw [if_pos (Or.inr h2), ht]; rfl) ?_
        exact k (t, aw_rf g (ar_ge rx (hi + 1)) (L, r, H)) (List.mem_append_right _ (List.mem_append_left _ (by rw [aw_ne a]; exact List.mem_cons_self))) _ _ _ (aw_rf_s O hg rfl a) fr hp fz
      · obtain ⟨off, t2, g1, g2, u, hu, e1, e2⟩ := aw_sw_s O hx hg rfl hl (by omega) (by omega)
        rw [Array.getElem?_toList] at g1
        refine hG pc _ _ lv _ h (t2, lv, ws, h) htb (show (if _ then _ else _) = _ by rw [if_neg (by omega), g1]; show (sm_j pc off).bind _ = _; rw [g2]; rfl) ?_
        rw [← e1]
        exact k u (List.mem_append_right _ (List.mem_append_right _ hu)) _ _ _ e2 fr hp fz
  | aaload =>
    have hs9 := sm_if hs
    clear hs
    obtain ⟨rfl, hs⟩ := hs9
    obtain ⟨a, rx, g, r, x, ws, hs, rfl, hx, hg, hr⟩ := aw_ri_s hs hst
    split at hs
    · rename_i t cs hl
      obtain ⟨⟨c1, c2⟩, hs⟩ := sm_if hs
      cases hs
      obtain ⟨e, he, t2, t5, f, rfl, hf⟩ := hH _ (aw_lk hl)
      have O : aw_ok (L, r, H) lv ws h := ⟨hL, hr, hH⟩
      have hb := ar_h_s hx
      obtain ⟨b, g1, u, hu, e1, e2⟩ := aw_rw_s (pc := pc + 1) (bs := cs) (v := 0) O hx hg rfl (by omega) (by omega)
      have hix : (x.toInt - 0).toNat = x.toNatClampNeg := by rw [Int.sub_zero]; rfl
      rw [hix] at g1
      have hfb := hf _ _ g1
      have hrf : sm_refs h a = some (t, cs.length, f) := by
        unfold sm_refs
        rw [he]
        exact if_pos ⟨t2, t5⟩
      have hin := aw_in6 (n := cs.length) hb c1 c2
      refine hG pc _ _ lv _ h (pc + 1, lv, .ref b :: ws, h) htb (show (sm_refs h a).bind _ = _ by rw [hrf]; show (if _ then _ else _) = _; rw [if_neg hin]; show (f x.toNatClampNeg).bind _ = _; rw [hfb]; rfl) ?_
      have kk := k u hu _ _ _ e2 fr hp fz
      rw [e1] at kk
      exact kk
    · cases hs
  | getfield x =>
    have hs9 := sm_if hs
    clear hs
    obtain ⟨rfl, hs⟩ := hs9
    obtain ⟨a, r, ws, hs, rfl, hr⟩ := aw_r1_s hs hst
    obtain ⟨q, hq, hs⟩ := sm_bd hs
    split at hs
    · rename_i ci vs hl
      obtain ⟨hci, hs⟩ := sm_if hs
      obtain ⟨v, hv, hs⟩ := sm_bd hs
      cases hs
      obtain ⟨e, he, fs, rfl, hlen, hf⟩ := hH _ (aw_lk hl)
      subst hci
      have hlt : q.2.1 < fs.length := by rw [hlen]; exact (List.getElem?_eq_some_iff.mp hv).1
      have hw : fs[q.2.1]? = some fs[q.2.1] := List.getElem?_eq_getElem hlt
      have hob : sm_obj h a q.1 = some fs := by
        unfold sm_obj
        rw [he]
        exact if_pos rfl
      have hm := hf _ _ _ hv hw
      exact hG pc _ _ lv _ h (pc + 3, lv, fs[q.2.1] :: ws, h) htb (show (K.1 x).bind _ = _ by rw [hq]; show (sm_obj h a q.1).bind _ = _; rw [hob]; show (fs[q.2.1]?).bind _ = _; rw [hw]; rfl) (k _ List.mem_cons_self _ _ _ ⟨hL, ⟨hm, ⟨_, _, _, he, hw, rfl⟩, hr⟩, hH⟩ fr hp fz)
    · cases hs
  | arraylength =>
    have hs9 := sm_if hs
    clear hs
    obtain ⟨rfl, hs⟩ := hs9
    obtain ⟨a, r, ws, hs, rfl, hr⟩ := aw_r1_s hs hst
    obtain ⟨w, hw, hs⟩ := sm_bd hs
    obtain ⟨hlt, hs⟩ := sm_if hs
    cases hs
    obtain ⟨h8, hw⟩ := sm_ifn hw
    obtain ⟨n, sg, tr⟩ := w
    obtain ⟨f, he, -, -⟩ := aw_arr_s hH hw
    have hin : sm_ints h a = some (n, f) := aw_ints_of he
    have hv : ar_in (Int32.ofNat n).toInt [((n : Int), (n : Int))] := by
      have e : (Int32.ofNat n).toInt = (n : Int) := Int32.toInt_ofNat_of_lt hlt
      rw [e]
      exact ar_pt _
    have stp : sm_step K .arraylength 1 pc lv (.ref a :: ws) h = some (pc + 1, lv, .int (Int32.ofNat n) :: ws, h) := by
      show (match K.2.2.2.2.1 with
        | some q => if a = 998 then some (pc + 1, lv, Value.int (Int32.ofNat q.1) :: ws, h) else (sm_ints h a).bind fun w => some (pc + 1, lv, .int (Int32.ofNat w.1) :: ws, h)
        | none => (sm_ints h a).bind fun w => some (pc + 1, lv, Value.int (Int32.ofNat w.1) :: ws, h)) = _
      rw [hin]
      cases K.2.2.2.2.1 with
      | none => rfl
      | some q =>
        dsimp only
        rw [if_neg h8]
        rfl
    exact hG pc _ _ lv _ h _ htb stp (k _ List.mem_cons_self _ _ _ ⟨hL, ⟨⟨_, rfl, hv⟩, trivial, hr⟩, hH⟩ fr hp fz)
  | iaload =>
    have hs9 := sm_if hs
    clear hs
    obtain ⟨rfl, hs⟩ := hs9
    obtain ⟨a, rx, g, r, x, ws, hs, rfl, hx, hg, hr⟩ := aw_ri_s hs hst
    have hb := ar_h_s hx
    by_cases h9 : a = 999
    · rw [if_pos h9] at hs
      obtain ⟨⟨c1, c2⟩, hs⟩ := sm_if hs
      cases hs
      have hin := aw_in6 (n := 6) hb c1 c2
      exact hG pc _ _ lv _ h (pc + 1, lv, .int (sm_kl x.toNatClampNeg) :: ws, h) htb (show (if _ then _ else _) = _ by rw [if_pos h9, if_neg hin]) (k _ List.mem_cons_self _ _ _ ⟨hL, ⟨⟨_, rfl, ar_in32 _⟩, trivial, hr⟩, hH⟩ fr hp fz)
    · rw [if_neg h9] at hs
      obtain ⟨h8, hs⟩ := sm_ifn hs
      obtain ⟨⟨n, sg, tr⟩, hw, hs⟩ := sm_bd hs
      obtain ⟨⟨c1, c2⟩, hs⟩ := sm_if hs
      cases hs
      obtain ⟨f, he, hsg, htr⟩ := aw_arr_s hH hw
      have hin := aw_in6 (n := n) hb c1 c2
      have hii : sm_ints h a = some (n, f) := aw_ints_of he
      have hv := aw_ld_s hsg htr hb c1
      have tg : aw_t lv h (if (ar_h rx).1 = (ar_h rx).2 then some (2, a, (ar_h rx).1.toNat) else none) (.int (f x.toNatClampNeg)) := by
        split
        · rename_i hq
          have e : x.toNatClampNeg = (ar_h rx).1.toNat := by
            have := aw_ix (i := x) (by omega)
            omega
          refine ⟨_, _, _, he, ?_, by rw [e]; rfl⟩
          dsimp only at c2
          omega
        · trivial
      exact hG pc _ _ lv _ h (pc + 1, lv, .int (f x.toNatClampNeg) :: ws, h) htb (show (if _ then _ else _) = _ by rw [if_neg h9, if_neg h8, hii]; show (if _ then _ else _) = _; rw [if_neg hin]) (k _ List.mem_cons_self _ _ _ ⟨hL, ⟨⟨_, rfl, hv⟩, tg, hr⟩, hH⟩ fr hp fz)
  | baload =>
    have hs9 := sm_if hs
    clear hs
    obtain ⟨rfl, hs⟩ := hs9
    obtain ⟨a, rx, g, r, x, ws, hs, rfl, hx, hg, hr⟩ := aw_ri_s hs hst
    have hb := ar_h_s hx
    obtain ⟨⟨n, sg, tr⟩, hw, hs⟩ := sm_bd hs
    obtain ⟨⟨c1, c2⟩, hs⟩ := sm_if hs
    cases hs
    obtain ⟨f, he, hsg, htr⟩ := aw_arr_s hH hw
    have hin := aw_in6 (n := n) hb c1 c2
    have hii : sm_byts h a = some (n, f) := aw_byts_of he
    have hv := aw_ld_s hsg htr hb c1
    exact hG pc _ _ lv _ h (pc + 1, lv, .int (f x.toNatClampNeg) :: ws, h) htb (show (sm_byts h a).bind _ = _ by rw [hii]; show (if _ then _ else _) = _; rw [if_neg hin]) (k _ List.mem_cons_self _ _ _ ⟨hL, ⟨⟨_, rfl, hv⟩, trivial, hr⟩, hH⟩ fr hp fz)
  | iastore =>
    have hs9 := sm_if hs
    clear hs
    obtain ⟨rfl, hs⟩ := hs9
    obtain ⟨a, rx, rv, r, x, y, ws, hs, rfl, hx, hy, hr⟩ := aw_rii_s hs hst
    have hb := ar_h_s hx
    obtain ⟨⟨n, sg, tr⟩, hw, hs⟩ := sm_bd hs
    obtain ⟨⟨c1, c2, c3, c4⟩, hs⟩ := sm_if hs
    cases hs
    obtain ⟨f, he, hsg, htr⟩ := aw_arr_s hH hw
    have hin := aw_in6 (n := n) hb c1 c2
    have hii : sm_ints h a = some (n, f) := aw_ints_of he
    have hst2 := aw_wr_s hsg htr hb c1 (hy) c3
    have hlt : a < h.length := (List.getElem?_eq_some_iff.mp he).1
    have hH2 : aw_h (H.map fun q => if q.1 = a then (q.1, .inr (.inl (0, n, sg, aw_tr tr (ar_h rx) rv))) else q) (h.set a (.inl (0, n, .inl (upd f x.toNatClampNeg y)))) := by
      refine aw_h_map (a := a) (F := fun _ => .inr (.inl (0, n, sg, aw_tr tr (ar_h rx) rv))) hH (fun b hb => by rw [List.getElem?_set]; rw [if_neg (fun e => hb e.symm)]) ?_
      intro c _ e _ _
      exact ⟨_, by rw [List.getElem?_set, if_pos rfl, if_pos hlt], _, rfl, hst2.1, hst2.2⟩
    exact hG pc _ _ lv _ h (pc + 1, lv, ws, h.set a (.inl (0, n, .inl (upd f x.toNatClampNeg y)))) htb (show (sm_ints h a).bind _ = _ by rw [hii]; show (if _ then _ else _) = _; rw [if_neg hin]) (k _ List.mem_cons_self _ _ _ ⟨hL, aw_ch_s hr, hH2⟩ (aw_fr c4) (hPsi _ _ _ c4 hp) fz)
  | bastore =>
    have hs9 := sm_if hs
    clear hs
    obtain ⟨rfl, hs⟩ := hs9
    obtain ⟨a, rx, rv, r, x, y, ws, hs, rfl, hx, hy, hr⟩ := aw_rii_s hs hst
    have hb := ar_h_s hx
    obtain ⟨⟨n, sg, tr⟩, hw, hs⟩ := sm_bd hs
    obtain ⟨⟨c1, c2, c3, c4⟩, hs⟩ := sm_if hs
    cases hs
    obtain ⟨f, he, hsg, htr⟩ := aw_arr_s hH hw
    have hin := aw_in6 (n := n) hb c1 c2
    have hii : sm_byts h a = some (n, f) := aw_byts_of he
    have hst2 := aw_wr_s hsg htr hb c1 (aw_byte y) c3
    have hlt : a < h.length := (List.getElem?_eq_some_iff.mp he).1
    have hH2 : aw_h (H.map fun q => if q.1 = a then (q.1, .inr (.inl (1, n, sg, aw_tr tr (ar_h rx) [(-128, 127)]))) else q) (h.set a (.inl (1, n, .inl (upd f x.toNatClampNeg (vp_nar .byte y))))) := by
      refine aw_h_map (a := a) (F := fun _ => .inr (.inl (1, n, sg, aw_tr tr (ar_h rx) [(-128, 127)]))) hH (fun b hb => by rw [List.getElem?_set]; rw [if_neg (fun e => hb e.symm)]) ?_
      intro c _ e _ _
      exact ⟨_, by rw [List.getElem?_set, if_pos rfl, if_pos hlt], _, rfl, hst2.1, hst2.2⟩
    exact hG pc _ _ lv _ h (pc + 1, lv, ws, h.set a (.inl (1, n, .inl (upd f x.toNatClampNeg (vp_nar .byte y))))) htb (show (sm_byts h a).bind _ = _ by rw [hii]; show (if _ then _ else _) = _; rw [if_neg hin]) (k _ List.mem_cons_self _ _ _ ⟨hL, aw_ch_s hr, hH2⟩ (aw_fr c4) (hPsi _ _ _ c4 hp) fz)
  | putfield x =>
    have hs9 := sm_if hs
    clear hs
    obtain ⟨rfl, hs⟩ := hs9
    split at hs
    · rename_i b v g1 a g2 r heq
      have hst : aw_s lv h ((.inr (b, v), g1) :: (.inl a, g2) :: r) st := heq ▸ hst
      obtain ⟨q, hq, hs⟩ := sm_bd hs
      obtain ⟨⟨hqt, hwr⟩, hs⟩ := sm_if hs
      split at hs
      · rename_i ci vs hl
        obtain ⟨⟨hci, hlt⟩, hs⟩ := sm_if hs
        cases hs
        obtain ⟨w, ws1, hw1, hm, -, hr1⟩ := aw_s1 hst
        obtain ⟨w2, ws, hw2, hm2, -, hr⟩ := aw_s1 hr1
        subst hw1
        subst hw2
        have hm2 : w2 = .ref a := hm2
        subst hm2
        obtain ⟨e, he, fs, rfl, hlen, hf⟩ := hH _ (aw_lk hl)
        subst hci
        have hob : sm_obj h a q.1 = some fs := by
          unfold sm_obj
          rw [he]
          exact if_pos rfl
        have hlf : q.2.1 < fs.length := by rw [hlen]; exact hlt
        have hla : a < h.length := (List.getElem?_eq_some_iff.mp he).1
        have hH2 : aw_h (H.map fun p => if p.1 = a then (p.1, .inl (q.1, vs.set q.2.1 (.inr (b, v)))) else p) (h.set a (.inr (q.1, fs.set q.2.1 w))) := by
          refine aw_h_map (a := a) (F := fun _ => .inl (q.1, vs.set q.2.1 (.inr (b, v)))) hH (fun b hb => by rw [List.getElem?_set]; rw [if_neg (fun e => hb e.symm)]) ?_
          intro c _ e _ _
          refine ⟨_, by rw [List.getElem?_set, if_pos rfl, if_pos hla], _, rfl, by rw [List.length_set, List.length_set]; exact hlen, ?_⟩
          intro k' v' w' h1 h2
          rw [List.getElem?_set] at h1 h2
          by_cases hk : q.2.1 = k'
          · rw [if_pos hk] at h1 h2
            rw [if_pos (hk ▸ hlt)] at h1
            rw [if_pos (hk ▸ hlf)] at h2
            cases h1
            cases h2
            exact hm
          · rw [if_neg hk] at h1 h2
            exact hf k' v' w' h1 h2
        have stp : sm_step K (.putfield x) 3 pc lv (w :: .ref a :: ws) h = some (pc + 3, lv, ws, h.set a (.inr (q.1, fs.set q.2.1 w))) := by
          cases b with
          | false =>
            have hqt : q.2.2 = 0 := hqt
            obtain ⟨y, rfl, -⟩ := hm
            show (K.1 x).bind _ = _
            rw [hq]
            show (if _ then _ else _) = _
            rw [if_pos hqt, hob]
            show (if _ then _ else _) = _
            rw [if_pos hlf]
          | true =>
            have hqt : q.2.2 = 1 := hqt
            obtain ⟨y, rfl, -⟩ := hm
            show (K.1 x).bind _ = _
            rw [hq]
            show (if _ then _ else _) = _
            rw [if_pos hqt, hob]
            show (if _ then _ else _) = _
            rw [if_pos hlf]
        exact hG pc _ _ lv _ h _ htb stp (k _ List.mem_cons_self _ _ _ ⟨hL, aw_ch_s hr, hH2⟩ (aw_fr hwr) (hPsi _ _ _ hwr hp) fz)
      · cases hs
    · cases hs
  | dup =>
    have hs9 := sm_if hs
    clear hs
    obtain ⟨rfl, hs⟩ := hs9
    split at hs
    · rename_i v r heq
      have hst : aw_s lv h (v :: r) st := heq ▸ hst
      obtain ⟨hc, hs⟩ := sm_if hs
      cases hs
      obtain ⟨w, ws, rfl, hm, hg, hr⟩ := aw_s1 hst
      exact hG pc _ _ lv _ h (pc + 1, lv, w :: w :: ws, h) htb (show (if _ then _ else _) = _ by rw [if_pos (by rw [aw_cat_s hm]; exact hc)]) (k _ List.mem_cons_self _ _ _ ⟨hL, ⟨hm, hg, hm, hg, hr⟩, hH⟩ fr hp fz)
    · cases hs
  | pop =>
    have hs9 := sm_if hs
    clear hs
    obtain ⟨rfl, hs⟩ := hs9
    split at hs
    · rename_i v r heq
      have hst : aw_s lv h (v :: r) st := heq ▸ hst
      obtain ⟨hc, hs⟩ := sm_if hs
      cases hs
      obtain ⟨w, ws, rfl, hm, hg, hr⟩ := aw_s1 hst
      exact hG pc _ _ lv _ h (pc + 1, lv, ws, h) htb (show (if _ then _ else _) = _ by rw [if_pos (by rw [aw_cat_s hm]; exact hc)]) (k _ List.mem_cons_self _ _ _ ⟨hL, hr, hH⟩ fr hp fz)
    · cases hs
  | pop2 =>
    have hs9 := sm_if hs
    clear hs
    obtain ⟨rfl, hs⟩ := hs9
    split at hs
    · rename_i v r heq
      have hst : aw_s lv h (v :: r) st := heq ▸ hst
      obtain ⟨hc, hs⟩ := sm_if hs
      cases hs
      obtain ⟨w, ws, rfl, hm, hg, hr⟩ := aw_s1 hst
      exact hG pc _ _ lv _ h (pc + 1, lv, ws, h) htb (show (if _ then _ else _) = _ by rw [if_pos (by rw [aw_cat_s hm]; exact hc)]) (k _ List.mem_cons_self _ _ _ ⟨hL, hr, hH⟩ fr hp fz)
    · cases hs
  | dup2 =>
    have hs9 := sm_if hs
    clear hs
    obtain ⟨rfl, hs⟩ := hs9
    split at hs
    · rename_i v v2 r heq
      have hst : aw_s lv h (v :: v2 :: r) st := heq ▸ hst
      obtain ⟨hc, hs⟩ := sm_if hs
      cases hs
      obtain ⟨w, ws1, hw1, hm, hg, hr1⟩ := aw_s1 hst
      obtain ⟨w2, ws, hw2, hm2, hg2, hr⟩ := aw_s1 hr1
      subst hw1
      subst hw2
      exact hG pc _ _ lv _ h (pc + 1, lv, w :: w2 :: w :: w2 :: ws, h) htb (show (if _ then _ else _) = _ by rw [if_pos ⟨by rw [aw_cat_s hm]; exact hc.1, by rw [aw_cat_s hm2]; exact hc.2⟩]) (k _ List.mem_cons_self _ _ _ ⟨hL, ⟨hm, hg, hm2, hg2, hm, hg, hm2, hg2, hr⟩, hH⟩ fr hp fz)
    · cases hs
  | invokestatic x =>
    have hs9 := sm_if hs
    clear hs
    obtain ⟨rfl, hs⟩ := hs9
    obtain ⟨q, hq, hs⟩ := sm_bd hs
    split at hs
    · obtain ⟨rx, gx, ry, gy, r, x1, y, ws, hs, rfl, hx, hy, -, -, hr⟩ := aw_i2_s hs hst
      obtain ⟨hc, hs⟩ := sm_if hs
      cases hs
      have a := ar_h_s hx
      have b := ar_h_s hy
      have hv : ar_in (if x1 < y then y else x1).toInt (aw_mx (ar_h rx) (ar_h ry)) := by
        by_cases hlt : x1 < y
        · have hz := Int32.lt_iff_toInt_lt.mp hlt
          rw [if_pos hlt]
          refine ⟨_, List.mem_cons_self, ?_, ?_⟩ <;> (dsimp only; unfold ar_max; split <;> omega)
        · have hz : ¬ x1.toInt < y.toInt := fun z => hlt (Int32.lt_iff_toInt_lt.mpr z)
          rw [if_neg hlt]
          refine ⟨_, List.mem_cons_self, ?_, ?_⟩ <;> (dsimp only; unfold ar_max; split <;> omega)
      exact hG pc _ _ lv _ h (pc + 3, lv, .int (if x1 < y then y else x1) :: ws, h) htb (show (K.2.2.2.2.2.2 x).bind _ = _ by rw [hq]; show (if _ then _ else _) = _; rw [if_pos (by rw [aw_cats_s hr]; exact hc)]) (k _ List.mem_cons_self _ _ _ ⟨hL, ⟨⟨_, rfl, hv⟩, trivial, hr⟩, hH⟩ fr hp fz)
    · obtain ⟨rx, gx, ry, gy, r, x1, y, ws, hs, rfl, hx, hy, -, -, hr⟩ := aw_i2_s hs hst
      obtain ⟨hc, hs⟩ := sm_if hs
      cases hs
      have a := ar_h_s hx
      have b := ar_h_s hy
      have hv : ar_in (if y < x1 then y else x1).toInt (aw_mn (ar_h rx) (ar_h ry)) := by
        by_cases hlt : y < x1
        · have hz := Int32.lt_iff_toInt_lt.mp hlt
          rw [if_pos hlt]
          refine ⟨_, List.mem_cons_self, ?_, ?_⟩ <;> (dsimp only; unfold ar_min; split <;> omega)
        · have hz : ¬ y.toInt < x1.toInt := fun z => hlt (Int32.lt_iff_toInt_lt.mpr z)
          rw [if_neg hlt]
          refine ⟨_, List.mem_cons_self, ?_, ?_⟩ <;> (dsimp only; unfold ar_min; split <;> omega)
      exact hG pc _ _ lv _ h (pc + 3, lv, .int (if y < x1 then y else x1) :: ws, h) htb (show (K.2.2.2.2.2.2 x).bind _ = _ by rw [hq]; show (if _ then _ else _) = _; rw [if_pos (by rw [aw_cats_s hr]; exact hc)]) (k _ List.mem_cons_self _ _ _ ⟨hL, ⟨⟨_, rfl, hv⟩, trivial, hr⟩, hH⟩ fr hp fz)
    · obtain ⟨rx, gx, r, x1, ws, hs, rfl, hx, -, hr⟩ := aw_i1_s hs hst
      obtain ⟨hc, hs⟩ := sm_if hs
      cases hs
      have a := ar_h_s hx
      have hv : ar_in (if 0 ≤ x1 then x1 else 0 - x1).toInt (aw_ab (ar_h rx)) := by
        unfold aw_ab
        by_cases hlo : -2147483648 < (ar_h rx).1
        · rw [if_pos hlo]
          have z0 : (0 : Int32).toInt = 0 := rfl
          have hi := x1.toInt_lt
          refine ⟨_, List.mem_cons_self, ?_⟩
          by_cases hx0 : 0 ≤ x1
          · rw [if_pos hx0]
            have := Int32.le_iff_toInt_le.mp hx0
            dsimp only
            unfold ar_max
            refine ⟨?_, ?_⟩ <;> (repeat' split) <;> omega
          · rw [if_neg hx0]
            have hn : ¬ 0 ≤ x1.toInt := fun z => hx0 (Int32.le_iff_toInt_le.mpr (by rw [z0]; exact z))
            rw [Int32.toInt_sub, z0, Int.bmod_eq_of_le (by omega) (by omega)]
            dsimp only
            unfold ar_max
            refine ⟨?_, ?_⟩ <;> (repeat' split) <;> omega
        · rw [if_neg hlo]
          exact ar_in32 _
      exact hG pc _ _ lv _ h (pc + 3, lv, .int (if 0 ≤ x1 then x1 else 0 - x1) :: ws, h) htb (show (K.2.2.2.2.2.2 x).bind _ = _ by rw [hq]; show (if _ then _ else _) = _; rw [if_pos (by rw [aw_cats_s hr]; exact hc)]) (k _ List.mem_cons_self _ _ _ ⟨hL, ⟨⟨_, rfl, hv⟩, trivial, hr⟩, hH⟩ fr hp fz)
    · cases hs
  | _ => cases hs
end AWT
