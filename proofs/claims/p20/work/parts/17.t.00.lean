/-! Forwards: that a run is there. The flat state is known exactly; places of rows are to be shown in range. -/
def fw_lr (nL : Nat) (lv : sm_L) (ls : List Value) : Prop := fl_lr nL lv ls ∧ ∀ (i : Nat) (v : Value), ls[i]? = some v → v ≠ .null → sm_get lv i = some v
def fw_H (M : fl_M) (J : fl_J) (h : List va_E) : Prop := fl_sh h ∧ fm_i h = M ∧ fm_l h = J
/-- a run from this state is there -/
def fw (d : Nat) (B : sm_P) (s : fl_S) : Prop := ∀ (h : List va_E) (lv : sm_L), fw_H s.2.2.2.1 s.2.2.2.2 h → fw_lr B.2.1.2.2.2.2.2.1 lv s.2.1 → ∃ g o h', sm_rn B (sm_Ex 200 sm_ML sm_B d) g s.1 lv s.2.2.1 h o h'
/-- what can be seen of a step without the memory -/
def fw_i (v : Option Value) : Bool := match v with
  | some (.int _) => true
  | _ => false
def fw_l (v : Option Value) : Bool := match v with
  | some (.long _) => true
  | _ => false
def fw_r (v : Option Value) : Bool := match v with
  | some (.ref _) => true
  | _ => false
/-- nothing is lost of other locals when place k is written -/
def fw_p (k : Nat) (ls : List Value) : Bool := match k with
  | 0 => true
  | k + 1 => (match ls[k]? with
    | some v => Nat.beq v.category 1
    | none => true)
def fw_c (K : sm_K) (i : Instr) (n pc : Nat) (ls st : List Value) : Bool := match i with
  | .iconst _ => Nat.beq n 1
  | .bipush _ => Nat.beq n 2
  | .sipush _ => Nat.beq n 3
  | .iload_n k => Nat.beq n 1 && fw_i ls[(k : Nat)]?
  | .iload k => Nat.beq n 2 && fw_i ls[k]?
  | .lload_n k => Nat.beq n 1 && fw_l ls[(k : Nat)]?
  | .lload k => Nat.beq n 2 && fw_l ls[k]?
  | .aload_n k => Nat.beq n 1 && fw_r ls[(k : Nat)]?
  | .istore_n k => Nat.beq n 1 && (Nat.blt k K.2.2.2.2.2.1 && (fw_i st[0]? && fw_p k ls))
  | .istore k => Nat.beq n 2 && (Nat.blt k K.2.2.2.2.2.1 && (fw_i st[0]? && fw_p k ls))
  | .astore_n k => Nat.beq n 1 && (Nat.blt k K.2.2.2.2.2.1 && (fw_r st[0]? && fw_p k ls))
  | .iinc k _ => Nat.beq n 3 && (Nat.blt k K.2.2.2.2.2.1 && (fw_i ls[k]? && fw_p k ls))
  | .iadd => Nat.beq n 1 && (fw_i st[0]? && fw_i st[1]?)
  | .isub => Nat.beq n 1 && (fw_i st[0]? && fw_i st[1]?)
  | .imul => Nat.beq n 1 && (fw_i st[0]? && fw_i st[1]?)
  | .i2l => Nat.beq n 1 && fw_i st[0]?
  | .lconst _ => Nat.beq n 1
  | .ldc2_w x => Nat.beq n 3 && (K.2.2.1 x).isSome
  | .lcmp => Nat.beq n 1 && (fw_l st[0]? && fw_l st[1]?)
  | .goto off => Nat.beq n 3 && (sm_j pc off).isSome
  | .ifCond _ off => Nat.beq n 3 && ((sm_j pc off).isSome && fw_i st[0]?)
  | .if_icmp _ off => Nat.beq n 3 && ((sm_j pc off).isSome && (fw_i st[0]? && fw_i st[1]?))
  | .getstatic x => Nat.beq n 3 && K.2.2.2.1 x
  | .getfield x => Nat.beq n 3 && (match st, K.1 x with
    | .ref a :: _, some q => Nat.beq (fl_kd a) (10 + q.1) && Nat.blt q.2.1 (fl_nf q.1)
    | _, _ => false)
  | .putfield x => Nat.beq n 3 && (match st, K.1 x with
    | .int _ :: .ref a :: _, some q => Nat.beq (fl_kd a) (10 + q.1) && (Nat.blt q.2.1 (fl_nf q.1) && Nat.beq q.2.2 0)
    | _, _ => false)
  | .dup => Nat.beq n 1 && (fw_i st[0]? || fw_r st[0]?)
  | _ => false
theorem fw_is {v : Option Value} (h : fw_i v = true) : ∃ x, v = some (.int x) := by
  unfold fw_i at h
  split at h
  · exact ⟨_, rfl⟩
  · cases h
theorem fw_ls {v : Option Value} (h : fw_l v = true) : ∃ x, v = some (.long x) := by
  unfold fw_l at h
  split at h
  · exact ⟨_, rfl⟩
  · cases h
theorem fw_rs {v : Option Value} (h : fw_r v = true) : ∃ x, v = some (.ref x) := by
  unfold fw_r at h
  split at h
  · exact ⟨_, rfl⟩
  · cases h
theorem fw_s0 {st : List Value} {v : Value} (h : st[0]? = some v) : ∃ r, st = v :: r := by
  cases st with
  | nil => cases h
  | cons w r => cases h; exact ⟨r, rfl⟩
theorem fw_s1 {st : List Value} {v w : Value} (h : st[0]? = some v) (h1 : st[1]? = some w) : ∃ r, st = v :: w :: r := by
  obtain ⟨r, rfl⟩ := fw_s0 h
  cases r with
  | nil => cases h1
  | cons u r => cases h1; exact ⟨r, rfl⟩
theorem fw_no1 {k t ci : Nat} (h1 : k = t) (h2 : t < 2) (h3 : k = 10 + ci) : False := by omega
theorem fw_no2 {k t ci : Nat} (h1 : k = t) (h2 : 2 ≤ t ∧ t < 5) (h3 : k = 10 + ci) : False := by omega
theorem fw_no3 {k t t' : Nat} (h1 : k = t') (h2 : 2 ≤ t' ∧ t' < 5) (h3 : k = t) (h4 : t < 2) : False := by omega
theorem fw_no4 {k t t' : Nat} (h1 : k = t') (h2 : t' < 2) (h3 : k = t) (h4 : 2 ≤ t) : False := by omega
theorem fw_no5 {k t ci : Nat} (h1 : k = 10 + ci) (h2 : k = t) (h3 : t < 5) : False := by omega
theorem fw_kk {k t t' : Nat} (h1 : k = t') (h3 : k = t) : t' = t := by omega
theorem fw_98 {a : Nat} {z : Nat} (hk : fl_kd a = z) (hz : z ≠ 99) : a < 98 := by
  rcases Nat.lt_or_ge a 98 with h1 | h1
  · exact h1
  · unfold fl_kd at hk
    rw [List.getD_eq_getElem?_getD, List.getElem?_eq_none h1] at hk
    exact (hz hk.symm).elim
/-- a cell that the flat machine knows -/
theorem fw_obj {h : List va_E} (hh : fl_sh h) {a ci : Nat} (hk : fl_kd a = 10 + ci) (hl : ci < 4) : ∃ fs, sm_obj h a ci = some fs ∧ fs.length = fl_nf ci := by
  have ha := fw_98 hk (by omega)
  obtain ⟨e, he⟩ : ∃ e, h[a]? = some e := ⟨_, List.getElem?_eq_getElem (by rw [hh.1]; exact ha)⟩
  have hc := hh.2 a e he
  unfold fl_ce at hc
  split at hc
  · rename_i ci' fs
    have e1 : ci' = ci := by omega
    subst e1
    exact ⟨fs, by unfold sm_obj; rw [he]; exact if_pos rfl, hc.2.1⟩
  · exact (fw_no1 hc.1.1 hc.1.2 hk).elim
  · exact (fw_no2 hc.1.1 hc.1.2 hk).elim
  · exact hc.elim
theorem fw_arr {h : List va_E} (hh : fl_sh h) {a t : Nat} (hk : fl_kd a = t) (ht : t < 2) (hp : a < 98) : h[a]? = some (.inl (t, fl_len a, .inl (fm_i h a))) := by
  obtain ⟨e, he⟩ : ∃ e, h[a]? = some e := ⟨_, List.getElem?_eq_getElem (by rw [hh.1]; exact hp)⟩
  have hc := hh.2 a e he
  unfold fl_ce at hc
  split at hc
  · exact (fw_no5 hc.1 hk (by omega)).elim
  · rename_i t' n f
    have e1 := fw_kk hc.1.1 hk
    subst e1
    rw [fm_i_arr hh he, ← hc.2]
    exact he
  · exact (fw_no3 hc.1.1 hc.1.2 hk ht).elim
  · exact hc.elim
theorem fw_refs {h : List va_E} (hh : fl_sh h) {a t : Nat} (hk : fl_kd a = t) (h2 : 2 ≤ t) (ht : t < 5) (hp : a < 98) : ∃ f, h[a]? = some (.inl (t, fl_len a, .inr (.inr (.inr (.inr f))))) ∧ ∀ j, j < fl_len a → f j = some (fl_ar a j) := by
  obtain ⟨e, he⟩ : ∃ e, h[a]? = some e := ⟨_, List.getElem?_eq_getElem (by rw [hh.1]; exact hp)⟩
  have hc := hh.2 a e he
  unfold fl_ce at hc
  split at hc
  · exact (fw_no5 hc.1 hk ht).elim
  · exact (fw_no4 hc.1.1 hc.1.2 hk h2).elim
  · rename_i t' n f
    have e1 := fw_kk hc.1.1 hk
    subst e1
    refine ⟨f, by rw [← hc.2.1]; exact he, fun j hj => hc.2.2 j (by rw [hc.2.1]; exact hj)⟩
  · exact hc.elim
theorem fw_filt {lv : sm_L} {p : Nat × Value → Bool} {i : Nat} {w : Value} (h : sm_get lv i = some w) (hp : p (i, w) = true) : sm_get (lv.filter p) i = some w := by
  induction lv with
  | nil => cases h
  | cons q r ih =>
    unfold sm_get at h
    by_cases hq : q.1 = i
    · rw [if_pos hq] at h
      cases h
      have e : p q = true := by rw [← hq] at hp; exact hp
      rw [List.filter_cons_of_pos e]
      unfold sm_get
      rw [if_pos hq]
    · rw [if_neg hq] at h
      have ih := ih h
      by_cases e : p q = true
      · rw [List.filter_cons_of_pos e]
        unfold sm_get
        rw [if_neg hq]
        exact ih
      · rw [List.filter_cons_of_neg e]
        exact ih
theorem fw_put {nL : Nat} {lv : sm_L} {ls : List Value} (h : fw_lr nL lv ls) {k : Nat} (hk : k < nL) (hp : fw_p k ls = true) (v : Value) : fw_lr nL (sm_put1 lv k v) (ls.set k v) := by
  refine ⟨fl_lr_put1 h.1 hk v, fun i w hi hw => ?_⟩
  by_cases hik : k = i
  · subst hik
    rw [List.getElem?_set_self (by rw [h.1.1]; exact hk)] at hi
    cases hi
    unfold sm_put1 sm_get
    exact if_pos rfl
  · rw [List.getElem?_set_ne hik] at hi
    have hg := h.2 i w hi hw
    unfold sm_put1 sm_get
    rw [if_neg hik]
    refine fw_filt hg ?_
    have e1 : (i == k) = false := by simp; omega
    dsimp only
    rw [e1]
    by_cases hc : i + 1 = k
    · subst hc
      unfold fw_p at hp
      dsimp only at hp
      rw [hi] at hp
      have hp := Nat.eq_of_beq_eq_true hp
      rw [hp]
      simp
    · have e2 : (i + 1 == k) = false := by simp; omega
      rw [e2]
      rfl
/-- a step that needs nothing of the memory -/
def fw_G (K : sm_K) (i : Instr) (n pc : Nat) (lv : sm_L) (ls st : List Value) (h : List va_E) : Prop := ∃ (t : sm_T) (ls' : List Value), sm_step K i n pc lv st h = some t ∧ fl_step K i pc ls st (fm_i h) (fm_l h) = some (t.1, ls', t.2.2.1, fm_i t.2.2.2, fm_l t.2.2.2) ∧ fl_sh t.2.2.2 ∧ fw_lr K.2.2.2.2.2.1 t.2.1 ls'
theorem fw_nn {x : Int32} : (Value.int x) ≠ .null := by intro z; cases z
theorem fw_nl {x : Int64} : (Value.long x) ≠ .null := by intro z; cases z
theorem fw_nr {x : Nat} : (Value.ref x) ≠ .null := by intro z; cases z
set_option maxHeartbeats 4000000 in
theorem fw_st {K : sm_K} (hK : fl_K K) (hC : ∀ x q, K.1 x = some q → q.1 < 4) {i : Instr} {n pc : Nat} {lv : sm_L} {ls st : List Value} {h : List va_E} (hc : fw_c K i n pc ls st = true) (hh : fl_sh h) (hl : fw_lr K.2.2.2.2.2.1 lv ls) : fw_G K i n pc lv ls st h := by
  cases i with
  | iconst v =>
    have hn := Nat.eq_of_beq_eq_true hc
    subst hn
    exact ⟨(pc + 1, lv, .int (Int32.ofInt v) :: st, h), ls, rfl, rfl, hh, hl⟩
  | bipush v =>
    have hn := Nat.eq_of_beq_eq_true hc
    subst hn
    exact ⟨(pc + 2, lv, .int (Int8.ofInt v).toInt32 :: st, h), ls, rfl, rfl, hh, hl⟩
  | sipush v =>
    have hn := Nat.eq_of_beq_eq_true hc
    subst hn
    exact ⟨(pc + 3, lv, .int (Int16.ofInt v).toInt32 :: st, h), ls, rfl, rfl, hh, hl⟩
  | lconst v =>
    have hn := Nat.eq_of_beq_eq_true hc
    subst hn
    exact ⟨(pc + 1, lv, .long (Int64.ofNat (v : Nat)) :: st, h), ls, rfl, rfl, hh, hl⟩
  | ldc2_w x =>
    obtain ⟨h0, hc⟩ := sm_an hc
    have hn := Nat.eq_of_beq_eq_true h0
    subst hn
    obtain ⟨v, hv⟩ := Option.isSome_iff_exists.mp hc
    refine ⟨(pc + 3, lv, .long v :: st, h), ls, ?_, ?_, hh, hl⟩
    · show (K.2.2.1 x).bind _ = _
      rw [hv]
      rfl
    · show (K.2.2.1 x).bind _ = _
      rw [hv]
      rfl
  | iload_n k =>
    obtain ⟨h0, hc⟩ := sm_an hc
    have hn := Nat.eq_of_beq_eq_true h0
    subst hn
    obtain ⟨x, hx⟩ := fw_is hc
    have hg := hl.2 _ _ hx fw_nn
    refine ⟨(pc + 1, lv, .int x :: st, h), ls, ?_, ?_, hh, hl⟩
    · show (sm_get lv (k : Nat)).bind _ = _
      rw [hg]
      rfl
    · show (ls[(k : Nat)]?).bind _ = _
      rw [hx]
      rfl
  | iload k =>
    obtain ⟨h0, hc⟩ := sm_an hc
    have hn := Nat.eq_of_beq_eq_true h0
    subst hn
    obtain ⟨x, hx⟩ := fw_is hc
    have hg := hl.2 _ _ hx fw_nn
    refine ⟨(pc + 2, lv, .int x :: st, h), ls, ?_, ?_, hh, hl⟩
    · show (sm_get lv k).bind _ = _
      rw [hg]
      rfl
    · show (ls[k]?).bind _ = _
      rw [hx]
      rfl
  | lload_n k =>
    obtain ⟨h0, hc⟩ := sm_an hc
    have hn := Nat.eq_of_beq_eq_true h0
    subst hn
    obtain ⟨x, hx⟩ := fw_ls hc
    have hg := hl.2 _ _ hx fw_nl
    refine ⟨(pc + 1, lv, .long x :: st, h), ls, ?_, ?_, hh, hl⟩
    · show (sm_get lv (k : Nat)).bind _ = _
      rw [hg]
      rfl
    · show (ls[(k : Nat)]?).bind _ = _
      rw [hx]
      rfl
  | lload k =>
    obtain ⟨h0, hc⟩ := sm_an hc
    have hn := Nat.eq_of_beq_eq_true h0
    subst hn
    obtain ⟨x, hx⟩ := fw_ls hc
    have hg := hl.2 _ _ hx fw_nl
    refine ⟨(pc + 2, lv, .long x :: st, h), ls, ?_, ?_, hh, hl⟩
    · show (sm_get lv k).bind _ = _
      rw [hg]
      rfl
    · show (ls[k]?).bind _ = _
      rw [hx]
      rfl
  | aload_n k =>
    obtain ⟨h0, hc⟩ := sm_an hc
    have hn := Nat.eq_of_beq_eq_true h0
    subst hn
    obtain ⟨x, hx⟩ := fw_rs hc
    have hg := hl.2 _ _ hx fw_nr
    refine ⟨(pc + 1, lv, .ref x :: st, h), ls, ?_, ?_, hh, hl⟩
    · show (sm_get lv (k : Nat)).bind _ = _
      rw [hg]
      rfl
    · show (ls[(k : Nat)]?).bind _ = _
      rw [hx]
      rfl
  | istore_n k =>
    obtain ⟨h0, hc⟩ := sm_an hc
    have hn := Nat.eq_of_beq_eq_true h0
    subst hn
    obtain ⟨h1, hc⟩ := sm_an hc
    obtain ⟨h2, h3⟩ := sm_an hc
    have h1 : (k : Nat) < K.2.2.2.2.2.1 := Nat.le_of_ble_eq_true h1
    obtain ⟨x, hx⟩ := fw_is h2
    obtain ⟨r, rfl⟩ := fw_s0 hx
    refine ⟨(pc + 1, sm_put1 lv k (.int x), r, h), ls.set k (.int x), ?_, rfl, hh, fw_put hl h1 h3 _⟩
    show (if 1 = 1 ∧ (k : Nat) < K.2.2.2.2.2.1 then _ else _) = _
    rw [if_pos ⟨rfl, h1⟩]
    rfl
  | istore k =>
    obtain ⟨h0, hc⟩ := sm_an hc
    have hn := Nat.eq_of_beq_eq_true h0
    subst hn
    obtain ⟨h1, hc⟩ := sm_an hc
    obtain ⟨h2, h3⟩ := sm_an hc
    have h1 : k < K.2.2.2.2.2.1 := Nat.le_of_ble_eq_true h1
    obtain ⟨x, hx⟩ := fw_is h2
    obtain ⟨r, rfl⟩ := fw_s0 hx
    refine ⟨(pc + 2, sm_put1 lv k (.int x), r, h), ls.set k (.int x), ?_, rfl, hh, fw_put hl h1 h3 _⟩
    show (if 2 = 2 ∧ k < K.2.2.2.2.2.1 then _ else _) = _
    rw [if_pos ⟨rfl, h1⟩]
    rfl
  | astore_n k =>
    obtain ⟨h0, hc⟩ := sm_an hc
    have hn := Nat.eq_of_beq_eq_true h0
    subst hn
    obtain ⟨h1, hc⟩ := sm_an hc
    obtain ⟨h2, h3⟩ := sm_an hc
    have h1 : (k : Nat) < K.2.2.2.2.2.1 := Nat.le_of_ble_eq_true h1
    obtain ⟨x, hx⟩ := fw_rs h2
    obtain ⟨r, rfl⟩ := fw_s0 hx
    refine ⟨(pc + 1, sm_put1 lv k (.ref x), r, h), ls.set k (.ref x), ?_, rfl, hh, fw_put hl h1 h3 _⟩
    show (if 1 = 1 ∧ (k : Nat) < K.2.2.2.2.2.1 then _ else _) = _
    rw [if_pos ⟨rfl, h1⟩]
    rfl
  | iinc k v =>
    obtain ⟨h0, hc⟩ := sm_an hc
    have hn := Nat.eq_of_beq_eq_true h0
    subst hn
    obtain ⟨h1, hc⟩ := sm_an hc
    obtain ⟨h2, h3⟩ := sm_an hc
    have h1 : k < K.2.2.2.2.2.1 := Nat.le_of_ble_eq_true h1
    obtain ⟨x, hx⟩ := fw_is h2
    have hg := hl.2 _ _ hx fw_nn
    refine ⟨(pc + 3, sm_put1 lv k (.int (x + Int32.ofInt v)), st, h), ls.set k (.int (x + Int32.ofInt v)), ?_, ?_, hh, fw_put hl h1 h3 _⟩
    · show (if 3 = 3 ∧ k < K.2.2.2.2.2.1 then (sm_get lv k).bind _ else _) = _
      rw [if_pos ⟨rfl, h1⟩, hg]
      rfl
    · show (ls[k]?).bind _ = _
      rw [hx]
      rfl
  | iadd =>
    obtain ⟨h0, hc⟩ := sm_an hc
    have hn := Nat.eq_of_beq_eq_true h0
    subst hn
    obtain ⟨h1, h2⟩ := sm_an hc
    obtain ⟨y, hy⟩ := fw_is h1
    obtain ⟨x, hx⟩ := fw_is h2
    obtain ⟨r, rfl⟩ := fw_s1 hy hx
    exact ⟨(pc + 1, lv, .int (x + y) :: r, h), ls, rfl, rfl, hh, hl⟩
  | isub =>
    obtain ⟨h0, hc⟩ := sm_an hc
    have hn := Nat.eq_of_beq_eq_true h0
    subst hn
    obtain ⟨h1, h2⟩ := sm_an hc
    obtain ⟨y, hy⟩ := fw_is h1
    obtain ⟨x, hx⟩ := fw_is h2
    obtain ⟨r, rfl⟩ := fw_s1 hy hx
    exact ⟨(pc + 1, lv, .int (x - y) :: r, h), ls, rfl, rfl, hh, hl⟩
  | imul =>
    obtain ⟨h0, hc⟩ := sm_an hc
    have hn := Nat.eq_of_beq_eq_true h0
    subst hn
    obtain ⟨h1, h2⟩ := sm_an hc
    obtain ⟨y, hy⟩ := fw_is h1
    obtain ⟨x, hx⟩ := fw_is h2
    obtain ⟨r, rfl⟩ := fw_s1 hy hx
    exact ⟨(pc + 1, lv, .int (x * y) :: r, h), ls, rfl, rfl, hh, hl⟩
  | lcmp =>
    obtain ⟨h0, hc⟩ := sm_an hc
    have hn := Nat.eq_of_beq_eq_true h0
    subst hn
    obtain ⟨h1, h2⟩ := sm_an hc
    obtain ⟨y, hy⟩ := fw_ls h1
    obtain ⟨x, hx⟩ := fw_ls h2
    obtain ⟨r, rfl⟩ := fw_s1 hy hx
    exact ⟨(pc + 1, lv, .int (lg_cmp x y) :: r, h), ls, rfl, rfl, hh, hl⟩
  | i2l =>
    obtain ⟨h0, hc⟩ := sm_an hc
    have hn := Nat.eq_of_beq_eq_true h0
    subst hn
    obtain ⟨x, hx⟩ := fw_is hc
    obtain ⟨r, rfl⟩ := fw_s0 hx
    exact ⟨(pc + 1, lv, .long x.toInt64 :: r, h), ls, rfl, rfl, hh, hl⟩
  | goto off =>
    obtain ⟨h0, hc⟩ := sm_an hc
    have hn := Nat.eq_of_beq_eq_true h0
    subst hn
    obtain ⟨t, ht⟩ := Option.isSome_iff_exists.mp hc
    refine ⟨(t, lv, st, h), ls, ?_, ?_, hh, hl⟩
    · show (sm_j pc off).bind _ = _
      rw [ht]
      rfl
    · show (sm_j pc off).bind _ = _
      rw [ht]
      rfl
  | ifCond q off =>
    obtain ⟨h0, hc⟩ := sm_an hc
    have hn := Nat.eq_of_beq_eq_true h0
    subst hn
    obtain ⟨h1, h2⟩ := sm_an hc
    obtain ⟨t, ht⟩ := Option.isSome_iff_exists.mp h1
    obtain ⟨x, hx⟩ := fw_is h2
    obtain ⟨r, rfl⟩ := fw_s0 hx
    refine ⟨(if sm_cmp q x 0 = true then t else pc + 3, lv, r, h), ls, ?_, ?_, hh, hl⟩
    · show (sm_j pc off).bind _ = _
      rw [ht]
      rfl
    · show (sm_j pc off).bind _ = _
      rw [ht]
      rfl
  | if_icmp q off =>
    obtain ⟨h0, hc⟩ := sm_an hc
    have hn := Nat.eq_of_beq_eq_true h0
    subst hn
    obtain ⟨h1, h2⟩ := sm_an hc
    obtain ⟨h2, h3⟩ := sm_an h2
    obtain ⟨t, ht⟩ := Option.isSome_iff_exists.mp h1
    obtain ⟨y, hy⟩ := fw_is h2
    obtain ⟨x, hx⟩ := fw_is h3
    obtain ⟨r, rfl⟩ := fw_s1 hy hx
    refine ⟨(if sm_cmp q x y = true then t else pc + 3, lv, r, h), ls, ?_, ?_, hh, hl⟩
    · show (sm_j pc off).bind _ = _
      rw [ht]
      rfl
    · show (sm_j pc off).bind _ = _
      rw [ht]
      rfl
  | getstatic x =>
    obtain ⟨h0, hc⟩ := sm_an hc
    have hn := Nat.eq_of_beq_eq_true h0
    subst hn
    refine ⟨(pc + 3, lv, .ref 999 :: st, h), ls, ?_, rfl, hh, hl⟩
    show (if 3 = 3 ∧ K.2.2.2.1 x = true then _ else _) = _
    rw [if_pos ⟨rfl, hc⟩]
  | getfield x =>
    obtain ⟨h0, hc2⟩ := sm_an hc
    have hn := Nat.eq_of_beq_eq_true h0
    subst hn
    clear hc
    split at hc2
    · rename_i a r q hq
      obtain ⟨h1, h2⟩ := sm_an hc2
      have h1 := Nat.eq_of_beq_eq_true h1
      have h2 : q.2.1 < fl_nf q.1 := Nat.le_of_ble_eq_true h2
      obtain ⟨fs, hf, hl2⟩ := fw_obj hh h1 (hC _ _ hq)
      have hv : fs[q.2.1]? = some fs[q.2.1] := List.getElem?_eq_getElem (by rw [hl2]; exact h2)
      have e := fl_fv_s hh (sm_obj_s hf) hv (hK.1 _ _ hq)
      refine ⟨(pc + 3, lv, fl_fv (fm_i h) (fm_l h) q a :: r, h), ls, ?_, ?_, hh, hl⟩
      · show (K.1 x).bind _ = _
        rw [hq]
        show (sm_obj h a q.1).bind _ = _
        rw [hf]
        show (fs[q.2.1]?).bind _ = _
        rw [hv]
        rw [show fl_fv (fm_i h) (fm_l h) q a = fs[q.2.1] from e]
        rfl
      · show (K.1 x).bind _ = _
        rw [hq]
        rfl
    · cases hc2
  | putfield x =>
    obtain ⟨h0, hc2⟩ := sm_an hc
    have hn := Nat.eq_of_beq_eq_true h0
    subst hn
    clear hc
    split at hc2
    · rename_i v a r q hq
      obtain ⟨h1, h2⟩ := sm_an hc2
      obtain ⟨h2, h3⟩ := sm_an h2
      have h1 := Nat.eq_of_beq_eq_true h1
      have h2 : q.2.1 < fl_nf q.1 := Nat.le_of_ble_eq_true h2
      have h3 := Nat.eq_of_beq_eq_true h3
      obtain ⟨fs, hf, hl2⟩ := fw_obj hh h1 (hC _ _ hq)
      have hk : q.2.1 < fs.length := by rw [hl2]; exact h2
      have hs : sm_step K (.putfield x) 3 pc lv (.int v :: .ref a :: r) h = some (pc + 3, lv, r, h.set a (.inr (q.1, fs.set q.2.1 (.int v)))) := by
        show (K.1 x).bind _ = _
        rw [hq]
        show (if q.2.2 = 0 then (sm_obj h a q.1).bind _ else none) = _
        rw [if_pos h3, hf]
        show (if q.2.1 < fs.length then _ else _) = _
        rw [if_pos hk]
      obtain ⟨ls', f1, f2, f3⟩ := fl_sim hK hs hl.1 hh
      refine ⟨_, ls', hs, f1, f3, ?_⟩
      have f0 : fl_step K (.putfield x) pc ls (.int v :: .ref a :: r) (fm_i h) (fm_l h) = some (pc + 3, ls, r, fl_u (fm_i h) a q.2.1 v, fm_l h) := by
        show (K.1 x).bind _ = _
        rw [hq]
        rfl
      rw [f0] at f1
      have e : ls = ls' := congrArg (fun s : fl_S => s.2.1) (Option.some.inj f1)
      rw [← e]
      exact hl
    · cases hc2
  | dup =>
    obtain ⟨h0, hc⟩ := sm_an hc
    have hn := Nat.eq_of_beq_eq_true h0
    subst hn
    rcases (Bool.or_eq_true _ _).mp hc with hc | hc
    · obtain ⟨x, hx⟩ := fw_is hc
      obtain ⟨r, rfl⟩ := fw_s0 hx
      exact ⟨(pc + 1, lv, .int x :: .int x :: r, h), ls, rfl, rfl, hh, hl⟩
    · obtain ⟨x, hx⟩ := fw_rs hc
      obtain ⟨r, rfl⟩ := fw_s0 hx
      exact ⟨(pc + 1, lv, .ref x :: .ref x :: r, h), ls, rfl, rfl, hh, hl⟩
  | _ => cases hc
section FW
variable {d : Nat} {B : sm_P} {pc : Nat} {ls st : List Value} {M : fl_M} {J : fl_J} {s s' : fl_S}
/-- what is to be known of a method's tables -/
def fw_B (B : sm_P) : Prop := fl_K B.2.1 ∧ (∀ x q, B.2.1.1 x = some q → q.1 < 4) ∧ ut_B B
theorem fw_1 (hB : fw_B B) {i : Instr} {n : Nat} (hi : B.1 pc = some (i, n)) (hc : fw_c B.2.1 i n pc ls st = true) (hf : fl_step B.2.1 i pc ls st M J = some s') (k : fw d B s') : fw d B (pc, ls, st, M, J) := by
  intro h lv hH hl
  obtain ⟨hh, rfl, rfl⟩ := hH
  obtain ⟨t, ls', h1, h2, h3, h4⟩ := fw_st hB.1 hB.2.1 hc hh hl
  have h2 := hf.symm.trans h2
  cases h2
  obtain ⟨g, o, h', hr⟩ := k t.2.2.2 t.2.1 ⟨h3, rfl, rfl⟩ h4
  exact ⟨g + 1, o, h', ⟨i, n, hi, Or.inr (Or.inl ⟨t, h1, hr⟩)⟩⟩
/-- many of them -/
def fw_m (B : sm_P) : Nat → fl_S → Option fl_S
  | 0, s => some s
  | m + 1, s => (B.1 s.1).bind fun q => if fw_c B.2.1 q.1 q.2 s.1 s.2.1 s.2.2.1 = true then (fl_step B.2.1 q.1 s.1 s.2.1 s.2.2.1 s.2.2.2.1 s.2.2.2.2).bind (fw_m B m) else none
theorem fw_n (hB : fw_B B) (m : Nat) : ∀ {s s' : fl_S}, fw_m B m s = some s' → fw d B s' → fw d B s := by
  induction m with
  | zero => intro s s' h k; cases h; exact k
  | succ m ih =>
    intro s s' h k
    unfold fw_m at h
    obtain ⟨q, hq, h⟩ := sm_bd h
    obtain ⟨h1, h⟩ := sm_if h
    obtain ⟨t, ht, h⟩ := sm_bd h
    exact fw_1 (pc := s.1) (ls := s.2.1) (st := s.2.2.1) (M := s.2.2.2.1) (J := s.2.2.2.2) hB hq h1 ht (ih h k)
theorem fw_ic (hB : fw_B B) {q : Jvm.ClassFile.Cond} {off : Int} {t : Nat} {x y : Int32} {c : Prop} [Decidable c] (hi : B.1 pc = some (.if_icmp q off, 3)) (ht : sm_j pc off = some t) (hb : sm_cmp q x y = true ↔ c) (k1 : c → fw d B (t, ls, st, M, J)) (k2 : ¬ c → fw d B (pc + 3, ls, st, M, J)) : fw d B (pc, ls, .int y :: .int x :: st, M, J) := by
  refine fw_1 (s' := (if sm_cmp q x y = true then t else pc + 3, ls, st, M, J)) hB hi ?_ ?_ ?_
  · show (Nat.beq 3 3 && ((sm_j pc off).isSome && (true && true))) = true
    rw [ht]
    rfl
  · show (sm_j pc off).bind _ = _
    rw [ht]
    rfl
  · by_cases hc : c
    · rw [if_pos (hb.mpr hc)]; exact k1 hc
    · rw [if_neg (fun z => hc (hb.mp z))]; exact k2 hc
theorem fw_if (hB : fw_B B) {q : Jvm.ClassFile.Cond} {off : Int} {t : Nat} {x : Int32} {c : Prop} [Decidable c] (hi : B.1 pc = some (.ifCond q off, 3)) (ht : sm_j pc off = some t) (hb : sm_cmp q x 0 = true ↔ c) (k1 : c → fw d B (t, ls, st, M, J)) (k2 : ¬ c → fw d B (pc + 3, ls, st, M, J)) : fw d B (pc, ls, .int x :: st, M, J) := by
  refine fw_1 (s' := (if sm_cmp q x 0 = true then t else pc + 3, ls, st, M, J)) hB hi ?_ ?_ ?_
  · show (Nat.beq 3 3 && ((sm_j pc off).isSome && true)) = true
    rw [ht]
    rfl
  · show (sm_j pc off).bind _ = _
    rw [ht]
    rfl
  · by_cases hc : c
    · rw [if_pos (hb.mpr hc)]; exact k1 hc
    · rw [if_neg (fun z => hc (hb.mp z))]; exact k2 hc
/-- a step known as such -/
theorem fw_s (hB : fw_B B) {i : Instr} {n : Nat} {pc' : Nat} {st' : List Value} {M' : fl_M} {J' : fl_J} (hi : B.1 pc = some (i, n)) (hs : ∀ (h : List va_E) (lv : sm_L), fw_H M J h → fw_lr B.2.1.2.2.2.2.2.1 lv ls → ∃ h', sm_step B.2.1 i n pc lv st h = some (pc', lv, st', h')) (hf : fl_step B.2.1 i pc ls st M J = some (pc', ls, st', M', J')) (k : fw d B (pc', ls, st', M', J')) : fw d B (pc, ls, st, M, J) := by
  intro h lv hH hl
  obtain ⟨h1, hs1⟩ := hs h lv hH hl
  obtain ⟨hh, rfl, rfl⟩ := hH
  obtain ⟨ls2, f1, f2, f3⟩ := fl_sim hB.1 hs1 hl.1 hh
  have f1 := hf.symm.trans f1
  cases f1
  obtain ⟨g, o, h', hr⟩ := k h1 lv ⟨f3, rfl, rfl⟩ hl
  exact ⟨g + 1, o, h', ⟨i, n, hi, Or.inr (Or.inl ⟨_, hs1, hr⟩)⟩⟩
theorem fw_ia (hB : fw_B B) {a : Nat} {i : Int32} (hi : B.1 pc = some (.iaload, 1)) (hk : fl_kd a = 0) (ha : a < 98) (h1 : 0 ≤ i.toInt) (h2 : i.toInt < (fl_len a : Int)) (k : fw d B (pc + 1, ls, .int (M a i.toNatClampNeg) :: st, M, J)) : fw d B (pc, ls, .int i :: .ref a :: st, M, J) := by
  refine fw_s (st' := .int (M a i.toNatClampNeg) :: st) hB hi (fun h lv hH hl => ⟨h, ?_⟩) rfl k
  obtain ⟨hh, rfl, rfl⟩ := hH
  have he := fw_arr hh hk (by decide) ha
  show (if a = 999 then _ else if a = 998 then _ else (sm_ints h a).bind _) = _
  rw [if_neg (by omega), if_neg (by omega), aw_ints_of he]
  show (if i < 0 ∨ fl_len a ≤ i.toNatClampNeg then none else _) = _
  rw [if_neg (by rw [fi_l, fi_i0, fi_cl]; omega)]
theorem fw_k9 (hB : fw_B B) {i : Int32} (hi : B.1 pc = some (.iaload, 1)) (h1 : 0 ≤ i.toInt) (h2 : i.toInt < 6) (k : fw d B (pc + 1, ls, .int (M 999 i.toNatClampNeg) :: st, M, J)) : fw d B (pc, ls, .int i :: .ref 999 :: st, M, J) := by
  refine fw_s (st' := .int (M 999 i.toNatClampNeg) :: st) hB hi (fun h lv hH hl => ⟨h, ?_⟩) rfl k
  obtain ⟨hh, rfl, rfl⟩ := hH
  show (if i < 0 ∨ 6 ≤ i.toNatClampNeg then none else some (pc + 1, lv, Value.int (sm_kl i.toNatClampNeg) :: st, h)) = _
  rw [if_neg (by rw [fi_l, fi_i0, fi_cl]; omega)]
  rfl
theorem fw_ba (hB : fw_B B) {a : Nat} {i : Int32} (hi : B.1 pc = some (.baload, 1)) (hk : fl_kd a = 1) (ha : a < 98) (h1 : 0 ≤ i.toInt) (h2 : i.toInt < (fl_len a : Int)) (k : fw d B (pc + 1, ls, .int (M a i.toNatClampNeg) :: st, M, J)) : fw d B (pc, ls, .int i :: .ref a :: st, M, J) := by
  refine fw_s (st' := .int (M a i.toNatClampNeg) :: st) hB hi (fun h lv hH hl => ⟨h, ?_⟩) rfl k
  obtain ⟨hh, rfl, rfl⟩ := hH
  have he := fw_arr hh hk (by decide) ha
  show (sm_byts h a).bind _ = _
  rw [aw_byts_of he]
  show (if i < 0 ∨ fl_len a ≤ i.toNatClampNeg then none else _) = _
  rw [if_neg (by rw [fi_l, fi_i0, fi_cl]; omega)]
theorem fw_aa (hB : fw_B B) {a : Nat} {i : Int32} (hi : B.1 pc = some (.aaload, 1)) (hk : 2 ≤ fl_kd a ∧ fl_kd a < 5) (ha : a < 98) (h1 : 0 ≤ i.toInt) (h2 : i.toInt < (fl_len a : Int)) (k : fw d B (pc + 1, ls, .ref (fl_ar a i.toNatClampNeg) :: st, M, J)) : fw d B (pc, ls, .int i :: .ref a :: st, M, J) := by
  refine fw_s (st' := .ref (fl_ar a i.toNatClampNeg) :: st) hB hi (fun h lv hH hl => ⟨h, ?_⟩) rfl k
  obtain ⟨hh, rfl, rfl⟩ := hH
  obtain ⟨f, he, hf⟩ := fw_refs hh rfl hk.1 hk.2 ha
  have hr : sm_refs h a = some (fl_kd a, fl_len a, f) := by unfold sm_refs; rw [he]; exact if_pos hk
  show (sm_refs h a).bind _ = _
  rw [hr]
  show (if i < 0 ∨ fl_len a ≤ i.toNatClampNeg then none else (f i.toNatClampNeg).bind _) = _
  rw [if_neg (by rw [fi_l, fi_i0, fi_cl]; omega), hf _ (by rw [fi_cl]; omega)]
  rfl
theorem fw_ia2 (hB : fw_B B) {a : Nat} {i x : Int32} (hi : B.1 pc = some (.iastore, 1)) (hk : fl_kd a = 0) (ha : a < 98) (h1 : 0 ≤ i.toInt) (h2 : i.toInt < (fl_len a : Int)) (k : fw d B (pc + 1, ls, st, fl_u M a i.toNatClampNeg x, J)) : fw d B (pc, ls, .int x :: .int i :: .ref a :: st, M, J) := by
  refine fw_s (st' := st) hB hi (fun h lv hH hl => ?_) rfl k
  obtain ⟨hh, rfl, rfl⟩ := hH
  have he := fw_arr hh hk (by decide) ha
  refine ⟨h.set a (.inl (0, fl_len a, .inl (upd (fm_i h a) i.toNatClampNeg x))), ?_⟩
  show (sm_ints h a).bind _ = _
  rw [aw_ints_of he]
  show (if i < 0 ∨ fl_len a ≤ i.toNatClampNeg then none else _) = _
  rw [if_neg (by rw [fi_l, fi_i0, fi_cl]; omega)]
/-- what is to be known of a call: a run of it is there, and what it answers -/
def fw_C (d k : Nat) (vs : List Value) (M : fl_M) (J : fl_J) : Prop := ∀ h : List va_E, fw_H M J h → ∃ o h', sm_Ex 200 sm_ML sm_B d k vs h o h'
theorem fw_call (hB : fw_B B) {i : Instr} {n k : Nat} {vs r : List Value} {o : Option Value} {M' : fl_M} {J' : fl_J} (hi : B.1 pc = some (i, n)) (hc : ∀ h, fw_H M J h → sm_cal B.2.2.1 i n st h k vs r) (hx : fw_C d k vs M J) (hF : fl_C k vs M J (o, M', J')) (kk : fw d B (pc + 3, ls, o.toList ++ r, M', J')) : fw d B (pc, ls, st, M, J) := by
  intro h lv hH hl
  have hc1 := hc h hH
  obtain ⟨o1, h1, x⟩ := hx h hH
  obtain ⟨hh, rfl, rfl⟩ := hH
  obtain ⟨s1, e1, e2, e3⟩ := fl_use x hh hF
  obtain ⟨g, o2, h', hr⟩ := kk h1 lv ⟨s1, e2, e3⟩ hl
  have e1 : o1 = o := e1
  subst e1
  exact ⟨g + 1, o2, h', ⟨i, n, hi, Or.inr (Or.inr ⟨k, vs, r, o1, h1, hc1, x, hr⟩)⟩⟩
theorem fw_re {i : Instr} {n : Nat} {o : Option Value} (hi : B.1 pc = some (i, n)) (hr : sm_ret B.2.2.2 i n st o) : fw d B (pc, ls, st, M, J) := fun h _ _ _ => ⟨1, o, h, ⟨i, n, hi, Or.inl ⟨hr, rfl⟩⟩⟩
end FW

/-! Both at once: a run is there, and what it comes to. -/
