/-! Forwards: that a run is there. The flat state is known exactly; places of rows are to be shown in range. -/
def fw_lr (nL : Nat) (lv : sm_L) (ls : List Value) : Prop := fl_lr nL lv ls ∧ ∀ (i : Nat) (v : Value), ls[i]? = some v → v ≠ .null → sm_get lv i = some v
def fw_H (M : fl_M) (J : fl_J) (h : List va_E) : Prop := fl_sh h ∧ fm_i h = M ∧ fm_l h = J
/-- a run from this state is there -/
def fw (d : Nat) (B : sm_P) (s : fl_S) : Prop := ∀ (h : List va_E) (lv : sm_L), fw_H s.2.2.2.1 s.2.2.2.2 h → fw_lr B.2.1.2.2.2.2.2.1 lv s.2.1 → ∃ g o h', sm_rn B (sm_Ex 200 sm_ML sm_B d) g s.1 lv s.2.2.1 h o h'
/-- what can be seen of a step without the memory -/
def fw_i (v : Option Value) : Bool := match v with
  | some (.int _) => true
  | _ => false
def fw_l (v : Option Value) : Bool := match v with
  | some (.long _) => true
  | _ => false
def fw_r (v : Option Value) : Bool := match v with
  | some (.ref _) => true
  | _ => false
/-- nothing is lost of other locals when place k is written -/
def fw_p (k : Nat) (ls : List Value) : Bool := match k with
  | 0 => true
  | k + 1 => (match ls[k]? with
    | some v => Nat.beq v.category 1
    | none => true)
def fw_c (K : sm_K) (i : Instr) (n pc : Nat) (ls st : List Value) : Bool := match i with
  | .iconst _ => Nat.beq n 1
  | .bipush _ => Nat.beq n 2
  | .sipush _ => Nat.beq n 3
  | .iload_n k => Nat.beq n 1 && fw_i ls[(k : Nat)]?
  | .iload k => Nat.beq n 2 && fw_i ls[k]?
  | .lload_n k => Nat.beq n 1 && fw_l ls[(k : Nat)]?
  | .lload k => Nat.beq n 2 && fw_l ls[k]?
  | .aload_n k => Nat.beq n 1 && fw_r ls[(k : Nat)]?
  | .istore_n k => Nat.beq n 1 && (Nat.blt k K.2.2.2.2.2.1 && (fw_i st[0]? && fw_p k ls))
  | .istore k => Nat.beq n 2 && (Nat.blt k K.2.2.2.2.2.1 && (fw_i st[0]? && fw_p k ls))
  | .astore_n k => Nat.beq n 1 && (Nat.blt k K.2.2.2.2.2.1 && (fw_r st[0]? && fw_p k ls))
  | .iinc k _ => Nat.beq n 3 && (Nat.blt k K.2.2.2.2.2.1 && (fw_i ls[k]? && fw_p k ls))
  | .iadd => Nat.beq n 1 && (fw_i st[0]? && fw_i st[1]?)
  | .isub => Nat.beq n 1 && (fw_i st[0]? && fw_i st[1]?)
  | .imul => Nat.beq n 1 && (fw_i st[0]? && fw_i st[1]?)
  | .i2l => Nat.beq n 1 && fw_i st[0]?
  | .lconst _ => Nat.beq n 1
  | .ldc2_w x => Nat.beq n 3 && (K.2.2.1 x).isSome
  | .lcmp => Nat.beq n 1 && (fw_l st[0]? && fw_l st[1]?)
  | .goto off => Nat.beq n 3 && (sm_j pc off).isSome
  | .ifCond _ off => Nat.beq n 3 && ((sm_j pc off).isSome && fw_i st[0]?)
  | .if_icmp _ off => Nat.beq n 3 && ((sm_j pc off).isSome && (fw_i st[0]? && fw_i st[1]?))
  | .getstatic x => Nat.beq n 3 && K.2.2.2.1 x
  | .getfield x => Nat.beq n 3 && (match st, K.1 x with
    | .ref a :: _, some q => Nat.beq (fl_kd a) (10 + q.1) && Nat.blt q.2.1 (fl_nf q.1)
    | _, _ => false)
  | .putfield x => Nat.beq n 3 && (match st, K.1 x with
    | .int _ :: .ref a :: _, some q => Nat.beq (fl_kd a) (10 + q.1) && (Nat.blt q.2.1 (fl_nf q.1) && Nat.beq q.2.2 0)
    | _, _ => false)
  | .dup => Nat.beq n 1 && (fw_i st[0]? || fw_r st[0]?)
  | _ => false
theorem fw_is {v : Option Value} (h : fw_i v = true) : ∃ x, v = some (.int x) := by
  unfold fw_i at h
  split at h
  · exact ⟨_, rfl⟩
  · cases h
theorem fw_ls {v : Option Value} (h : fw_l v = true) : ∃ x, v = some (.long x) := by
  unfold fw_l at h
  split at h
  · exact ⟨_, rfl⟩
  · cases h
theorem fw_rs {v : Option Value} (h : fw_r v = true) : ∃ x, v = some (.ref x) := by
  unfold fw_r at h
  split at h
  · exact ⟨_, rfl⟩
  · cases h
theorem fw_s0 {st : List Value} {v : Value} (h : st[0]? = some v) : ∃ r, st = v :: r := by
  cases st with
  | nil => cases h
  | cons w r => cases h; exact ⟨r, rfl⟩
theorem fw_s1 {st : List Value} {v w : Value} (h : st[0]? = some v) (h1 : st[1]? = some w) : ∃ r, st = v :: w :: r := by
  obtain ⟨r, rfl⟩ := fw_s0 h
  cases r with
  | nil => cases h1
  | cons u r => cases h1; exact ⟨r, rfl⟩
theorem fw_no1 {k t ci : Nat} (h1 : k = t) (h2 : t < 2) (h3 : k = 10 + ci) : False := by omega
theorem fw_no2 {k t ci : Nat} (h1 : k = t) (h2 : 2 ≤ t ∧ t < 5) (h3 : k = 10 + ci) : False := by omega
theorem fw_no3 {k t t' : Nat} (h1 : k = t') (h2 : 2 ≤ t' ∧ t' < 5) (h3 : k = t) (h4 : t < 2) : False := by omega
theorem fw_no4 {k t t' : Nat} (h1 : k = t') (h2 : t' < 2) (h3 : k = t) (h4 : 2 ≤ t) : False := by omega
theorem fw_no5 {k t ci : Nat} (h1 : k = 10 + ci) (h2 : k = t) (h3 : t < 5) : False := by omega
theorem fw_kk {k t t' : Nat} (h1 : k = t') (h3 : k = t) : t' = t := by omega
theorem fw_98 {a : Nat} {z : Nat} (hk : fl_kd a = z) (hz : z ≠ 99) : a < 98 := by
  rcases Nat.lt_or_ge a 98 with h1 | h1
  · exact h1
  · unfold fl_kd at hk
    rw [List.getD_eq_getElem?_getD, List.getElem?_eq_none h1] at hk
    exact (hz hk.symm).elim
/-- a cell that the flat machine knows -/
theorem fw_obj {h : List va_E} (hh : fl_sh h) {a ci : Nat} (hk : fl_kd a = 10 + ci) (hl : ci < 4) : ∃ fs, sm_obj h a ci = some fs ∧ fs.length = fl_nf ci := by
  have ha := fw_98 hk (by omega)
  obtain ⟨e, he⟩ : ∃ e, h[a]? = some e := ⟨_, List.getElem?_eq_getElem (by rw [hh.1]; exact ha)⟩
  have hc := hh.2 a e he
  unfold fl_ce at hc
  split at hc
  · rename_i ci' fs
    have e1 : ci' = ci := by omega
    subst e1
    exact ⟨fs, by unfold sm_obj; rw [he]; exact if_pos rfl, hc.2.1⟩
  · exact (fw_no1 hc.1.1 hc.1.2 hk).elim
  · exact (fw_no2 hc.1.1 hc.1.2 hk).elim
  · exact hc.elim
theorem fw_arr {h : List va_E} (hh : fl_sh h) {a t : Nat} (hk : fl_kd a = t) (ht : t < 2) (hp : a < 98) : h[a]? = some (.inl (t, fl_len a, .inl (fm_i h a))) := by
  obtain ⟨e, he⟩ : ∃ e, h[a]? = some e := ⟨_, List.getElem?_eq_getElem (by rw [hh.1]; exact hp)⟩
  have hc := hh.2 a e he
  unfold fl_ce at hc
  split at hc
  · exact (fw_no5 hc.1 hk (by omega)).elim
  · rename_i t' n f
    have e1 := fw_kk hc.1.1 hk
    subst e1
    rw [fm_i_arr hh he, ← hc.2]
    exact he
  · exact (fw_no3 hc.1.1 hc.1.2 hk ht).elim
  · exact hc.elim
theorem fw_refs {h : List va_E} (hh : fl_sh h) {a t : Nat} (hk : fl_kd a = t) (h2 : 2 ≤ t) (ht : t < 5) (hp : a < 98) : ∃ f, h[a]? = some (.inl (t, fl_len a, .inr (.inr (.inr (.inr f))))) ∧ ∀ j, j < fl_len a → f j = some (fl_ar a j) := by
  obtain ⟨e, he⟩ : ∃ e, h[a]? = some e := ⟨_, List.getElem?_eq_getElem (by rw [hh.1]; exact hp)⟩
  have hc := hh.2 a e he
  unfold fl_ce at hc
  split at hc
  · exact (fw_no5 hc.1 hk ht).elim
  · exact (fw_no4 hc.1.1 hc.1.2 hk h2).elim
  · rename_i t' n f
    have e1 := fw_kk hc.1.1 hk
    subst e1
    refine ⟨f, by rw [← hc.2.1]; exact he, fun j hj => hc.2.2 j (by rw [hc.2.1]; exact hj)⟩
  · exact hc.elim
theorem fw_filt {lv : sm_L} {p : Nat × Value → Bool} {i : Nat} {w : Value} (h : sm_get lv i = some w) (hp : p (i, w) = true) : sm_get (lv.filter p) i = some w := by
  induction lv with
  | nil => cases h
  | cons q r ih =>
    unfold sm_get at h
    by_cases hq : q.1 = i
    · rw [if_pos hq] at h
      cases h
      have e : p q = true := by rw [← hq] at hp; exact hp
      rw [List.filter_cons_of_pos e]
      unfold sm_get
      rw [if_pos hq]
    · rw [if_neg hq] at h
      have ih := ih h
      by_cases e : p q = true
      · rw [List.filter_cons_of_pos e]
        unfold sm_get
        rw [if_neg hq]
        exact ih
      · rw [List.filter_cons_of_neg e]
        exact ih
theorem fw_put {nL : Nat} {lv : sm_L} {ls : List Value} (h : fw_lr nL lv ls) {k : Nat} (hk : k < nL) (hp : fw_p k ls = true) (v : Value) : fw_lr nL (sm_put1 lv k v) (ls.set k v) := by
  refine ⟨fl_lr_put1 h.1 hk v, fun i w hi hw => ?_⟩
  by_cases hik : k = i
  · subst hik
    rw [List.getElem?_set_self (by rw [h.1.1]; exact hk)] at hi
    cases hi
    unfold sm_put1 sm_get
    exact if_pos rfl
  · rw [List.getElem?_set_ne hik] at hi
    have hg := h.2 i w hi hw
    unfold sm_put1 sm_get
    rw [if_neg hik]
    refine fw_filt hg ?_
    have e1 : (i == k) = false := by simp; omega
    dsimp only
    rw [e1]
    by_cases hc : i + 1 = k
    · subst hc
      unfold fw_p at hp
      dsimp only at hp
      rw [hi] at hp
      have hp := Nat.eq_of_beq_eq_true hp
      rw [hp]
      simp
    · have e2 : (i + 1 == k) = false := by simp; omega
      rw [e2]
      rfl
/-- a step that needs nothing of the memory -/
def fw_G (K : sm_K) (i : Instr) (n pc : Nat) (lv : sm_L) (ls st : List Value) (h : List va_E) : Prop := ∃ (t : sm_T) (ls' : List Value), sm_step K i n pc lv st h = some t ∧ fl_step K i pc ls st (fm_i h) (fm_l h) = some (t.1, ls', t.2.2.1, fm_i t.2.2.2, fm_l t.2.2.2) ∧ fl_sh t.2.2.2 ∧ fw_lr K.2.2.2.2.2.1 t.2.1 ls'
theorem fw_nn {x : Int32} : (Value.int x) ≠ .null := by intro z; cases z
theorem fw_nl {x : Int64} : (Value.long x) ≠ .null := by intro z; cases z
theorem fw_nr {x : Nat} : (Value.ref x) ≠ .null := by intro z; cases z
set_option maxHeartbeats 4000000 in
theorem fw_st {K : sm_K} (hK : fl_K K) (hC : ∀ x q, K.1 x = some q → q.1 < 4) {i : Instr} {n pc : Nat} {lv : sm_L} {ls st : List Value} {h : List va_E} (hc : fw_c K i n pc ls st = true) (hh : fl_sh h) (hl : fw_lr K.2.2.2.2.2.1 lv ls) : fw_G K i n pc lv ls st h := by
  cases i with
  | iconst v =>
    have hn := Nat.eq_of_beq_eq_true hc
    subst hn
    exact ⟨(pc + 1, lv, .int (Int32.ofInt v) :: st, h), ls, rfl, rfl, hh, hl⟩
  | bipush v =>
    have hn := Nat.eq_of_beq_eq_true hc
    subst hn
    exact ⟨(pc + 2, lv, .int (Int8.ofInt v).toInt32 :: st, h), ls, rfl, rfl, hh, hl⟩
  | sipush v =>
    have hn := Nat.eq_of_beq_eq_true hc
    subst hn
    exact ⟨(pc + 3, lv, .int (Int16.ofInt v).toInt32 :: st, h), ls, rfl, rfl, hh, hl⟩
  | lconst v =>
    have hn := Nat.eq_of_beq_eq_true hc
    subst hn
    exact ⟨(pc + 1, lv, .long (Int64.ofNat (v : Nat)) :: st, h), ls, rfl, rfl, hh, hl⟩
  | ldc2_w x =>
    obtain ⟨h0, hc⟩ := sm_an hc
    have hn := Nat.eq_of_beq_eq_true h0
    subst hn
    obtain ⟨v, hv⟩ := Option.isSome_iff_exists.mp hc
    refine ⟨(pc + 3, lv, .long v :: st, h), ls, ?_, ?_, hh, hl⟩
    · show (K.2.2.1 x).bind _ = _
      rw [hv]
      rfl
    · show (K.2.2.1 x).bind _ = _
      rw [hv]
      rfl
  | iload_n k =>
    obtain ⟨h0, hc⟩ := sm_an hc
    have hn := Nat.eq_of_beq_eq_true h0
    subst hn
    obtain ⟨x, hx⟩ := fw_is hc
    have hg := hl.2 _ _ hx fw_nn
    refine ⟨(pc + 1, lv, .int x :: st, h), ls, ?_, ?_, hh, hl⟩
    · show (sm_get lv (k : Nat)).bind _ = _
      rw [hg]
      rfl
    · show (ls[(k : Nat)]?).bind _ = _
      rw [hx]
      rfl
  | iload k =>
    obtain ⟨h0, hc⟩ := sm_an hc
    have hn := Nat.eq_of_beq_eq_true h0
    subst hn
    obtain ⟨x, hx⟩ := fw_is hc
    have hg := hl.2 _ _ hx fw_nn
    refine ⟨(pc + 2, lv, .int x :: st, h), ls, ?_, ?_, hh, hl⟩
    · show (sm_get lv k).bind _ = _
      rw [hg]
      rfl
    · show (ls[k]?).bind _ = _
      rw [hx]
      rfl
  | lload_n k =>
    obtain ⟨h0, hc⟩ := sm_an hc
    have hn := Nat.eq_of_beq_eq_true h0
    subst hn
    obtain ⟨x, hx⟩ := fw_ls hc
    have hg := hl.2 _ _ hx fw_nl
    refine ⟨(pc + 1, lv, .long x :: st, h), ls, ?_, ?_, hh, hl⟩
    · show (sm_get lv (k : Nat)).bind _ = _
      rw [hg]
      rfl
    · show (ls[(k : Nat)]?).bind _ = _
      rw [hx]
      rfl
  | lload k =>
    obtain ⟨h0, hc⟩ := sm_an hc
    have hn := Nat.eq_of_beq_eq_true h0
    subst hn
    obtain ⟨x, hx⟩ := fw_ls hc
    have hg := hl.2 _ _ hx fw_nl
    refine ⟨(pc + 2, lv, .long x :: st, h), ls, ?_, ?_, hh, hl⟩
    · show (sm_get lv k).bind _ = _
      rw [hg]
      rfl
    · show (ls[k]?).bind _ = _
      rw [hx]
      rfl
  | aload_n k =>
    obtain ⟨h0, hc⟩ := sm_an hc
    have hn := Nat.eq_of_beq_eq_true h0
    subst hn
    obtain ⟨x, hx⟩ := fw_rs hc
    have hg := hl.2 _ _ hx fw_nr
    refine ⟨(pc + 1, lv, .ref x :: st, h), ls, ?_, ?_, hh, hl⟩
    · show (sm_get lv (k : Nat)).bind _ = _
      rw [hg]
      rfl
    · show (ls[(k : Nat)]?).bind _ = _
      rw [hx]
      rfl
  | istore_n k =>
    obtain ⟨h0, hc⟩ := sm_an hc
    have hn := Nat.eq_of_beq_eq_true h0
    subst hn
    obtain ⟨h1, hc⟩ := sm_an hc
    obtain ⟨h2, h3⟩ := sm_an hc
    have h1 : (k : Nat) < K.2.2.2.2.2.1 := Nat.le_of_ble_eq_true h1
    obtain ⟨x, hx⟩ := fw_is h2
    obtain ⟨r, rfl⟩ := fw_s0 hx
    refine ⟨(pc + 1, sm_put1 lv k (.int x), r, h), ls.set k (.int x), ?_, rfl, hh, fw_put hl h1 h3 _⟩
    show (if 1 = 1 ∧ (k : Nat) < K.2.2.2.2.2.1 then _ else _) = _
    rw [if_pos ⟨rfl, h1⟩]
    rfl
  | istore k =>
    obtain ⟨h0, hc⟩ := sm_an hc
    have hn := Nat.eq_of_beq_eq_true h0
    subst hn
    obtain ⟨h1, hc⟩ := sm_an hc
    obtain ⟨h2, h3⟩ := sm_an hc
    have h1 : k < K.2.2.2.2.2.1 := Nat.le_of_ble_eq_true h1
    obtain ⟨x, hx⟩ := fw_is h2
    obtain ⟨r, rfl⟩ := fw_s0 hx
    refine ⟨(pc + 2, sm_put1 lv k (.int x), r, h), ls.set k (.int x), ?_, rfl, hh, fw_put hl h1 h3 _⟩
    show (if 2 = 2 ∧ k < K.2.2.2.2.2.1 then _ else _) = _
    rw [if_pos ⟨rfl, h1⟩]
    rfl
  | astore_n k =>
    obtain ⟨h0, hc⟩ := sm_an hc
    have hn := Nat.eq_of_beq_eq_true h0
    subst hn
    obtain ⟨h1, hc⟩ := sm_an hc
    obtain ⟨h2, h3⟩ := sm_an hc
    have h1 : (k : Nat) < K.2.2.2.2.2.1 := Nat.le_of_ble_eq_true h1
    obtain ⟨x, hx⟩ := fw_rs h2
    obtain ⟨r, rfl⟩ := fw_s0 hx
    refine ⟨(pc + 1, sm_put1 lv k (.ref x), r, h), ls.set k (.ref x), ?_, rfl, hh, fw_put hl h1 h3 _⟩
    show (if 1 = 1 ∧ (k : Nat) < K.2.2.2.2.2.1 then _ else _) = _
    rw [if_pos ⟨rfl, h1⟩]
    rfl
  | iinc k v =>
    obtain ⟨h0, hc⟩ := sm_an hc
    have hn := Nat.eq_of_beq_eq_true h0
    subst hn
    obtain ⟨h1, hc⟩ := sm_an hc
    obtain ⟨h2, h3⟩ := sm_an hc
    have h1 : k < K.2.2.2.2.2.1 := Nat.le_of_ble_eq_true h1
    obtain ⟨x, hx⟩ := fw_is h2
    have hg := hl.2 _ _ hx fw_nn
    refine ⟨(pc + 3, sm_put1 lv k (.int (x + Int32.ofInt v)), st, h), ls.set k (.int (x + Int32.ofInt v)), ?_, ?_, hh, fw_put hl h1 h3 _⟩
    · show (if 3 = 3 ∧ k < K.2.2.2.2.2.1 then (sm_get lv k).bind _ else _) = _
      rw [if_pos ⟨rfl, h1⟩, hg]
      rfl
    · show (ls[k]?).bind _ = _
      rw [hx]
      rfl
  | iadd =>
    obtain ⟨h0, hc⟩ := sm_an hc
    have hn := Nat.eq_of_beq_eq_true h0
    subst hn
    obtain ⟨h1, h2⟩ := sm_an hc
    obtain ⟨y, hy⟩ := fw_is h1
    obtain ⟨x, hx⟩ := fw_is h2
    obtain ⟨r, rfl⟩ := fw_s1 hy hx
    exact ⟨(pc + 1, lv, .int (x + y) :: r, h), ls, rfl, rfl, hh, hl⟩
  | isub =>
    obtain ⟨h0, hc⟩ := sm_an hc
    have hn := Nat.eq_of_beq_eq_true h0
    subst hn
    obtain ⟨h1, h2⟩ := sm_an hc
    obtain ⟨y, hy⟩ := fw_is h1
    obtain ⟨x, hx⟩ := fw_is h2
    obtain ⟨r, rfl⟩ := fw_s1 hy hx
    exact ⟨(pc + 1, lv, .int (x - y) :: r, h), ls, rfl, rfl, hh, hl⟩
  | imul =>
    obtain ⟨h0, hc⟩ := sm_an hc
    have hn := Nat.eq_of_beq_eq_true h0
    subst hn
    obtain ⟨h1, h2⟩ := sm_an hc
    obtain ⟨y, hy⟩ := fw_is h1
    obtain ⟨x, hx⟩ := fw_is h2
    obtain ⟨r, rfl⟩ := fw_s1 hy hx
    exact ⟨(pc + 1, lv, .int (x * y) :: r, h), ls, rfl, rfl, hh, hl⟩
  | lcmp =>
    obtain ⟨h0, hc⟩ := sm_an hc
    have hn := Nat.eq_of_beq_eq_true h0
    subst hn
    obtain ⟨h1, h2⟩ := sm_an hc
    obtain ⟨y, hy⟩ := fw_ls h1
    obtain ⟨x, hx⟩ := fw_ls h2
    obtain ⟨r, rfl⟩ := fw_s1 hy hx
    exact ⟨(pc + 1, lv, .int (lg_cmp x y) :: r, h), ls, rfl, rfl, hh, hl⟩
  | i2l =>
    obtain ⟨h0, hc⟩ := sm_an hc
    have hn := Nat.eq_of_beq_eq_true h0
    subst hn
    obtain ⟨x, hx⟩ := fw_is hc
    obtain ⟨r, rfl⟩ := fw_s0 hx
    exact ⟨(pc + 1, lv, .long x.toInt64 :: r, h), ls, rfl, rfl, hh, hl⟩
  | goto off =>
    obtain ⟨h0, hc⟩ := sm_an hc
    have hn := Nat.eq_of_beq_eq_true h0
    subst hn
    obtain ⟨t, ht⟩ := Option.isSome_iff_exists.mp hc
    refine ⟨(t, lv, st, h), ls, ?_, ?_, hh, hl⟩
    · show (sm_j pc off).bind _ = _
      rw [ht]
      rfl
    · show (sm_j pc off).bind _ = _
      rw [ht]
      rfl
  | ifCond q off =>
    obtain ⟨h0, hc⟩ := sm_an hc
    have hn := Nat.eq_of_beq_eq_true h0
    subst hn
    obtain ⟨h1, h2⟩ := sm_an hc
    obtain ⟨t, ht⟩ := Option.isSome_iff_exists.mp h1
    obtain ⟨x, hx⟩ := fw_is h2
    obtain ⟨r, rfl⟩ := fw_s0 hx
    refine ⟨(if sm_cmp q x 0 = true then t else pc + 3, lv, r, h), ls, ?_, ?_, hh, hl⟩
    · show (sm_j pc off).bind _ = _
      rw [ht]
      rfl
    · show (sm_j pc off).bind _ = _
      rw [ht]
      rfl
  | if_icmp q off =>
    obtain ⟨h0, hc⟩ := sm_an hc
    have hn := Nat.eq_of_beq_eq_true h0
    subst hn
    obtain ⟨h1, h2⟩ := sm_an hc
    obtain ⟨h2, h3⟩ := sm_an h2
    obtain ⟨t, ht⟩ := Option.isSome_iff_exists.mp h1
    obtain ⟨y, hy⟩ := fw_is h2
    obtain ⟨x, hx⟩ := fw_is h3
    obtain ⟨r, rfl⟩ := fw_s1 hy hx
    refine ⟨(if sm_cmp q x y = true then t else pc + 3, lv, r, h), ls, ?_, ?_, hh, hl⟩
    · show (sm_j pc off).bind _ = _
      rw [ht]
      rfl
    · show (sm_j pc off).bind _ = _
      rw [ht]
      rfl
  | getstatic x =>
    obtain ⟨h0, hc⟩ := sm_an hc
    have hn := Nat.eq_of_beq_eq_true h0
    subst hn
    refine ⟨(pc + 3, lv, .ref 999 :: st, h), ls, ?_, rfl, hh, hl⟩
    show (if 3 = 3 ∧ K.2.2.2.1 x = true then _ else _) = _
    rw [if_pos ⟨rfl, hc⟩]
  | getfield x =>
    obtain ⟨h0, hc2⟩ := sm_an hc
    have hn := Nat.eq_of_beq_eq_true h0
    subst hn
    clear hc
    split at hc2
    · rename_i a r q hq
      obtain ⟨h1, h2⟩ := sm_an hc2
      have h1 := Nat.eq_of_beq_eq_true h1
      have h2 : q.2.1 < fl_nf q.1 := Nat.le_of_ble_eq_true h2
      obtain ⟨fs, hf, hl2⟩ := fw_obj hh h1 (hC _ _ hq)
      have hv : fs[q.2.1]? = some fs[q.2.1] := List.getElem?_eq_getElem (by rw [hl2]; exact h2)
      have e := fl_fv_s hh (sm_obj_s hf) hv (hK.1 _ _ hq)
      refine ⟨(pc + 3, lv, fl_fv (fm_i h) (fm_l h) q a :: r, h), ls, ?_, ?_, hh, hl⟩
      · show (K.1 x).bind _ = _
        rw [hq]
        show (sm_obj h a q.1).bind _ = _
        rw [hf]
        show (fs[q.2.1]?).bind _ = _
        rw [hv]
        rw [show fl_fv (fm_i h) (fm_l h) q a = fs[q.2.1] from e]
        rfl
      · show (K.1 x).bind _ = _
        rw [hq]
        rfl
    · cases hc2
  | putfield x =>
    obtain ⟨h0, hc2⟩ := sm_an hc
    have hn := Nat.eq_of_beq_eq_true h0
    subst hn
    clear hc
    split at hc2
    · rename_i v a r q hq
      obtain ⟨h1, h2⟩ := sm_an hc2
      obtain ⟨h2, h3⟩ := sm_an h2
      have h1 := Nat.eq_of_beq_eq_true h1
      have h2 : q.2.1 < fl_nf q.1 := Nat.le_of_ble_eq_true h2
      have h3 := Nat.eq_of_beq_eq_true h3
      obtain ⟨fs, hf, hl2⟩ := fw_obj hh h1 (hC _ _ hq)
      have hk : q.2.1 < fs.length := by rw [hl2]; exact h2
      have hs : sm_step K (.putfield x) 3 pc lv (.int v :: .ref a :: r) h = some (pc + 3, lv, r, h.set a (.inr (q.1, fs.set q.2.1 (.int v)))) := by
        show (K.1 x).bind _ = _
        rw [hq]
        show (if q.2.2 = 0 then (sm_obj h a q.1).bind _ else none) = _
        rw [if_pos h3, hf]
        show (if q.2.1 < fs.length then _ else _) = _
        rw [if_pos hk]
      obtain ⟨ls', f1, f2, f3⟩ := fl_sim hK hs hl.1 hh
      refine ⟨_, ls', hs, f1, f3, ?_⟩
      have f0 : fl_step K (.putfield x) pc ls (.int v :: .ref a :: r) (fm_i h) (fm_l h) = some (pc + 3, ls, r, fl_u (fm_i h) a q.2.1 v, fm_l h) := by
        show (K.1 x).bind _ = _
        rw [hq]
        rfl
      rw [f0] at f1
      have e : ls = ls' := congrArg (fun s : fl_S => s.2.1) (Option.some.inj f1)
      rw [← e]
      exact hl
    · cases hc2
  | dup =>
    obtain ⟨h0, hc⟩ := sm_an hc
    have hn := Nat.eq_of_beq_eq_true h0
    subst hn
    rcases (Bool.or_eq_true _ _).mp hc with hc | hc
    · obtain ⟨x, hx⟩ := fw_is hc
      obtain ⟨r, rfl⟩ := fw_s0 hx
      exact ⟨(pc + 1, lv, .int x :: .int x :: r, h), ls, rfl, rfl, hh, hl⟩
    · obtain ⟨x, hx⟩ := fw_rs hc
      obtain ⟨r, rfl⟩ := fw_s0 hx
      exact ⟨(pc + 1, lv, .ref x :: .ref x :: r, h), ls, rfl, rfl, hh, hl⟩
  | _ => cases hc
section FW
variable {d : Nat} {B : sm_P} {pc : Nat} {ls st : List Value} {M : fl_M} {J : fl_J} {s s' : fl_S}
/-- what is to be known of a method's tables -/
def fw_B (B : sm_P) : Prop := fl_K B.2.1 ∧ (∀ x q, B.2.1.1 x = some q → q.1 < 4) ∧ ut_B B
theorem fw_1 (hB : fw_B B) {i : Instr} {n : Nat} (hi : B.1 pc = some (i, n)) (hc : fw_c B.2.1 i n pc ls st = true) (hf : fl_step B.2.1 i pc ls st M J = some s') (k : fw d B s') : fw d B (pc, ls, st, M, J) := by
  intro h lv hH hl
  obtain ⟨hh, rfl, rfl⟩ := hH
  obtain ⟨t, ls', h1, h2, h3, h4⟩ := fw_st hB.1 hB.2.1 hc hh hl
  have h2 := hf.symm.trans h2
  cases h2
  obtain ⟨g, o, h', hr⟩ := k t.2.2.2 t.2.1 ⟨h3, rfl, rfl⟩ h4
  exact ⟨g + 1, o, h', ⟨i, n, hi, Or.inr (Or.inl ⟨t, h1, hr⟩)⟩⟩
/-- many of them -/
def fw_m (B : sm_P) : Nat → fl_S → Option fl_S
  | 0, s => some s
  | m + 1, s => (B.1 s.1).bind fun q => if fw_c B.2.1 q.1 q.2 s.1 s.2.1 s.2.2.1 = true then (fl_step B.2.1 q.1 s.1 s.2.1 s.2.2.1 s.2.2.2.1 s.2.2.2.2).bind (fw_m B m) else none
theorem fw_n (hB : fw_B B) (m : Nat) : ∀ {s s' : fl_S}, fw_m B m s = some s' → fw d B s' → fw d B s := by
  induction m with
  | zero => intro s s' h k; cases h; exact k
  | succ m ih =>
    intro s s' h k
    unfold fw_m at h
    obtain ⟨q, hq, h⟩ := sm_bd h
    obtain ⟨h1, h⟩ := sm_if h
    obtain ⟨t, ht, h⟩ := sm_bd h
    exact fw_1 (pc := s.1) (ls := s.2.1) (st := s.2.2.1) (M := s.2.2.2.1) (J := s.2.2.2.2) hB hq h1 ht (ih h k)
theorem fw_ic (hB : fw_B B) {q : Jvm.ClassFile.Cond} {off : Int} {t : Nat} {x y : Int32} {c : Prop} [Decidable c] (hi : B.1 pc = some (.if_icmp q off, 3)) (ht : sm_j pc off = some t) (hb : sm_cmp q x y = true ↔ c) (k1 : c → fw d B (t, ls, st, M, J)) (k2 : ¬ c → fw d B (pc + 3, ls, st, M, J)) : fw d B (pc, ls, .int y :: .int x :: st, M, J) := by
  refine fw_1 (s' := (if sm_cmp q x y = true then t else pc + 3, ls, st, M, J)) hB hi ?_ ?_ ?_
  · show (Nat.beq 3 3 && ((sm_j pc off).isSome && (true && true))) = true
    rw [ht]
    rfl
  · show (sm_j pc off).bind _ = _
    rw [ht]
    rfl
  · by_cases hc : c
    · rw [if_pos (hb.mpr hc)]; exact k1 hc
    · rw [if_neg (fun z => hc (hb.mp z))]; exact k2 hc
theorem fw_if (hB : fw_B B) {q : Jvm.ClassFile.Cond} {off : Int} {t : Nat} {x : Int32} {c : Prop} [Decidable c] (hi : B.1 pc = some (.ifCond q off, 3)) (ht : sm_j pc off = some t) (hb : sm_cmp q x 0 = true ↔ c) (k1 : c → fw d B (t, ls, st, M, J)) (k2 : ¬ c → fw d B (pc + 3, ls, st, M, J)) : fw d B (pc, ls, .int x :: st, M, J) := by
  refine fw_1 (s' := (if sm_cmp q x 0 = true then t else pc + 3, ls, st, M, J)) hB hi ?_ ?_ ?_
  · show (Nat.beq 3 3 && ((sm_j pc off).isSome && true)) = true
    rw [ht]
    rfl
  · show (sm_j pc off).bind _ = _
    rw [ht]
    rfl
  · by_cases hc : c
    · rw [if_pos (hb.mpr hc)]; exact k1 hc
    · rw [if_neg (fun z => hc (hb.mp z))]; exact k2 hc
/-- a step known as such -/
theorem fw_s (hB : fw_B B) {i : Instr} {n : Nat} {pc' : Nat} {st' : List Value} {M' : fl_M} {J' : fl_J} (hi : B.1 pc = some (i, n)) (hs : ∀ (h : List va_E) (lv : sm_L), fw_H M J h → fw_lr B.2.1.2.2.2.2.2.1 lv ls → ∃ h', sm_step B.2.1 i n pc lv st h = some (pc', lv, st', h')) (hf : fl_step B.2.1 i pc ls st M J = some (pc', ls, st', M', J')) (k : fw d B (pc', ls, st', M', J')) : fw d B (pc, ls, st, M, J) := by
  intro h lv hH hl
  obtain ⟨h1, hs1⟩ := hs h lv hH hl
  obtain ⟨hh, rfl, rfl⟩ := hH
  obtain ⟨ls2, f1, f2, f3⟩ := fl_sim hB.1 hs1 hl.1 hh
  have f1 := hf.symm.trans f1
  cases f1
  obtain ⟨g, o, h', hr⟩ := k h1 lv ⟨f3, rfl, rfl⟩ hl
  exact ⟨g + 1, o, h', ⟨i, n, hi, Or.inr (Or.inl ⟨_, hs1, hr⟩)⟩⟩
theorem fw_ia (hB : fw_B B) {a : Nat} {i : Int32} (hi : B.1 pc = some (.iaload, 1)) (hk : fl_kd a = 0) (ha : a < 98) (h1 : 0 ≤ i.toInt) (h2 : i.toInt < (fl_len a : Int)) (k : fw d B (pc + 1, ls, .int (M a i.toNatClampNeg) :: st, M, J)) : fw d B (pc, ls, .int i :: .ref a :: st, M, J) := by
  refine fw_s (st' := .int (M a i.toNatClampNeg) :: st) hB hi (fun h lv hH hl => ⟨h, ?_⟩) rfl k
  obtain ⟨hh, rfl, rfl⟩ := hH
  have he := fw_arr hh hk (by decide) ha
  show (if a = 999 then _ else if a = 998 then _ else (sm_ints h a).bind _) = _
  rw [if_neg (by omega), if_neg (by omega), aw_ints_of he]
  show (if i < 0 ∨ fl_len a ≤ i.toNatClampNeg then none else _) = _
  rw [if_neg (by rw [fi_l, fi_i0, fi_cl]; omega)]
theorem fw_k9 (hB : fw_B B) {i : Int32} (hi : B.1 pc = some (.iaload, 1)) (h1 : 0 ≤ i.toInt) (h2 : i.toInt < 6) (k : fw d B (pc + 1, ls, .int (M 999 i.toNatClampNeg) :: st, M, J)) : fw d B (pc, ls, .int i :: .ref 999 :: st, M, J) := by
  refine fw_s (st' := .int (M 999 i.toNatClampNeg) :: st) hB hi (fun h lv hH hl => ⟨h, ?_⟩) rfl k
  obtain ⟨hh, rfl, rfl⟩ := hH
  show (if i < 0 ∨ 6 ≤ i.toNatClampNeg then none else some (pc + 1, lv, Value.int (sm_kl i.toNatClampNeg) :: st, h)) = _
  rw [if_neg (by rw [fi_l, fi_i0, fi_cl]; omega)]
  rfl
theorem fw_ba (hB : fw_B B) {a : Nat} {i : Int32} (hi : B.1 pc = some (.baload, 1)) (hk : fl_kd a = 1) (ha : a < 98) (h1 : 0 ≤ i.toInt) (h2 : i.toInt < (fl_len a : Int)) (k : fw d B (pc + 1, ls, .int (M a i.toNatClampNeg) :: st, M, J)) : fw d B (pc, ls, .int i :: .ref a :: st, M, J) := by
  refine fw_s (st' := .int (M a i.toNatClampNeg) :: st) hB hi (fun h lv hH hl => ⟨h, ?_⟩) rfl k
  obtain ⟨hh, rfl, rfl⟩ := hH
  have he := fw_arr hh hk (by decide) ha
  show (sm_byts h a).bind _ = _
  rw [aw_byts_of he]
  show (if i < 0 ∨ fl_len a ≤ i.toNatClampNeg then none else _) = _
  rw [if_neg (by rw [fi_l, fi_i0, fi_cl]; omega)]
theorem fw_aa (hB : fw_B B) {a : Nat} {i : Int32} (hi : B.1 pc = some (.aaload, 1)) (hk : 2 ≤ fl_kd a ∧ fl_kd a < 5) (ha : a < 98) (h1 : 0 ≤ i.toInt) (h2 : i.toInt < (fl_len a : Int)) (k : fw d B (pc + 1, ls, .ref (fl_ar a i.toNatClampNeg) :: st, M, J)) : fw d B (pc, ls, .int i :: .ref a :: st, M, J) := by
  refine fw_s (st' := .ref (fl_ar a i.toNatClampNeg) :: st) hB hi (fun h lv hH hl => ⟨h, ?_⟩) rfl k
  obtain ⟨hh, rfl, rfl⟩ := hH
  obtain ⟨f, he, hf⟩ := fw_refs hh rfl hk.1 hk.2 ha
  have hr : sm_refs h a = some (fl_kd a, fl_len a, f) := by unfold sm_refs; rw [he]; exact if_pos hk
  show (sm_refs h a).bind _ = _
  rw [hr]
  show (if i < 0 ∨ fl_len a ≤ i.toNatClampNeg then none else (f i.toNatClampNeg).bind _) = _
  rw [if_neg (by rw [fi_l, fi_i0, fi_cl]; omega), hf _ (by rw [fi_cl]; omega)]
  rfl
theorem fw_ia2 (hB : fw_B B) {a : Nat} {i x : Int32} (hi : B.1 pc = some (.iastore, 1)) (hk : fl_kd a = 0) (ha : a < 98) (h1 : 0 ≤ i.toInt) (h2 : i.toInt < (fl_len a : Int)) (k : fw d B (pc + 1, ls, st, fl_u M a i.toNatClampNeg x, J)) : fw d B (pc, ls, .int x :: .int i :: .ref a :: st, M, J) := by
  refine fw_s (st' := st) hB hi (fun h lv hH hl => ?_) rfl k
  obtain ⟨hh, rfl, rfl⟩ := hH
  have he := fw_arr hh hk (by decide) ha
  refine ⟨h.set a (.inl (0, fl_len a, .inl (upd (fm_i h a) i.toNatClampNeg x))), ?_⟩
  show (sm_ints h a).bind _ = _
  rw [aw_ints_of he]
  show (if i < 0 ∨ fl_len a ≤ i.toNatClampNeg then none else _) = _
  rw [if_neg (by rw [fi_l, fi_i0, fi_cl]; omega)]
/-- what is to be known of a call: a run of it is there, and what it answers -/
def fw_C (d k : Nat) (vs : List Value) (M : fl_M) (J : fl_J) : Prop := ∀ h : List va_E, fw_H M J h → ∃ o h', sm_Ex 200 sm_ML sm_B d k vs h o h'
theorem fw_call (hB : fw_B B) {i : Instr} {n k : Nat} {vs r : List Value} {o : Option Value} {M' : fl_M} {J' : fl_J} (hi : B.1 pc = some (i, n)) (hc : ∀ h, fw_H M J h → sm_cal B.2.2.1 i n st h k vs r) (hx : fw_C d k vs M J) (hF : fl_C k vs M J (o, M', J')) (kk : fw d B (pc + 3, ls, o.toList ++ r, M', J')) : fw d B (pc, ls, st, M, J) := by
  intro h lv hH hl
  have hc1 := hc h hH
  obtain ⟨o1, h1, x⟩ := hx h hH
  obtain ⟨hh, rfl, rfl⟩ := hH
  obtain ⟨s1, e1, e2, e3⟩ := fl_use x hh hF
  obtain ⟨g, o2, h', hr⟩ := kk h1 lv ⟨s1, e2, e3⟩ hl
  have e1 : o1 = o := e1
  subst e1
  exact ⟨g + 1, o2, h', ⟨i, n, hi, Or.inr (Or.inr ⟨k, vs, r, o1, h1, hc1, x, hr⟩)⟩⟩
theorem fw_re {i : Instr} {n : Nat} {o : Option Value} (hi : B.1 pc = some (i, n)) (hr : sm_ret B.2.2.2 i n st o) : fw d B (pc, ls, st, M, J) := fun h _ _ _ => ⟨1, o, h, ⟨i, n, hi, Or.inl ⟨hr, rfl⟩⟩⟩
end FW

/-! Both at once: a run is there, and what it comes to. -/
def tw (d : Nat) (B : sm_P) (s : fl_S) (r : fl_Q) : Prop := fw d B s ∧ fl_dn B s r
def tw_C (d k : Nat) (vs : List Value) (M : fl_M) (J : fl_J) (r : fl_Q) : Prop := fw_C d k vs M J ∧ fl_C k vs M J r
theorem fw_go1 {B : sm_P} {i : Instr} {n pc : Nat} {ls st : List Value} {M : fl_M} {J : fl_J} {s' : fl_S} (hi : B.1 pc = some (i, n)) (hc : fw_c B.2.1 i n pc ls st = true) (hf : fl_step B.2.1 i pc ls st M J = some s') : fl_go B (pc, ls, st, M, J) s' := by
  refine fl_i1 (fun d f => ?_)
  have e : fl_one B (fl_ex d f) (pc, ls, st, M, J) = (fl_step B.2.1 i pc ls st M J).map .inr := by
    unfold fl_one
    dsimp only
    rw [hi]
    cases i with
    | ireturn => cases hc
    | lreturn => cases hc
    | return_ => cases hc
    | invokevirtual x => cases hc
    | invokestatic x => cases hc
    | _ => rfl
  rw [e, hf]
  rfl
theorem fw_gon {B : sm_P} (m : Nat) : ∀ {s s' : fl_S}, fw_m B m s = some s' → fl_go B s s' := by
  induction m with
  | zero => intro s s' h; cases h; exact fl_rfl
  | succ m ih =>
    intro s s' h
    unfold fw_m at h
    obtain ⟨q, hq, h⟩ := sm_bd h
    obtain ⟨h1, h⟩ := sm_if h
    obtain ⟨t, ht, h⟩ := sm_bd h
    exact fl_tr (fw_go1 (pc := s.1) (ls := s.2.1) (st := s.2.2.1) (M := s.2.2.2.1) (J := s.2.2.2.2) hq h1 ht) (ih h)
section TW
variable {d : Nat} {B : sm_P} {pc : Nat} {ls st : List Value} {M : fl_M} {J : fl_J} {s s' : fl_S} {r : fl_Q}
theorem tw_n (hB : fw_B B) (m : Nat) (h : fw_m B m s = some s') (k : tw d B s' r) : tw d B s r := ⟨fw_n hB m h k.1, fl_td (fw_gon m h) k.2⟩
theorem tw_ic (hB : fw_B B) {q : Jvm.ClassFile.Cond} {off : Int} {t : Nat} {x y : Int32} {c : Prop} [Decidable c] (hi : B.1 pc = some (.if_icmp q off, 3)) (ht : sm_j pc off = some t) (hb : sm_cmp q x y = true ↔ c) (k1 : c → tw d B (t, ls, st, M, J) r) (k2 : ¬ c → tw d B (pc + 3, ls, st, M, J) r) : tw d B (pc, ls, .int y :: .int x :: st, M, J) r :=
  ⟨fw_ic hB hi ht hb (fun z => (k1 z).1) (fun z => (k2 z).1), fl_dtwo (fl_ic hi ht) hb (fun z => (k1 z).2) (fun z => (k2 z).2)⟩
theorem tw_if (hB : fw_B B) {q : Jvm.ClassFile.Cond} {off : Int} {t : Nat} {x : Int32} {c : Prop} [Decidable c] (hi : B.1 pc = some (.ifCond q off, 3)) (ht : sm_j pc off = some t) (hb : sm_cmp q x 0 = true ↔ c) (k1 : c → tw d B (t, ls, st, M, J) r) (k2 : ¬ c → tw d B (pc + 3, ls, st, M, J) r) : tw d B (pc, ls, .int x :: st, M, J) r :=
  ⟨fw_if hB hi ht hb (fun z => (k1 z).1) (fun z => (k2 z).1), fl_dtwo (fl_if hi ht) hb (fun z => (k1 z).2) (fun z => (k2 z).2)⟩
/-- the same, the condition's other way first -/
theorem tw_icN (hB : fw_B B) {q : Jvm.ClassFile.Cond} {off : Int} {t : Nat} {x y : Int32} {c : Prop} [Decidable c] (hi : B.1 pc = some (.if_icmp q off, 3)) (ht : sm_j pc off = some t) (hb : sm_cmp q x y = true ↔ ¬ c) (k1 : c → tw d B (pc + 3, ls, st, M, J) r) (k2 : ¬ c → tw d B (t, ls, st, M, J) r) : tw d B (pc, ls, .int y :: .int x :: st, M, J) r :=
  tw_ic hB hi ht hb k2 (fun z => k1 (Decidable.not_not.mp z))
theorem tw_ifN (hB : fw_B B) {q : Jvm.ClassFile.Cond} {off : Int} {t : Nat} {x : Int32} {c : Prop} [Decidable c] (hi : B.1 pc = some (.ifCond q off, 3)) (ht : sm_j pc off = some t) (hb : sm_cmp q x 0 = true ↔ ¬ c) (k1 : c → tw d B (pc + 3, ls, st, M, J) r) (k2 : ¬ c → tw d B (t, ls, st, M, J) r) : tw d B (pc, ls, .int x :: st, M, J) r :=
  tw_if hB hi ht hb k2 (fun z => k1 (Decidable.not_not.mp z))
theorem tw_ia (hB : fw_B B) {a : Nat} {i : Int32} (hi : B.1 pc = some (.iaload, 1)) (hk : fl_kd a = 0) (ha : a < 98) (h1 : 0 ≤ i.toInt) (h2 : i.toInt < (fl_len a : Int)) (k : tw d B (pc + 1, ls, .int (M a i.toNatClampNeg) :: st, M, J) r) : tw d B (pc, ls, .int i :: .ref a :: st, M, J) r :=
  ⟨fw_ia hB hi hk ha h1 h2 k.1, fl_td (fl_i1 (fun d f => by unfold fl_one; dsimp only; rw [hi]; rfl)) k.2⟩
theorem tw_k9 (hB : fw_B B) {i : Int32} (hi : B.1 pc = some (.iaload, 1)) (h1 : 0 ≤ i.toInt) (h2 : i.toInt < 6) (k : tw d B (pc + 1, ls, .int (M 999 i.toNatClampNeg) :: st, M, J) r) : tw d B (pc, ls, .int i :: .ref 999 :: st, M, J) r :=
  ⟨fw_k9 hB hi h1 h2 k.1, fl_td (fl_i1 (fun d f => by unfold fl_one; dsimp only; rw [hi]; rfl)) k.2⟩
theorem tw_ba (hB : fw_B B) {a : Nat} {i : Int32} (hi : B.1 pc = some (.baload, 1)) (hk : fl_kd a = 1) (ha : a < 98) (h1 : 0 ≤ i.toInt) (h2 : i.toInt < (fl_len a : Int)) (k : tw d B (pc + 1, ls, .int (M a i.toNatClampNeg) :: st, M, J) r) : tw d B (pc, ls, .int i :: .ref a :: st, M, J) r :=
  ⟨fw_ba hB hi hk ha h1 h2 k.1, fl_td (fl_i1 (fun d f => by unfold fl_one; dsimp only; rw [hi]; rfl)) k.2⟩
theorem tw_aa (hB : fw_B B) {a : Nat} {i : Int32} (hi : B.1 pc = some (.aaload, 1)) (hk : 2 ≤ fl_kd a ∧ fl_kd a < 5) (ha : a < 98) (h1 : 0 ≤ i.toInt) (h2 : i.toInt < (fl_len a : Int)) (k : tw d B (pc + 1, ls, .ref (fl_ar a i.toNatClampNeg) :: st, M, J) r) : tw d B (pc, ls, .int i :: .ref a :: st, M, J) r :=
  ⟨fw_aa hB hi hk ha h1 h2 k.1, fl_td (fl_i1 (fun d f => by unfold fl_one; dsimp only; rw [hi]; rfl)) k.2⟩
theorem tw_is (hB : fw_B B) {a : Nat} {i x : Int32} (hi : B.1 pc = some (.iastore, 1)) (hk : fl_kd a = 0) (ha : a < 98) (h1 : 0 ≤ i.toInt) (h2 : i.toInt < (fl_len a : Int)) (k : tw d B (pc + 1, ls, st, fl_u M a i.toNatClampNeg x, J) r) : tw d B (pc, ls, .int x :: .int i :: .ref a :: st, M, J) r :=
  ⟨fw_ia2 hB hi hk ha h1 h2 k.1, fl_td (fl_i1 (fun d f => by unfold fl_one; dsimp only; rw [hi]; rfl)) k.2⟩
/-- calls -/
theorem tw_cv (hB : fw_B B) {x k np ci m b : Nat} {As st0 st' : List Value} {o : Option Value} {M' : fl_M} {J' : fl_J} (hi : B.1 pc = some (.invokevirtual x, 3)) (hc : B.2.2.1 x = some (0, k, np, ci)) (hm : m = np + 1) (hn : np = As.length) (hst : st = As.reverse ++ .ref b :: st0) (hcat : (st0.map fun v => v.category).sum ≤ 8) (hkd : fl_kd b = 10 + ci) (hci : ci < 4) (hC : tw_C d k (.ref b :: As) M J (o, M', J')) (hr : o.toList ++ st0 = st') (kk : tw d B (pc + 3, ls, st', M', J') r) : tw d B (pc, ls, st, M, J) r := by
  subst hst
  subst hn
  subst hr
  refine ⟨fw_call hB hi (fun h hH => ?_) hC.1 hC.2 kk.1, fl_td (fl_cv hi hc hm ?_ hC.2 ?_) kk.2⟩
  · obtain ⟨fs, hf, -⟩ := fw_obj hH.1 hkd hci
    exact ⟨rfl, hcat, Or.inl ⟨x, ci, b, As, rfl, hc, rfl, rfl, fs, hf⟩⟩
  · subst hm
    rw [show As.reverse ++ Value.ref b :: st0 = (As.reverse ++ [.ref b]) ++ st0 by simp, List.take_left' (by simp)]
    simp
  · subst hm
    rw [show As.reverse ++ Value.ref b :: st0 = (As.reverse ++ [.ref b]) ++ st0 by simp, List.drop_left' (by simp)]
theorem tw_cs (hB : fw_B B) {x k np ci t : Nat} {vs st0 st' : List Value} {o : Option Value} {M' : fl_M} {J' : fl_J} (hi : B.1 pc = some (.invokestatic x, 3)) (hc : B.2.2.1 x = some (t, k, np, ci)) (ht : t = 1 ∨ t = 2) (hn : np = vs.length) (hst : st = vs.reverse ++ st0) (hcat : (st0.map fun v => v.category).sum ≤ 8) (hC : tw_C d k vs M J (o, M', J')) (hr : o.toList ++ st0 = st') (kk : tw d B (pc + 3, ls, st', M', J') r) : tw d B (pc, ls, st, M, J) r := by
  subst hst
  subst hn
  subst hr
  refine ⟨fw_call hB hi (fun h hH => ?_) hC.1 hC.2 kk.1, fl_td (fl_cs hi hc ?_ hC.2 ?_) kk.2⟩
  · rcases ht with rfl | rfl
    · exact ⟨rfl, hcat, Or.inr (Or.inl ⟨x, ci, rfl, hc, rfl⟩)⟩
    · exact ⟨rfl, hcat, Or.inr (Or.inr ⟨x, ci, rfl, hc, rfl⟩)⟩
  · rw [List.take_left' (by simp)]
    simp
  · rw [List.drop_left' (by simp)]
theorem tw_ri {v : Int32} (hi : B.1 pc = some (.ireturn, 1)) (hr : B.2.2.2 = some .int) (e : (some (.int v), M, J) = r) : tw d B (pc, ls, [.int v], M, J) r :=
  ⟨fw_re (o := some (.int v)) hi ⟨rfl, Or.inl ⟨rfl, v, rfl, rfl, Or.inl hr⟩⟩, fl_rt hi (fun X => by unfold fl_one; dsimp only; rw [hi]; rfl) e⟩
theorem tw_rb {v : Int32} (hi : B.1 pc = some (.ireturn, 1)) (hr : B.2.2.2 = some .boolean) (hv : v = 0 ∨ v = 1) (e : (some (.int v), M, J) = r) : tw d B (pc, ls, [.int v], M, J) r :=
  ⟨fw_re (o := some (.int v)) hi ⟨rfl, Or.inl ⟨rfl, v, rfl, rfl, Or.inr ⟨hr, hv⟩⟩⟩, fl_rt hi (fun X => by unfold fl_one; dsimp only; rw [hi]; rfl) e⟩
theorem tw_rv (hi : B.1 pc = some (.return_, 1)) (hr : B.2.2.2 = none) (e : (none, M, J) = r) : tw d B (pc, ls, [], M, J) r :=
  ⟨fw_re (o := none) hi ⟨rfl, Or.inr (Or.inr ⟨rfl, rfl, rfl, hr⟩)⟩, fl_rt hi (fun X => by unfold fl_one; dsimp only; rw [hi]; rfl) e⟩
theorem tw_de {r' : fl_Q} (h : tw d B s r') (e : r' = r) : tw d B s r := e ▸ h
theorem tw_dc {c : Prop} [Decidable c] (h1 : c → tw d B s r) (h2 : ¬ c → tw d B s r) : tw d B s r := by
  by_cases hc : c
  · exact h1 hc
  · exact h2 hc
end TW
theorem tw_Co {d k : Nat} {B : sm_P} {vs ls : List Value} {M : fl_M} {J : fl_J} {r : fl_Q} (hk : k < 200) (hB : sm_B k = B) (hl : fl_args (sm_ML k) vs = ls) (hv : (lg_sl vs).length ≤ sm_ML k) (hg : ∀ (i : Nat) (v : Value), ls[i]? = some v → v ≠ .null → sm_get (lv_args 0 vs) i = some v) (h : tw d B (0, ls, [], M, J) r) : tw_C (d + 1) k vs M J r := by
  refine ⟨fun hp hH => ?_, fl_Co hB hl h.2⟩
  have hv2 : (fl_sl vs).length ≤ sm_ML k := by rw [fl_sl_len]; exact hv
  have e : B.2.1.2.2.2.2.2.1 = sm_ML k := by rw [← hB]; rfl
  obtain ⟨g, o, h', hr⟩ := h.1 hp (lv_args 0 vs) hH ⟨⟨by
    rw [e, ← hl]
    unfold fl_args
    rw [List.length_append, List.length_replicate]
    omega, fun q hq => by rw [← hl]; exact fl_sl_at vs [] _ q hq⟩, hg⟩
  exact ⟨o, h', hk, hv, g, by rw [hB]; exact hr⟩
theorem fw_kok : (List.range 4).all (fun o => (sm_fl o).all fun q => decide (q.2.1 < 4)) = true := by decide +kernel
theorem fw_sB {k : Nat} (hk : k < 200) : fw_B (sm_B k) := by
  refine ⟨fl_Kn hk, fun x q h => ?_, ut_sB hk⟩
  have h : sm_lk (sm_fl (sm_O k)) x = some q := h
  obtain ⟨g1, g2, g3, g4, g5, g6, g7, g8, g9⟩ := sm_mgood_all _ (sm_m_in (k := k) (by rw [sm_md_len]; exact hk))
  exact of_decide_eq_true (List.all_eq_true.mp (List.all_eq_true.mp fw_kok (sm_O k) (List.mem_range.mpr g7)) _ (sm_lk_s h))
theorem tw_sh {d : Nat} {B : sm_P} {s : fl_S} {r : fl_Q} (h : tw d B s r) : tw d B s r := h
theorem tw_Ce {d k : Nat} {vs : List Value} {M : fl_M} {J : fl_J} {r r' : fl_Q} (h : tw_C d k vs M J r) (e : r = r') : tw_C d k vs M J r' := e ▸ h
/-! Reading a text: figures, letters of kinds, blanks. -/
def fg (b : Nat → Int32) (n q lo hi : Int32) : Bool := decide (q < n) && (!decide (b q.toNatClampNeg - 48 < lo) && !decide (hi < b q.toNatClampNeg - 48))
theorem fg_lt {b : Nat → Int32} {n q lo hi : Int32} (h : fg b n q lo hi = true) : q.toInt < n.toInt := by
  obtain ⟨h1, -⟩ := sm_an h
  exact fi_l.mp (of_decide_eq_true h1)
theorem fg_eq {b : Nat → Int32} {n q lo hi : Int32} (h : q.toInt ≤ n.toInt) : (if q < n then (if (b q.toNatClampNeg) - 48 < lo then q else (if hi < (b q.toNatClampNeg) - 48 then q else (-9))) else n) = if fg b n q lo hi = true then (-9) else q := by
  unfold fg
  by_cases h1 : q < n
  · by_cases h2 : b q.toNatClampNeg - 48 < lo
    · simp [h1, h2]
    · by_cases h3 : hi < b q.toNatClampNeg - 48
      · simp [h1, h2, h3]
      · simp [h1, h2, h3]
  · have e : n = q := by
      rw [fi_l] at h1
      rw [fi_e]
      omega
    simp [h1, e]
/-- the kind that a letter tells -/
def fk (c : Int32) : Int32 := if c = 109 then 0 else if c = 121 then 1 else if c = 111 then 2 else if c = 104 then 3 else if c = 119 then 4 else if c = 103 then 5 else (-9)
theorem fi_p1 {p : Int32} (h : p.toInt < 2147483647) : (p + 1).toInt = p.toInt + 1 := by
  have := p.le_toInt
  rw [fi_add (by rw [fi_i1]; omega) (by rw [fi_i1]; omega), fi_i1]
def fB20 : sm_P := (fun pc => sm_ch sm_t20 pc, sm_Kn 2 2 none, fun x => sm_lk sm_ca2 x, some .int)
theorem cr_20 (d : Nat) (M : fl_M) (J : fl_J) (c : Int32) : tw_C (d + 1) 20 [.int c] M J (some (.int (if (M 999 0) = c then 0 else (if (M 999 1) = c then 1 else (if (M 999 2) = c then 2 else (if (M 999 3) = c then 3 else (if (M 999 4) = c then 4 else (if (M 999 5) = c then 5 else (-9)))))))), M, J) := by
  have hB : fw_B fB20 := fw_sB (k := 20) (by decide)
  refine tw_Co (d := d + 0) (B := fB20) (by decide) rfl rfl (show (1 : Nat) ≤ 2 by decide) ?_ ?_
  · intro i v hv hn
    match i, hv with
    | 0, hv => cases hv; rfl
    | 1, hv => cases hv; exact absurd rfl hn
    | _ + 2, hv => cases hv
  exact tw_n (s' := (12, [.int c, .int 0], [.int 0, .ref 999], M, J)) hB 7 rfl <|
  tw_k9 hB rfl (by decide) (by decide) <|
  tw_n (s' := (14, [.int c, .int 0], [.int c, .int (M 999 0)], M, J)) hB 1 rfl <|
  tw_icN hB (t := 19) rfl rfl fl_cF (fun h1 =>
   tw_n (s' := (18, [.int c, .int 0], [.int 0], M, J)) hB 1 rfl <|
   tw_ri rfl rfl (by first | (simp only [if_pos h1]; done) | rfl)) (fun h1 =>
   tw_n (s' := (12, [.int c, .int 1], [.int 1, .ref 999], M, J)) hB 7 rfl <|
   tw_k9 hB rfl (by decide) (by decide) <|
   tw_n (s' := (14, [.int c, .int 1], [.int c, .int (M 999 1)], M, J)) hB 1 rfl <|
   tw_icN hB (t := 19) rfl rfl fl_cF (fun h2 =>
    tw_n (s' := (18, [.int c, .int 1], [.int 1], M, J)) hB 1 rfl <|
    tw_ri rfl rfl (by first | (simp only [if_neg h1, if_pos h2]; done) | rfl)) (fun h2 =>
    tw_n (s' := (12, [.int c, .int 2], [.int 2, .ref 999], M, J)) hB 7 rfl <|
    tw_k9 hB rfl (by decide) (by decide) <|
    tw_n (s' := (14, [.int c, .int 2], [.int c, .int (M 999 2)], M, J)) hB 1 rfl <|
    tw_icN hB (t := 19) rfl rfl fl_cF (fun h3 =>
     tw_n (s' := (18, [.int c, .int 2], [.int 2], M, J)) hB 1 rfl <|
     tw_ri rfl rfl (by first | (simp only [if_neg h1, if_neg h2, if_pos h3]; done) | rfl)) (fun h3 =>
     tw_n (s' := (12, [.int c, .int 3], [.int 3, .ref 999], M, J)) hB 7 rfl <|
     tw_k9 hB rfl (by decide) (by decide) <|
     tw_n (s' := (14, [.int c, .int 3], [.int c, .int (M 999 3)], M, J)) hB 1 rfl <|
     tw_icN hB (t := 19) rfl rfl fl_cF (fun h4 =>
      tw_n (s' := (18, [.int c, .int 3], [.int 3], M, J)) hB 1 rfl <|
      tw_ri rfl rfl (by first | (simp only [if_neg h1, if_neg h2, if_neg h3, if_pos h4]; done) | rfl)) (fun h4 =>
      tw_n (s' := (12, [.int c, .int 4], [.int 4, .ref 999], M, J)) hB 7 rfl <|
      tw_k9 hB rfl (by decide) (by decide) <|
      tw_n (s' := (14, [.int c, .int 4], [.int c, .int (M 999 4)], M, J)) hB 1 rfl <|
      tw_icN hB (t := 19) rfl rfl fl_cF (fun h5 =>
       tw_n (s' := (18, [.int c, .int 4], [.int 4], M, J)) hB 1 rfl <|
       tw_ri rfl rfl (by first | (simp only [if_neg h1, if_neg h2, if_neg h3, if_neg h4, if_pos h5]; done) | rfl)) (fun h5 =>
       tw_n (s' := (12, [.int c, .int 5], [.int 5, .ref 999], M, J)) hB 7 rfl <|
       tw_k9 hB rfl (by decide) (by decide) <|
       tw_n (s' := (14, [.int c, .int 5], [.int c, .int (M 999 5)], M, J)) hB 1 rfl <|
       tw_icN hB (t := 19) rfl rfl fl_cF (fun h6 =>
        tw_n (s' := (18, [.int c, .int 5], [.int 5], M, J)) hB 1 rfl <|
        tw_ri rfl rfl (by first | (simp only [if_neg h1, if_neg h2, if_neg h3, if_neg h4, if_neg h5, if_pos h6]; done) | rfl)) (fun h6 =>
        tw_n (s' := (27, [.int c, .int 6], [.int (-9)], M, J)) hB 6 rfl <|
        tw_ri rfl rfl (by first | (simp only [if_neg h1, if_neg h2, if_neg h3, if_neg h4, if_neg h5, if_neg h6]; done) | rfl)))))))
theorem fk_eq (M : fl_M) (c : Int32) (h : M 999 = sm_kl) : (if (M 999 0) = c then 0 else (if (M 999 1) = c then 1 else (if (M 999 2) = c then 2 else (if (M 999 3) = c then 3 else (if (M 999 4) = c then 4 else (if (M 999 5) = c then 5 else (-9))))))) = fk c := by
  rw [h]
  unfold fk
  simp only [show sm_kl 0 = 109 from rfl, show sm_kl 1 = 121 from rfl, show sm_kl 2 = 111 from rfl, show sm_kl 3 = 104 from rfl, show sm_kl 4 = 119 from rfl, show sm_kl 5 = 103 from rfl, @eq_comm Int32 _ c]
theorem cc_20 (d : Nat) (M : fl_M) (J : fl_J) (c : Int32) (h : M 999 = sm_kl) : tw_C (d + 1) 20 [.int c] M J (some (.int (fk c)), M, J) := tw_Ce (cr_20 d M J c) (by rw [fk_eq M c h])
def fB18 : sm_P := (fun pc => sm_ch sm_t18 pc, sm_Kn 2 6 none, fun x => sm_lk sm_ca2 x, some .int)
theorem cr_18 (d : Nat) (M : fl_M) (J : fl_J) (size p lo hi : Int32) (a : Nat) (hk : fl_kd a = 1) (hl : fl_len a = 60) (hq : 0 ≤ p.toInt) (hs : size.toInt ≤ 60) : tw_C (d + 1) 18 [.ref a, .int size, .int p, .int lo, .int hi] M J (some (.int (if p < size then (if ((M a p.toNatClampNeg) - 48) < lo then p else (if hi < ((M a p.toNatClampNeg) - 48) then p else (-9))) else size)), M, J) := by
  have hB : fw_B fB18 := fw_sB (k := 18) (by decide)
  refine tw_Co (d := d + 0) (B := fB18) (by decide) rfl rfl (show (5 : Nat) ≤ 6 by decide) ?_ ?_
  · intro i v hv hn
    match i, hv with
    | 0, hv => cases hv; rfl
    | 1, hv => cases hv; rfl
    | 2, hv => cases hv; rfl
    | 3, hv => cases hv; rfl
    | 4, hv => cases hv; rfl
    | 5, hv => cases hv; exact absurd rfl hn
    | _ + 6, hv => cases hv
  exact tw_n (s' := (2, [.ref a, .int size, .int p, .int lo, .int hi, .null], [.int size, .int p], M, J)) hB 2 rfl <|
  tw_ic hB (t := 7) rfl rfl fl_cT (fun h1 =>
   tw_n (s' := (9, [.ref a, .int size, .int p, .int lo, .int hi, .null], [.int p, .ref a], M, J)) hB 2 rfl <|
   tw_ba hB rfl hk (fw_98 hk (by decide)) (by omega) (by have z := fi_l.mp h1; rw [hl]; omega) <|
   tw_n (s' := (18, [.ref a, .int size, .int p, .int lo, .int hi, .int ((M a p.toNatClampNeg) - 48)], [.int lo, .int ((M a p.toNatClampNeg) - 48)], M, J)) hB 5 rfl <|
   tw_ic hB (t := 28) rfl rfl fl_cT (fun h2 =>
    tw_n (s' := (34, [.ref a, .int size, .int p, .int lo, .int hi, .int ((M a p.toNatClampNeg) - 48)], [.int p], M, J)) hB 2 rfl <|
    tw_ri rfl rfl (by first | (simp only [if_pos h1, if_pos h2]; done) | rfl)) (fun h2 =>
    tw_n (s' := (25, [.ref a, .int size, .int p, .int lo, .int hi, .int ((M a p.toNatClampNeg) - 48)], [.int hi, .int ((M a p.toNatClampNeg) - 48)], M, J)) hB 2 rfl <|
    tw_icN hB (t := 32) rfl rfl fl_nle (fun h3 =>
     tw_n (s' := (34, [.ref a, .int size, .int p, .int lo, .int hi, .int ((M a p.toNatClampNeg) - 48)], [.int p], M, J)) hB 2 rfl <|
     tw_ri rfl rfl (by first | (simp only [if_pos h1, if_neg h2, if_pos h3]; done) | rfl)) (fun h3 =>
     tw_n (s' := (34, [.ref a, .int size, .int p, .int lo, .int hi, .int ((M a p.toNatClampNeg) - 48)], [.int (-9)], M, J)) hB 1 rfl <|
     tw_ri rfl rfl (by first | (simp only [if_pos h1, if_neg h2, if_neg h3]; done) | rfl)))) (fun h1 =>
   tw_n (s' := (6, [.ref a, .int size, .int p, .int lo, .int hi, .null], [.int size], M, J)) hB 1 rfl <|
   tw_ri rfl rfl (by first | (simp only [if_neg h1]; done) | rfl))
theorem cc_18 (d : Nat) (M : fl_M) (J : fl_J) (a : Nat) (size p lo hi : Int32) (hk : fl_kd a = 1) (hl : fl_len a = 60) (hq : 0 ≤ p.toInt) (hs : size.toInt ≤ 60) (hn : p.toInt ≤ size.toInt) : tw_C (d + 1) 18 [.ref a, .int size, .int p, .int lo, .int hi] M J (some (.int (if fg (M a) size p lo hi = true then (-9) else p)), M, J) := tw_Ce (cr_18 d M J size p lo hi a hk hl hq hs) (by rw [← fg_eq hn])
def fB17 : sm_P := (fun pc => sm_ch sm_t17 pc, sm_Kn 2 6 none, fun x => sm_lk sm_ca2 x, some .int)
theorem cc_17 (d : Nat) (M : fl_M) (J : fl_J) (size p : Int32) (a : Nat) (hk : fl_kd a = 1) (hl : fl_len a = 60) (hq : 0 ≤ p.toInt) (hs : size.toInt ≤ 60) (hn : p.toInt < size.toInt) (hL : 0 ≤ (M 24 0).toInt) (hK : M 999 = sm_kl) : tw_C (d + 2) 17 [.ref 0, .ref a, .int size, .int p] M J (some (.int (if 0 < (M 24 1) then p else (if (M 24 0) < 8 then (if fg (M a) size (p + 1) 0 9 = true then (if fg (M a) size ((p + 1) + 1) 0 9 = true then (if fg (M a) size (((p + 1) + 1) + 1) 0 9 = true then (if (((10 * ((M a ((p + 2).toNatClampNeg)) - 48)) + (M a ((p + 3).toNatClampNeg))) - 48) < 1 then p + 2 else (if 40 < (((10 * ((M a ((p + 2).toNatClampNeg)) - 48)) + (M a ((p + 3).toNatClampNeg))) - 48) then p + 2 else (-9))) else ((p + 1) + 1) + 1) else (p + 1) + 1) else p + 1) else p))), (if 0 < (M 24 1) then M else (if (M 24 0) < 8 then (if fg (M a) size (p + 1) 0 9 = true then (if fg (M a) size ((p + 1) + 1) 0 9 = true then (if fg (M a) size (((p + 1) + 1) + 1) 0 9 = true then (if (((10 * ((M a ((p + 2).toNatClampNeg)) - 48)) + (M a ((p + 3).toNatClampNeg))) - 48) < 1 then M else (if 40 < (((10 * ((M a ((p + 2).toNatClampNeg)) - 48)) + (M a ((p + 3).toNatClampNeg))) - 48) then M else (fl_u (fl_u (fl_u M 25 ((M 24 0).toNatClampNeg) ((M a ((p + 1).toNatClampNeg)) - 48)) 26 ((M 24 0).toNatClampNeg) (((10 * ((M a ((p + 2).toNatClampNeg)) - 48)) + (M a ((p + 3).toNatClampNeg))) - 48)) 24 0 ((M 24 0) + 1)))) else M) else M) else M) else M)), J) := by
  have hB : fw_B fB17 := fw_sB (k := 17) (by decide)
  have e1 : (p + 1).toInt = p.toInt + 1 := fi_p1 (by omega)
  have e2 : (p + 2).toInt = p.toInt + 2 := by rw [fi_add (by rw [show (2 : Int32).toInt = 2 from rfl]; omega) (by rw [show (2 : Int32).toInt = 2 from rfl]; omega)]; rfl
  have e3 : (p + 3).toInt = p.toInt + 3 := by rw [fi_add (by rw [show (3 : Int32).toInt = 3 from rfl]; omega) (by rw [show (3 : Int32).toInt = 3 from rfl]; omega)]; rfl
  have e4 : (p + 4).toInt = p.toInt + 4 := by rw [fi_add (by rw [show (4 : Int32).toInt = 4 from rfl]; omega) (by rw [show (4 : Int32).toInt = 4 from rfl]; omega)]; rfl
  have g2 : (p + 1 + 1).toInt = p.toInt + 2 := by rw [fi_p1 (by omega), e1]; omega
  have g3 : (p + 1 + 1 + 1).toInt = p.toInt + 3 := by rw [fi_p1 (by omega), g2]; omega
  have g4 : (p + 1 + 1 + 1 + 1).toInt = p.toInt + 4 := by rw [fi_p1 (by omega), g3]; omega
  have k1 : (p + 1) < (p + 4) := fi_l.mpr (by omega)
  have k2 : (p + 1 + 1) < (p + 4) := fi_l.mpr (by omega)
  have k3 : (p + 1 + 1 + 1) < (p + 4) := fi_l.mpr (by omega)
  have k4 : ¬ (p + 1 + 1 + 1 + 1) < (p + 4) := fun z => by have z := fi_l.mp z; omega
  have n1 : ¬ (p + 1) = (-9) := fun z => by have z := fi_e.mp z; rw [show (-9 : Int32).toInt = -9 from rfl] at z; omega
  have n2 : ¬ (p + 1 + 1) = (-9) := fun z => by have z := fi_e.mp z; rw [show (-9 : Int32).toInt = -9 from rfl] at z; omega
  have n3 : ¬ (p + 1 + 1 + 1) = (-9) := fun z => by have z := fi_e.mp z; rw [show (-9 : Int32).toInt = -9 from rfl] at z; omega
  have n4 : ¬ (p + 2) = (-9) := fun z => by have z := fi_e.mp z; rw [show (-9 : Int32).toInt = -9 from rfl] at z; omega
  refine tw_Co (d := d + 1) (B := fB17) (by decide) rfl rfl (show (4 : Nat) ≤ 6 by decide) ?_ ?_
  · intro i v hv hn
    match i, hv with
    | 0, hv => cases hv; rfl
    | 1, hv => cases hv; rfl
    | 2, hv => cases hv; rfl
    | 3, hv => cases hv; rfl
    | 4, hv => cases hv; exact absurd rfl hn
    | 5, hv => cases hv; exact absurd rfl hn
    | _ + 6, hv => cases hv
  exact tw_n (s' := (7, [.ref 0, .ref a, .int size, .int p, .null, .null], [.int (M 24 1)], M, J)) hB 3 rfl <|
  tw_if hB (t := 22) rfl rfl fl_cT (fun h1 =>
   tw_n (s' := (23, [.ref 0, .ref a, .int size, .int p, .null, .null], [.int p], M, J)) hB 1 rfl <|
   tw_ri rfl rfl (by first | (simp only [if_pos h1]; done) | rfl)) (fun h1 =>
   tw_n (s' := (19, [.ref 0, .ref a, .int size, .int p, .null, .null], [.int 8, .int (M 24 0)], M, J)) hB 4 rfl <|
   tw_ic hB (t := 24) rfl rfl fl_cT (fun h2 =>
    tw_n (s' := (34, [.ref 0, .ref a, .int size, .int p, .int (p + 1), .null], [.int (p + 4), .int (p + 1)], M, J)) hB 8 rfl <|
    tw_icN hB (t := 65) rfl rfl fl_nlt (fun h3 =>
     tw_n (s' := (44, [.ref 0, .ref a, .int size, .int p, .int (p + 1), .null], [.int 9, .int 0, .int (p + 1), .int size, .ref a], M, J)) hB 5 rfl <|
     tw_dc (c := fg (M a) size (p + 1) 0 9 = true) (fun h4 =>
      have z4 := fg_lt h4; tw_cs hB (st0 := []) (o := some (.int (-9))) rfl rfl (by decide) rfl rfl (show (0 : Nat) ≤ 8 by decide) (tw_Ce (show tw_C _ 18 [.ref a, .int size, .int (p + 1), .int 0, .int 9] M J (some (.int (if fg (M a) size (p + 1) 0 9 = true then (-9) else p + 1)), M, J) from (cc_18 _ M J a size (p + 1) 0 9 hk hl (by omega) hs (by omega))) (by first | (simp only [if_pos h4]; done) | (simp only [if_pos h4]; rfl))) rfl <|
      tw_sh (s := (47, [.ref 0, .ref a, .int size, .int p, .int (p + 1), .null], [.int (-9)], M, J)) <|
      tw_n (s' := (34, [.ref 0, .ref a, .int size, .int p, .int ((p + 1) + 1), .int (-9)], [.int (p + 4), .int ((p + 1) + 1)], M, J)) hB 10 rfl <|
      tw_icN hB (t := 65) rfl rfl fl_nlt (fun h5 =>
       tw_n (s' := (44, [.ref 0, .ref a, .int size, .int p, .int ((p + 1) + 1), .int (-9)], [.int 9, .int 0, .int ((p + 1) + 1), .int size, .ref a], M, J)) hB 5 rfl <|
       tw_dc (c := fg (M a) size ((p + 1) + 1) 0 9 = true) (fun h6 =>
        have z6 := fg_lt h6; tw_cs hB (st0 := []) (o := some (.int (-9))) rfl rfl (by decide) rfl rfl (show (0 : Nat) ≤ 8 by decide) (tw_Ce (show tw_C _ 18 [.ref a, .int size, .int ((p + 1) + 1), .int 0, .int 9] M J (some (.int (if fg (M a) size ((p + 1) + 1) 0 9 = true then (-9) else (p + 1) + 1)), M, J) from (cc_18 _ M J a size ((p + 1) + 1) 0 9 hk hl (by omega) hs (by omega))) (by first | (simp only [if_pos h6]; done) | (simp only [if_pos h6]; rfl))) rfl <|
        tw_sh (s := (47, [.ref 0, .ref a, .int size, .int p, .int ((p + 1) + 1), .int (-9)], [.int (-9)], M, J)) <|
        tw_n (s' := (34, [.ref 0, .ref a, .int size, .int p, .int (((p + 1) + 1) + 1), .int (-9)], [.int (p + 4), .int (((p + 1) + 1) + 1)], M, J)) hB 10 rfl <|
        tw_icN hB (t := 65) rfl rfl fl_nlt (fun h7 =>
         tw_n (s' := (44, [.ref 0, .ref a, .int size, .int p, .int (((p + 1) + 1) + 1), .int (-9)], [.int 9, .int 0, .int (((p + 1) + 1) + 1), .int size, .ref a], M, J)) hB 5 rfl <|
         tw_dc (c := fg (M a) size (((p + 1) + 1) + 1) 0 9 = true) (fun h8 =>
          have z8 := fg_lt h8; tw_cs hB (st0 := []) (o := some (.int (-9))) rfl rfl (by decide) rfl rfl (show (0 : Nat) ≤ 8 by decide) (tw_Ce (show tw_C _ 18 [.ref a, .int size, .int (((p + 1) + 1) + 1), .int 0, .int 9] M J (some (.int (if fg (M a) size (((p + 1) + 1) + 1) 0 9 = true then (-9) else ((p + 1) + 1) + 1)), M, J) from (cc_18 _ M J a size (((p + 1) + 1) + 1) 0 9 hk hl (by omega) hs (by omega))) (by first | (simp only [if_pos h8]; done) | (simp only [if_pos h8]; rfl))) rfl <|
          tw_sh (s := (47, [.ref 0, .ref a, .int size, .int p, .int (((p + 1) + 1) + 1), .int (-9)], [.int (-9)], M, J)) <|
          tw_n (s' := (34, [.ref 0, .ref a, .int size, .int p, .int ((((p + 1) + 1) + 1) + 1), .int (-9)], [.int (p + 4), .int ((((p + 1) + 1) + 1) + 1)], M, J)) hB 10 rfl <|
          tw_icN hB (t := 65) rfl rfl fl_nlt (fun h9 =>
           absurd h9 k4) (fun h9 =>
           tw_n (s' := (71, [.ref 0, .ref a, .int size, .int p, .int ((((p + 1) + 1) + 1) + 1), .int (-9)], [.int (p + 2), .ref a, .int 10], M, J)) hB 5 rfl <|
           tw_ba hB rfl hk (fw_98 hk (by decide)) (by omega) (by rw [hl]; omega) <|
           tw_n (s' := (80, [.ref 0, .ref a, .int size, .int p, .int ((((p + 1) + 1) + 1) + 1), .int (-9)], [.int (p + 3), .ref a, .int (10 * ((M a ((p + 2).toNatClampNeg)) - 48))], M, J)) hB 7 rfl <|
           tw_ba hB rfl hk (fw_98 hk (by decide)) (by omega) (by rw [hl]; omega) <|
           tw_n (s' := (90, [.ref 0, .ref a, .int size, .int p, .int (((10 * ((M a ((p + 2).toNatClampNeg)) - 48)) + (M a ((p + 3).toNatClampNeg))) - 48), .int (-9)], [.int 1, .int (((10 * ((M a ((p + 2).toNatClampNeg)) - 48)) + (M a ((p + 3).toNatClampNeg))) - 48)], M, J)) hB 6 rfl <|
           tw_ic hB (t := 100) rfl rfl fl_cT (fun h10 =>
            tw_n (s' := (103, [.ref 0, .ref a, .int size, .int p, .int (((10 * ((M a ((p + 2).toNatClampNeg)) - 48)) + (M a ((p + 3).toNatClampNeg))) - 48), .int (-9)], [.int (p + 2)], M, J)) hB 3 rfl <|
            tw_ri rfl rfl (by first | (simp only [if_neg h1, if_pos h2, if_pos h3, if_pos h4, if_pos h5, if_pos h6, if_pos h7, if_pos h8, if_neg h9, if_pos h10]; done) | rfl)) (fun h10 =>
            tw_n (s' := (97, [.ref 0, .ref a, .int size, .int p, .int (((10 * ((M a ((p + 2).toNatClampNeg)) - 48)) + (M a ((p + 3).toNatClampNeg))) - 48), .int (-9)], [.int 40, .int (((10 * ((M a ((p + 2).toNatClampNeg)) - 48)) + (M a ((p + 3).toNatClampNeg))) - 48)], M, J)) hB 2 rfl <|
            tw_icN hB (t := 104) rfl rfl fl_nle (fun h11 =>
             tw_n (s' := (103, [.ref 0, .ref a, .int size, .int p, .int (((10 * ((M a ((p + 2).toNatClampNeg)) - 48)) + (M a ((p + 3).toNatClampNeg))) - 48), .int (-9)], [.int (p + 2)], M, J)) hB 3 rfl <|
             tw_ri rfl rfl (by first | (simp only [if_neg h1, if_pos h2, if_pos h3, if_pos h4, if_pos h5, if_pos h6, if_pos h7, if_pos h8, if_neg h9, if_neg h10, if_pos h11]; done) | rfl)) (fun h11 =>
             tw_n (s' := (122, [.ref 0, .ref a, .int size, .int p, .int (((10 * ((M a ((p + 2).toNatClampNeg)) - 48)) + (M a ((p + 3).toNatClampNeg))) - 48), .int (-9)], [.int (p + 1), .ref a, .int (M 24 0), .ref 25], M, J)) hB 10 rfl <|
             tw_ba hB rfl hk (fw_98 hk (by decide)) (by omega) (by rw [hl]; omega) <|
             tw_n (s' := (126, [.ref 0, .ref a, .int size, .int p, .int (((10 * ((M a ((p + 2).toNatClampNeg)) - 48)) + (M a ((p + 3).toNatClampNeg))) - 48), .int (-9)], [.int ((M a ((p + 1).toNatClampNeg)) - 48), .int (M 24 0), .ref 25], M, J)) hB 2 rfl <|
             tw_is hB rfl rfl (by decide) hL (fi_l.mp h2) <|
             tw_n (s' := (143, [.ref 0, .ref a, .int size, .int p, .int (((10 * ((M a ((p + 2).toNatClampNeg)) - 48)) + (M a ((p + 3).toNatClampNeg))) - 48), .int (-9)], [.int (((10 * ((M a ((p + 2).toNatClampNeg)) - 48)) + (M a ((p + 3).toNatClampNeg))) - 48), .int (M 24 0), .ref 26], (fl_u M 25 ((M 24 0).toNatClampNeg) ((M a ((p + 1).toNatClampNeg)) - 48)), J)) hB 7 rfl <|
             tw_is hB rfl rfl (by decide) hL (fi_l.mp h2) <|
             tw_n (s' := (159, [.ref 0, .ref a, .int size, .int p, .int (((10 * ((M a ((p + 2).toNatClampNeg)) - 48)) + (M a ((p + 3).toNatClampNeg))) - 48), .int (-9)], [.int (-9)], (fl_u (fl_u (fl_u M 25 ((M 24 0).toNatClampNeg) ((M a ((p + 1).toNatClampNeg)) - 48)) 26 ((M 24 0).toNatClampNeg) (((10 * ((M a ((p + 2).toNatClampNeg)) - 48)) + (M a ((p + 3).toNatClampNeg))) - 48)) 24 0 ((M 24 0) + 1)), J)) hB 8 rfl <|
             tw_ri rfl rfl (by first | (simp only [if_neg h1, if_pos h2, if_pos h3, if_pos h4, if_pos h5, if_pos h6, if_pos h7, if_pos h8, if_neg h9, if_neg h10, if_neg h11]; done) | rfl))))) (fun h8 =>
          tw_cs hB (st0 := []) (o := some (.int (((p + 1) + 1) + 1))) rfl rfl (by decide) rfl rfl (show (0 : Nat) ≤ 8 by decide) (tw_Ce (show tw_C _ 18 [.ref a, .int size, .int (((p + 1) + 1) + 1), .int 0, .int 9] M J (some (.int (if fg (M a) size (((p + 1) + 1) + 1) 0 9 = true then (-9) else ((p + 1) + 1) + 1)), M, J) from (cc_18 _ M J a size (((p + 1) + 1) + 1) 0 9 hk hl (by omega) hs (by omega))) (by first | (simp only [if_neg h8]; done) | (simp only [if_neg h8]; rfl))) rfl <|
          tw_sh (s := (47, [.ref 0, .ref a, .int size, .int p, .int (((p + 1) + 1) + 1), .int (-9)], [.int (((p + 1) + 1) + 1)], M, J)) <|
          tw_n (s' := (53, [.ref 0, .ref a, .int size, .int p, .int (((p + 1) + 1) + 1), .int (((p + 1) + 1) + 1)], [.int (-9), .int (((p + 1) + 1) + 1)], M, J)) hB 3 rfl <|
          tw_ic hB (t := 59) rfl rfl fl_cT (fun h12 =>
           absurd h12 n3) (fun h12 =>
           tw_n (s' := (58, [.ref 0, .ref a, .int size, .int p, .int (((p + 1) + 1) + 1), .int (((p + 1) + 1) + 1)], [.int (((p + 1) + 1) + 1)], M, J)) hB 1 rfl <|
           tw_ri rfl rfl (by first | (simp only [if_neg h1, if_pos h2, if_pos h3, if_pos h4, if_pos h5, if_pos h6, if_pos h7, if_neg h8, if_neg h12]; done) | rfl)))) (fun h7 =>
         absurd k3 h7)) (fun h6 =>
        tw_cs hB (st0 := []) (o := some (.int ((p + 1) + 1))) rfl rfl (by decide) rfl rfl (show (0 : Nat) ≤ 8 by decide) (tw_Ce (show tw_C _ 18 [.ref a, .int size, .int ((p + 1) + 1), .int 0, .int 9] M J (some (.int (if fg (M a) size ((p + 1) + 1) 0 9 = true then (-9) else (p + 1) + 1)), M, J) from (cc_18 _ M J a size ((p + 1) + 1) 0 9 hk hl (by omega) hs (by omega))) (by first | (simp only [if_neg h6]; done) | (simp only [if_neg h6]; rfl))) rfl <|
        tw_sh (s := (47, [.ref 0, .ref a, .int size, .int p, .int ((p + 1) + 1), .int (-9)], [.int ((p + 1) + 1)], M, J)) <|
        tw_n (s' := (53, [.ref 0, .ref a, .int size, .int p, .int ((p + 1) + 1), .int ((p + 1) + 1)], [.int (-9), .int ((p + 1) + 1)], M, J)) hB 3 rfl <|
        tw_ic hB (t := 59) rfl rfl fl_cT (fun h13 =>
         absurd h13 n2) (fun h13 =>
         tw_n (s' := (58, [.ref 0, .ref a, .int size, .int p, .int ((p + 1) + 1), .int ((p + 1) + 1)], [.int ((p + 1) + 1)], M, J)) hB 1 rfl <|
         tw_ri rfl rfl (by first | (simp only [if_neg h1, if_pos h2, if_pos h3, if_pos h4, if_pos h5, if_neg h6, if_neg h13]; done) | rfl)))) (fun h5 =>
       absurd k2 h5)) (fun h4 =>
      tw_cs hB (st0 := []) (o := some (.int (p + 1))) rfl rfl (by decide) rfl rfl (show (0 : Nat) ≤ 8 by decide) (tw_Ce (show tw_C _ 18 [.ref a, .int size, .int (p + 1), .int 0, .int 9] M J (some (.int (if fg (M a) size (p + 1) 0 9 = true then (-9) else p + 1)), M, J) from (cc_18 _ M J a size (p + 1) 0 9 hk hl (by omega) hs (by omega))) (by first | (simp only [if_neg h4]; done) | (simp only [if_neg h4]; rfl))) rfl <|
      tw_sh (s := (47, [.ref 0, .ref a, .int size, .int p, .int (p + 1), .null], [.int (p + 1)], M, J)) <|
      tw_n (s' := (53, [.ref 0, .ref a, .int size, .int p, .int (p + 1), .int (p + 1)], [.int (-9), .int (p + 1)], M, J)) hB 3 rfl <|
      tw_ic hB (t := 59) rfl rfl fl_cT (fun h14 =>
       absurd h14 n1) (fun h14 =>
       tw_n (s' := (58, [.ref 0, .ref a, .int size, .int p, .int (p + 1), .int (p + 1)], [.int (p + 1)], M, J)) hB 1 rfl <|
       tw_ri rfl rfl (by first | (simp only [if_neg h1, if_pos h2, if_pos h3, if_neg h4, if_neg h14]; done) | rfl)))) (fun h3 =>
     absurd k1 h3)) (fun h2 =>
    tw_n (s' := (23, [.ref 0, .ref a, .int size, .int p, .null, .null], [.int p], M, J)) hB 1 rfl <|
    tw_ri rfl rfl (by first | (simp only [if_neg h1, if_neg h2]; done) | rfl)))
def fB19 : sm_P := (fun pc => sm_ch sm_t19 pc, sm_Kn 2 6 none, fun x => sm_lk sm_ca2 x, some .int)
theorem cc_19 (d : Nat) (M : fl_M) (J : fl_J) (size p : Int32) (a : Nat) (hk : fl_kd a = 1) (hl : fl_len a = 60) (hq : 0 ≤ p.toInt) (hs : size.toInt ≤ 60) (hn : p.toInt < size.toInt) (hL : 0 ≤ (M 24 0).toInt) (hK : M 999 = sm_kl) (hm : 0 ≤ (M 24 1).toInt) : tw_C (d + 2) 19 [.ref 0, .ref a, .int size, .int p] M J (some (.int (if (fk (M a p.toNatClampNeg)) = (-9) then p else (if (M 24 0) = 0 then p else (if (M 24 1) < 4 then (if fg (M a) size (p + 1) 0 ((M 24 0) - 1) = true then (if fg (M a) size (p + 2) 1 9 = true then (-9) else p + 2) else p + 1) else p)))), (if (fk (M a p.toNatClampNeg)) = (-9) then M else (if (M 24 0) = 0 then M else (if (M 24 1) < 4 then (if fg (M a) size (p + 1) 0 ((M 24 0) - 1) = true then (if fg (M a) size (p + 2) 1 9 = true then (fl_u (fl_u (fl_u (fl_u M 29 ((M 24 1).toNatClampNeg) (fk (M a p.toNatClampNeg))) 31 ((M 24 1).toNatClampNeg) (((fl_u M 29 ((M 24 1).toNatClampNeg) (fk (M a p.toNatClampNeg))) a ((p + 1).toNatClampNeg)) - 48)) 30 ((M 24 1).toNatClampNeg) (((fl_u (fl_u M 29 ((M 24 1).toNatClampNeg) (fk (M a p.toNatClampNeg))) 31 ((M 24 1).toNatClampNeg) (((fl_u M 29 ((M 24 1).toNatClampNeg) (fk (M a p.toNatClampNeg))) a ((p + 1).toNatClampNeg)) - 48)) a ((p + 2).toNatClampNeg)) - 48)) 24 1 ((M 24 1) + 1)) else M) else M) else M))), J) := by
  have hB : fw_B fB19 := fw_sB (k := 19) (by decide)
  have e1 : (p + 1).toInt = p.toInt + 1 := fi_p1 (by omega)
  have e2 : (p + 2).toInt = p.toInt + 2 := by rw [fi_add (by rw [show (2 : Int32).toInt = 2 from rfl]; omega) (by rw [show (2 : Int32).toInt = 2 from rfl]; omega)]; rfl
  have e3 : (p + 3).toInt = p.toInt + 3 := by rw [fi_add (by rw [show (3 : Int32).toInt = 3 from rfl]; omega) (by rw [show (3 : Int32).toInt = 3 from rfl]; omega)]; rfl
  have e4 : (p + 4).toInt = p.toInt + 4 := by rw [fi_add (by rw [show (4 : Int32).toInt = 4 from rfl]; omega) (by rw [show (4 : Int32).toInt = 4 from rfl]; omega)]; rfl
  have g2 : (p + 1 + 1).toInt = p.toInt + 2 := by rw [fi_p1 (by omega), e1]; omega
  have g3 : (p + 1 + 1 + 1).toInt = p.toInt + 3 := by rw [fi_p1 (by omega), g2]; omega
  have g4 : (p + 1 + 1 + 1 + 1).toInt = p.toInt + 4 := by rw [fi_p1 (by omega), g3]; omega
  have k1 : (p + 1) < (p + 4) := fi_l.mpr (by omega)
  have k2 : (p + 1 + 1) < (p + 4) := fi_l.mpr (by omega)
  have k3 : (p + 1 + 1 + 1) < (p + 4) := fi_l.mpr (by omega)
  have k4 : ¬ (p + 1 + 1 + 1 + 1) < (p + 4) := fun z => by have z := fi_l.mp z; omega
  have n1 : ¬ (p + 1) = (-9) := fun z => by have z := fi_e.mp z; rw [show (-9 : Int32).toInt = -9 from rfl] at z; omega
  have n2 : ¬ (p + 1 + 1) = (-9) := fun z => by have z := fi_e.mp z; rw [show (-9 : Int32).toInt = -9 from rfl] at z; omega
  have n3 : ¬ (p + 1 + 1 + 1) = (-9) := fun z => by have z := fi_e.mp z; rw [show (-9 : Int32).toInt = -9 from rfl] at z; omega
  have n4 : ¬ (p + 2) = (-9) := fun z => by have z := fi_e.mp z; rw [show (-9 : Int32).toInt = -9 from rfl] at z; omega
  refine tw_Co (d := d + 1) (B := fB19) (by decide) rfl rfl (show (4 : Nat) ≤ 6 by decide) ?_ ?_
  · intro i v hv hn
    match i, hv with
    | 0, hv => cases hv; rfl
    | 1, hv => cases hv; rfl
    | 2, hv => cases hv; rfl
    | 3, hv => cases hv; rfl
    | 4, hv => cases hv; exact absurd rfl hn
    | 5, hv => cases hv; exact absurd rfl hn
    | _ + 6, hv => cases hv
  exact tw_n (s' := (2, [.ref 0, .ref a, .int size, .int p, .null, .null], [.int p, .ref a], M, J)) hB 2 rfl <|
  tw_ba hB rfl hk (fw_98 hk (by decide)) (by omega) (by rw [hl]; omega) <|
  tw_cs hB (st0 := []) (o := some (.int (fk (M a p.toNatClampNeg)))) rfl rfl (by decide) rfl rfl (show (0 : Nat) ≤ 8 by decide) (cc_20 _ M J (M a p.toNatClampNeg) (by assumption)) rfl <|
  tw_sh (s := (6, [.ref 0, .ref a, .int size, .int p, .null, .null], [.int (fk (M a p.toNatClampNeg))], M, J)) <|
  tw_n (s' := (12, [.ref 0, .ref a, .int size, .int p, .int (fk (M a p.toNatClampNeg)), .null], [.int (-9), .int (fk (M a p.toNatClampNeg))], M, J)) hB 3 rfl <|
  tw_ic hB (t := 36) rfl rfl fl_cT (fun h1 =>
   tw_n (s' := (37, [.ref 0, .ref a, .int size, .int p, .int (fk (M a p.toNatClampNeg)), .null], [.int p], M, J)) hB 1 rfl <|
   tw_ri rfl rfl (by first | (simp only [if_pos h1]; done) | rfl)) (fun h1 =>
   tw_n (s' := (22, [.ref 0, .ref a, .int size, .int p, .int (fk (M a p.toNatClampNeg)), .null], [.int (M 24 0)], M, J)) hB 3 rfl <|
   tw_if hB (t := 36) rfl rfl fl_cT (fun h2 =>
    tw_n (s' := (37, [.ref 0, .ref a, .int size, .int p, .int (fk (M a p.toNatClampNeg)), .null], [.int p], M, J)) hB 1 rfl <|
    tw_ri rfl rfl (by first | (simp only [if_neg h1, if_pos h2]; done) | rfl)) (fun h2 =>
    tw_n (s' := (33, [.ref 0, .ref a, .int size, .int p, .int (fk (M a p.toNatClampNeg)), .null], [.int 4, .int (M 24 1)], M, J)) hB 4 rfl <|
    tw_ic hB (t := 38) rfl rfl fl_cT (fun h3 =>
     tw_n (s' := (53, [.ref 0, .ref a, .int size, .int p, .int (fk (M a p.toNatClampNeg)), .null], [.int ((M 24 0) - 1), .int 0, .int (p + 1), .int size, .ref a], M, J)) hB 11 rfl <|
     tw_dc (c := fg (M a) size (p + 1) 0 ((M 24 0) - 1) = true) (fun h4 =>
      have z4 := fg_lt h4; tw_cs hB (st0 := []) (o := some (.int (-9))) rfl rfl (by decide) rfl rfl (show (0 : Nat) ≤ 8 by decide) (tw_Ce (show tw_C _ 18 [.ref a, .int size, .int (p + 1), .int 0, .int ((M 24 0) - 1)] M J (some (.int (if fg (M a) size (p + 1) 0 ((M 24 0) - 1) = true then (-9) else p + 1)), M, J) from (cc_18 _ M J a size (p + 1) 0 ((M 24 0) - 1) hk hl (by omega) hs (by omega))) (by first | (simp only [if_pos h4]; done) | (simp only [if_pos h4]; rfl))) rfl <|
      tw_sh (s := (56, [.ref 0, .ref a, .int size, .int p, .int (fk (M a p.toNatClampNeg)), .null], [.int (-9)], M, J)) <|
      tw_n (s' := (73, [.ref 0, .ref a, .int size, .int p, .int (fk (M a p.toNatClampNeg)), .int (-9)], [.int 9, .int 1, .int (p + 2), .int size, .ref a], M, J)) hB 11 rfl <|
      tw_dc (c := fg (M a) size (p + 2) 1 9 = true) (fun h5 =>
       have z5 := fg_lt h5; tw_cs hB (st0 := []) (o := some (.int (-9))) rfl rfl (by decide) rfl rfl (show (0 : Nat) ≤ 8 by decide) (tw_Ce (show tw_C _ 18 [.ref a, .int size, .int (p + 2), .int 1, .int 9] M J (some (.int (if fg (M a) size (p + 2) 1 9 = true then (-9) else p + 2)), M, J) from (cc_18 _ M J a size (p + 2) 1 9 hk hl (by omega) hs (by omega))) (by first | (simp only [if_pos h5]; done) | (simp only [if_pos h5]; rfl))) rfl <|
       tw_sh (s := (76, [.ref 0, .ref a, .int size, .int p, .int (fk (M a p.toNatClampNeg)), .int (-9)], [.int (-9)], M, J)) <|
       tw_n (s' := (104, [.ref 0, .ref a, .int size, .int p, .int (fk (M a p.toNatClampNeg)), .int (-9)], [.int (fk (M a p.toNatClampNeg)), .int (M 24 1), .ref 29], M, J)) hB 11 rfl <|
       tw_is hB rfl rfl (by decide) hm (fi_l.mp h3) <|
       tw_n (s' := (123, [.ref 0, .ref a, .int size, .int p, .int (fk (M a p.toNatClampNeg)), .int (-9)], [.int (p + 1), .ref a, .int (M 24 1), .ref 31], (fl_u M 29 ((M 24 1).toNatClampNeg) (fk (M a p.toNatClampNeg))), J)) hB 10 rfl <|
       tw_ba hB rfl hk (fw_98 hk (by decide)) (by omega) (by rw [hl]; omega) <|
       tw_n (s' := (127, [.ref 0, .ref a, .int size, .int p, .int (fk (M a p.toNatClampNeg)), .int (-9)], [.int (((fl_u M 29 ((M 24 1).toNatClampNeg) (fk (M a p.toNatClampNeg))) a ((p + 1).toNatClampNeg)) - 48), .int (M 24 1), .ref 31], (fl_u M 29 ((M 24 1).toNatClampNeg) (fk (M a p.toNatClampNeg))), J)) hB 2 rfl <|
       tw_is hB rfl rfl (by decide) hm (fi_l.mp h3) <|
       tw_n (s' := (146, [.ref 0, .ref a, .int size, .int p, .int (fk (M a p.toNatClampNeg)), .int (-9)], [.int (p + 2), .ref a, .int (M 24 1), .ref 30], (fl_u (fl_u M 29 ((M 24 1).toNatClampNeg) (fk (M a p.toNatClampNeg))) 31 ((M 24 1).toNatClampNeg) (((fl_u M 29 ((M 24 1).toNatClampNeg) (fk (M a p.toNatClampNeg))) a ((p + 1).toNatClampNeg)) - 48)), J)) hB 10 rfl <|
       tw_ba hB rfl hk (fw_98 hk (by decide)) (by omega) (by rw [hl]; omega) <|
       tw_n (s' := (150, [.ref 0, .ref a, .int size, .int p, .int (fk (M a p.toNatClampNeg)), .int (-9)], [.int (((fl_u (fl_u M 29 ((M 24 1).toNatClampNeg) (fk (M a p.toNatClampNeg))) 31 ((M 24 1).toNatClampNeg) (((fl_u M 29 ((M 24 1).toNatClampNeg) (fk (M a p.toNatClampNeg))) a ((p + 1).toNatClampNeg)) - 48)) a ((p + 2).toNatClampNeg)) - 48), .int (M 24 1), .ref 30], (fl_u (fl_u M 29 ((M 24 1).toNatClampNeg) (fk (M a p.toNatClampNeg))) 31 ((M 24 1).toNatClampNeg) (((fl_u M 29 ((M 24 1).toNatClampNeg) (fk (M a p.toNatClampNeg))) a ((p + 1).toNatClampNeg)) - 48)), J)) hB 2 rfl <|
       tw_is hB rfl rfl (by decide) hm (fi_l.mp h3) <|
       tw_n (s' := (166, [.ref 0, .ref a, .int size, .int p, .int (fk (M a p.toNatClampNeg)), .int (-9)], [.int (-9)], (fl_u (fl_u (fl_u (fl_u M 29 ((M 24 1).toNatClampNeg) (fk (M a p.toNatClampNeg))) 31 ((M 24 1).toNatClampNeg) (((fl_u M 29 ((M 24 1).toNatClampNeg) (fk (M a p.toNatClampNeg))) a ((p + 1).toNatClampNeg)) - 48)) 30 ((M 24 1).toNatClampNeg) (((fl_u (fl_u M 29 ((M 24 1).toNatClampNeg) (fk (M a p.toNatClampNeg))) 31 ((M 24 1).toNatClampNeg) (((fl_u M 29 ((M 24 1).toNatClampNeg) (fk (M a p.toNatClampNeg))) a ((p + 1).toNatClampNeg)) - 48)) a ((p + 2).toNatClampNeg)) - 48)) 24 1 ((M 24 1) + 1)), J)) hB 8 rfl <|
       tw_ri rfl rfl (by first | (simp only [if_neg h1, if_neg h2, if_pos h3, if_pos h4, if_pos h5]; done) | rfl)) (fun h5 =>
       tw_cs hB (st0 := []) (o := some (.int (p + 2))) rfl rfl (by decide) rfl rfl (show (0 : Nat) ≤ 8 by decide) (tw_Ce (show tw_C _ 18 [.ref a, .int size, .int (p + 2), .int 1, .int 9] M J (some (.int (if fg (M a) size (p + 2) 1 9 = true then (-9) else p + 2)), M, J) from (cc_18 _ M J a size (p + 2) 1 9 hk hl (by omega) hs (by omega))) (by first | (simp only [if_neg h5]; done) | (simp only [if_neg h5]; rfl))) rfl <|
       tw_sh (s := (76, [.ref 0, .ref a, .int size, .int p, .int (fk (M a p.toNatClampNeg)), .int (-9)], [.int (p + 2)], M, J)) <|
       tw_n (s' := (82, [.ref 0, .ref a, .int size, .int p, .int (fk (M a p.toNatClampNeg)), .int (p + 2)], [.int (-9), .int (p + 2)], M, J)) hB 3 rfl <|
       tw_ic hB (t := 88) rfl rfl fl_cT (fun h6 =>
        absurd h6 n4) (fun h6 =>
        tw_n (s' := (87, [.ref 0, .ref a, .int size, .int p, .int (fk (M a p.toNatClampNeg)), .int (p + 2)], [.int (p + 2)], M, J)) hB 1 rfl <|
        tw_ri rfl rfl (by first | (simp only [if_neg h1, if_neg h2, if_pos h3, if_pos h4, if_neg h5, if_neg h6]; done) | rfl)))) (fun h4 =>
      tw_cs hB (st0 := []) (o := some (.int (p + 1))) rfl rfl (by decide) rfl rfl (show (0 : Nat) ≤ 8 by decide) (tw_Ce (show tw_C _ 18 [.ref a, .int size, .int (p + 1), .int 0, .int ((M 24 0) - 1)] M J (some (.int (if fg (M a) size (p + 1) 0 ((M 24 0) - 1) = true then (-9) else p + 1)), M, J) from (cc_18 _ M J a size (p + 1) 0 ((M 24 0) - 1) hk hl (by omega) hs (by omega))) (by first | (simp only [if_neg h4]; done) | (simp only [if_neg h4]; rfl))) rfl <|
      tw_sh (s := (56, [.ref 0, .ref a, .int size, .int p, .int (fk (M a p.toNatClampNeg)), .null], [.int (p + 1)], M, J)) <|
      tw_n (s' := (62, [.ref 0, .ref a, .int size, .int p, .int (fk (M a p.toNatClampNeg)), .int (p + 1)], [.int (-9), .int (p + 1)], M, J)) hB 3 rfl <|
      tw_icN hB (t := 78) rfl rfl fl_cF (fun h7 =>
       absurd h7 n1) (fun h7 =>
       tw_n (s' := (82, [.ref 0, .ref a, .int size, .int p, .int (fk (M a p.toNatClampNeg)), .int (p + 1)], [.int (-9), .int (p + 1)], M, J)) hB 2 rfl <|
       tw_ic hB (t := 88) rfl rfl fl_cT (fun h8 =>
        absurd h8 n1) (fun h8 =>
        tw_n (s' := (87, [.ref 0, .ref a, .int size, .int p, .int (fk (M a p.toNatClampNeg)), .int (p + 1)], [.int (p + 1)], M, J)) hB 1 rfl <|
        tw_ri rfl rfl (by first | (simp only [if_neg h1, if_neg h2, if_pos h3, if_neg h4, if_neg h7, if_neg h8]; done) | rfl))))) (fun h3 =>
     tw_n (s' := (37, [.ref 0, .ref a, .int size, .int p, .int (fk (M a p.toNatClampNeg)), .null], [.int p], M, J)) hB 1 rfl <|
     tw_ri rfl rfl (by first | (simp only [if_neg h1, if_neg h2, if_neg h3]; done) | rfl))))
def ln_v (M : fl_M) (a : Nat) (size p : Int32) : Int32 := (if 0 < (M 24 1) then p else (if (M 24 0) < 8 then (if fg (M a) size (p + 1) 0 9 = true then (if fg (M a) size ((p + 1) + 1) 0 9 = true then (if fg (M a) size (((p + 1) + 1) + 1) 0 9 = true then (if (((10 * ((M a ((p + 2).toNatClampNeg)) - 48)) + (M a ((p + 3).toNatClampNeg))) - 48) < 1 then p + 2 else (if 40 < (((10 * ((M a ((p + 2).toNatClampNeg)) - 48)) + (M a ((p + 3).toNatClampNeg))) - 48) then p + 2 else (-9))) else ((p + 1) + 1) + 1) else (p + 1) + 1) else p + 1) else p))
def ln_M (M : fl_M) (a : Nat) (size p : Int32) : fl_M := (if 0 < (M 24 1) then M else (if (M 24 0) < 8 then (if fg (M a) size (p + 1) 0 9 = true then (if fg (M a) size ((p + 1) + 1) 0 9 = true then (if fg (M a) size (((p + 1) + 1) + 1) 0 9 = true then (if (((10 * ((M a ((p + 2).toNatClampNeg)) - 48)) + (M a ((p + 3).toNatClampNeg))) - 48) < 1 then M else (if 40 < (((10 * ((M a ((p + 2).toNatClampNeg)) - 48)) + (M a ((p + 3).toNatClampNeg))) - 48) then M else (fl_u (fl_u (fl_u M 25 ((M 24 0).toNatClampNeg) ((M a ((p + 1).toNatClampNeg)) - 48)) 26 ((M 24 0).toNatClampNeg) (((10 * ((M a ((p + 2).toNatClampNeg)) - 48)) + (M a ((p + 3).toNatClampNeg))) - 48)) 24 0 ((M 24 0) + 1)))) else M) else M) else M) else M))
def mo_v (M : fl_M) (a : Nat) (size p : Int32) : Int32 := (if (fk (M a p.toNatClampNeg)) = (-9) then p else (if (M 24 0) = 0 then p else (if (M 24 1) < 4 then (if fg (M a) size (p + 1) 0 ((M 24 0) - 1) = true then (if fg (M a) size (p + 2) 1 9 = true then (-9) else p + 2) else p + 1) else p)))
def mo_M (M : fl_M) (a : Nat) (size p : Int32) : fl_M := (if (fk (M a p.toNatClampNeg)) = (-9) then M else (if (M 24 0) = 0 then M else (if (M 24 1) < 4 then (if fg (M a) size (p + 1) 0 ((M 24 0) - 1) = true then (if fg (M a) size (p + 2) 1 9 = true then (fl_u (fl_u (fl_u (fl_u M 29 ((M 24 1).toNatClampNeg) (fk (M a p.toNatClampNeg))) 31 ((M 24 1).toNatClampNeg) (((fl_u M 29 ((M 24 1).toNatClampNeg) (fk (M a p.toNatClampNeg))) a ((p + 1).toNatClampNeg)) - 48)) 30 ((M 24 1).toNatClampNeg) (((fl_u (fl_u M 29 ((M 24 1).toNatClampNeg) (fk (M a p.toNatClampNeg))) 31 ((M 24 1).toNatClampNeg) (((fl_u M 29 ((M 24 1).toNatClampNeg) (fk (M a p.toNatClampNeg))) a ((p + 1).toNatClampNeg)) - 48)) a ((p + 2).toNatClampNeg)) - 48)) 24 1 ((M 24 1) + 1)) else M) else M) else M)))
def fB16 : sm_P := (fun pc => sm_ch sm_t16 pc, sm_Kn 2 3 none, fun x => sm_lk sm_ca2 x, some .int)
theorem ts_16 (d : Nat) (M : fl_M) (J : fl_J) (a : Nat) (size p : Int32) {r : fl_Q} (hk : fl_kd a = 1) (hl : fl_len a = 60) (hq : 0 ≤ p.toInt) (hs : size.toInt ≤ 60) (q1 : (p < size) → ((M a p.toNatClampNeg) = 32) → tw d fB16 (2, [.ref a, .int size, .int (p + 1)], [], M, J) r) (e1 : (p < size) → (¬ ((M a p.toNatClampNeg) = 32)) → (some (.int p), M, J) = r) (e2 : (¬ (p < size)) → (some (.int p), M, J) = r) : tw d fB16 (2, [.ref a, .int size, .int p], [], M, J) r := by
  have hB : fw_B fB16 := fw_sB (k := 16) (by decide)
  exact tw_n (s' := (4, [.ref a, .int size, .int p], [.int size, .int p], M, J)) hB 2 rfl <|
  tw_icN hB (t := 21) rfl rfl fl_nlt (fun h1 =>
   tw_n (s' := (9, [.ref a, .int size, .int p], [.int p, .ref a], M, J)) hB 2 rfl <|
   tw_ba hB rfl hk (fw_98 hk (by decide)) (by omega) (by have z := fi_l.mp h1; rw [hl]; omega) <|
   tw_n (s' := (12, [.ref a, .int size, .int p], [.int 32, .int (M a p.toNatClampNeg)], M, J)) hB 1 rfl <|
   tw_icN hB (t := 21) rfl rfl fl_cF (fun h2 =>
    tw_n (s' := (2, [.ref a, .int size, .int (p + 1)], [], M, J)) hB 2 rfl <|
    (q1 h1 h2)) (fun h2 =>
    tw_n (s' := (22, [.ref a, .int size, .int p], [.int p], M, J)) hB 1 rfl <|
    tw_ri rfl rfl (e1 h1 h2))) (fun h1 =>
   tw_n (s' := (22, [.ref a, .int size, .int p], [.int p], M, J)) hB 1 rfl <|
   tw_ri rfl rfl (e2 h1))
/-- how far blanks go -/
def sk (b : Nat → Int32) (n : Int32) : Nat → Int32 → Int32
  | 0, p => p
  | f + 1, p => if p < n then (if b p.toNatClampNeg = 32 then sk b n f (p + 1) else p) else p
theorem lp_16 (d : Nat) (M : fl_M) (J : fl_J) (a : Nat) (size : Int32) (hk : fl_kd a = 1) (hl : fl_len a = 60) (hs : size.toInt ≤ 60) : ∀ (f : Nat) (p : Int32), 0 ≤ p.toInt → size.toInt ≤ p.toInt + f → tw d fB16 (2, [.ref a, .int size, .int p], [], M, J) (some (.int (sk (M a) size f p)), M, J) := by
  intro f
  induction f with
  | zero =>
    intro p h0 h1
    have hn : ¬ p < size := fun z => by have z := fi_l.mp z; omega
    exact ts_16 d M J a size p hk hl h0 hs (fun z => absurd z hn) (fun z => absurd z hn) (fun _ => rfl)
  | succ f ih =>
    intro p h0 h1
    have hp : p < size → (p + 1).toInt = p.toInt + 1 := fun z => fi_p1 (by have z := fi_l.mp z; omega)
    unfold sk
    refine ts_16 d M J a size p hk hl h0 hs (fun z1 z2 => ?_) (fun z1 z2 => ?_) (fun z1 => ?_)
    · rw [if_pos z1, if_pos z2]
      have := hp z1
      exact ih (p + 1) (by omega) (by omega)
    · rw [if_pos z1, if_neg z2]
    · rw [if_neg z1]
theorem cc_16 (d : Nat) (M : fl_M) (J : fl_J) (a : Nat) (size : Int32) (hk : fl_kd a = 1) (hl : fl_len a = 60) (hs : size.toInt ≤ 60) : tw_C (d + 1) 16 [.ref a, .int size] M J (some (.int (sk (M a) size 60 0)), M, J) := by
  refine tw_Co (d := d) (B := fB16) (by decide) rfl rfl (show (2 : Nat) ≤ 3 by decide) ?_ (tw_n (s' := (2, [.ref a, .int size, .int 0], [], M, J)) (fw_sB (k := 16) (by decide)) 2 rfl (lp_16 d M J a size hk hl hs 60 0 (by decide) (by rw [fi_i0]; omega)))
  intro i v hv hn
  match i, hv with
  | 0, hv => cases hv; rfl
  | 1, hv => cases hv; rfl
  | 2, hv => cases hv; exact absurd rfl hn
  | _ + 3, hv => cases hv
def fB15 : sm_P := (fun pc => sm_ch sm_t15 pc, sm_Kn 2 7 none, fun x => sm_lk sm_ca2 x, some .int)
theorem ts_15 (d : Nat) (M : fl_M) (J : fl_J) (a : Nat) (size p t : Int32) (v5 v6 : Value) {r : fl_Q} (hk : fl_kd a = 1) (hl : fl_len a = 60) (hq : 0 ≤ p.toInt) (hs : size.toInt ≤ 60) (hL : 0 ≤ (M 24 0).toInt) (hm : 0 ≤ (M 24 1).toInt) (hK : M 999 = sm_kl) (q1 : (p < size) → ((M a p.toNatClampNeg) = 32) → tw (d + 2) fB15 (58, [.ref 0, .int t, .ref a, .int size, .int (p + 1), v5, v6], [], M, J) r) (q2 : (p < size) → (¬ ((M a p.toNatClampNeg) = 32)) → ((M a p.toNatClampNeg) = 108) → ((ln_v M a size p) = (-9)) → tw (d + 2) fB15 (58, [.ref 0, .int t, .ref a, .int size, .int ((p + 3) + 1), .int 1, .int (ln_v M a size p)], [], (ln_M M a size p), J) r) (q3 : (p < size) → (¬ ((M a p.toNatClampNeg) = 32)) → (¬ ((M a p.toNatClampNeg) = 108)) → ((mo_v M a size p) = (-9)) → tw (d + 2) fB15 (58, [.ref 0, .int t, .ref a, .int size, .int ((p + 2) + 1), .int 0, .int (mo_v M a size p)], [], (mo_M M a size p), J) r) (e1 : (p < size) → (¬ ((M a p.toNatClampNeg) = 32)) → ((M a p.toNatClampNeg) = 108) → (¬ ((ln_v M a size p) = (-9))) → (some (.int (ln_v M a size p)), (ln_M M a size p), J) = r) (e2 : (p < size) → (¬ ((M a p.toNatClampNeg) = 32)) → (¬ ((M a p.toNatClampNeg) = 108)) → (¬ ((mo_v M a size p) = (-9))) → (some (.int (mo_v M a size p)), (mo_M M a size p), J) = r) (e3 : (¬ (p < size)) → ((M 24 1) = 0) → (some (.int size), M, J) = r) (e4 : (¬ (p < size)) → (¬ ((M 24 1) = 0)) → (some (.int (-9)), M, J) = r) : tw (d + 2) fB15 (58, [.ref 0, .int t, .ref a, .int size, .int p, v5, v6], [], M, J) r := by
  have hB : fw_B fB15 := fw_sB (k := 15) (by decide)
  exact tw_n (s' := (61, [.ref 0, .int t, .ref a, .int size, .int p, v5, v6], [.int size, .int p], M, J)) hB 2 rfl <|
  tw_icN hB (t := 151) rfl rfl fl_nlt (fun h1 =>
   tw_n (s' := (67, [.ref 0, .int t, .ref a, .int size, .int p, v5, v6], [.int p, .ref a], M, J)) hB 2 rfl <|
   tw_ba hB rfl hk (fw_98 hk (by decide)) (by omega) (by have z := fi_l.mp h1; rw [hl]; omega) <|
   tw_n (s' := (70, [.ref 0, .int t, .ref a, .int size, .int p, v5, v6], [.int 32, .int (M a p.toNatClampNeg)], M, J)) hB 1 rfl <|
   tw_icN hB (t := 76) rfl rfl fl_cF (fun h2 =>
    tw_n (s' := (58, [.ref 0, .int t, .ref a, .int size, .int (p + 1), v5, v6], [], M, J)) hB 3 rfl <|
    (q1 h1 h2)) (fun h2 =>
    tw_n (s' := (79, [.ref 0, .int t, .ref a, .int size, .int p, v5, v6], [.int p, .ref a], M, J)) hB 2 rfl <|
    tw_ba hB rfl hk (fw_98 hk (by decide)) (by omega) (by have z := fi_l.mp h1; rw [hl]; omega) <|
    tw_n (s' := (82, [.ref 0, .int t, .ref a, .int size, .int p, v5, v6], [.int 108, .int (M a p.toNatClampNeg)], M, J)) hB 1 rfl <|
    tw_icN hB (t := 89) rfl rfl fl_cF (fun h3 =>
     tw_n (s' := (102, [.ref 0, .int t, .ref a, .int size, .int p, .int 1, v6], [.int p, .int size, .ref a, .ref 0], M, J)) hB 9 rfl <|
     tw_cv hB (st0 := []) (o := some (.int (ln_v M a size p))) rfl rfl rfl rfl rfl (show (0 : Nat) ≤ 8 by decide) rfl (by decide) (cc_17 _ M J size p a hk hl (by omega) hs (fi_l.mp (by assumption)) hL hK) rfl <|
     tw_sh (s := (105, [.ref 0, .int t, .ref a, .int size, .int p, .int 1, v6], [.int (ln_v M a size p)], (ln_M M a size p), J)) <|
     tw_n (s' := (122, [.ref 0, .int t, .ref a, .int size, .int p, .int 1, .int (ln_v M a size p)], [.int (-9), .int (ln_v M a size p)], (ln_M M a size p), J)) hB 4 rfl <|
     tw_ic hB (t := 128) rfl rfl fl_cT (fun h4 =>
      tw_n (s' := (58, [.ref 0, .int t, .ref a, .int size, .int ((p + 3) + 1), .int 1, .int (ln_v M a size p)], [], (ln_M M a size p), J)) hB 11 rfl <|
      (q2 h1 h2 h3 h4)) (fun h4 =>
      tw_n (s' := (127, [.ref 0, .int t, .ref a, .int size, .int p, .int 1, .int (ln_v M a size p)], [.int (ln_v M a size p)], (ln_M M a size p), J)) hB 1 rfl <|
      tw_ri rfl rfl (e1 h1 h2 h3 h4))) (fun h3 =>
     tw_n (s' := (113, [.ref 0, .int t, .ref a, .int size, .int p, .int 0, v6], [.int p, .int size, .ref a, .ref 0], M, J)) hB 8 rfl <|
     tw_cv hB (st0 := []) (o := some (.int (mo_v M a size p))) rfl rfl rfl rfl rfl (show (0 : Nat) ≤ 8 by decide) rfl (by decide) (cc_19 _ M J size p a hk hl (by omega) hs (fi_l.mp (by assumption)) hL hK hm) rfl <|
     tw_sh (s := (116, [.ref 0, .int t, .ref a, .int size, .int p, .int 0, v6], [.int (mo_v M a size p)], (mo_M M a size p), J)) <|
     tw_n (s' := (122, [.ref 0, .int t, .ref a, .int size, .int p, .int 0, .int (mo_v M a size p)], [.int (-9), .int (mo_v M a size p)], (mo_M M a size p), J)) hB 3 rfl <|
     tw_ic hB (t := 128) rfl rfl fl_cT (fun h5 =>
      tw_n (s' := (58, [.ref 0, .int t, .ref a, .int size, .int ((p + 2) + 1), .int 0, .int (mo_v M a size p)], [], (mo_M M a size p), J)) hB 10 rfl <|
      (q3 h1 h2 h3 h5)) (fun h5 =>
      tw_n (s' := (127, [.ref 0, .int t, .ref a, .int size, .int p, .int 0, .int (mo_v M a size p)], [.int (mo_v M a size p)], (mo_M M a size p), J)) hB 1 rfl <|
      tw_ri rfl rfl (e2 h1 h2 h3 h5))))) (fun h1 =>
   tw_n (s' := (158, [.ref 0, .int t, .ref a, .int size, .int p, v5, v6], [.int (M 24 1)], M, J)) hB 3 rfl <|
   tw_ifN hB (t := 165) rfl rfl fl_cF (fun h6 =>
    tw_n (s' := (167, [.ref 0, .int t, .ref a, .int size, .int p, v5, v6], [.int size], M, J)) hB 2 rfl <|
    tw_ri rfl rfl (e3 h1 h6)) (fun h6 =>
    tw_n (s' := (167, [.ref 0, .int t, .ref a, .int size, .int p, v5, v6], [.int (-9)], M, J)) hB 1 rfl <|
    tw_ri rfl rfl (e4 h1 h6)))
/-- what the class reads from a place on -/
def cpar (a : Nat) (n : Int32) : Nat → Int32 → fl_M → Int32 × fl_M
  | 0, _, M => (if M 24 1 = 0 then n else (-9), M)
  | f + 1, p, M => if p < n then (if M a p.toNatClampNeg = 32 then cpar a n f (p + 1) M
      else if M a p.toNatClampNeg = 108 then (if ln_v M a n p = (-9) then cpar a n f (p + 3 + 1) (ln_M M a n p) else (ln_v M a n p, ln_M M a n p))
      else (if mo_v M a n p = (-9) then cpar a n f (p + 2 + 1) (mo_M M a n p) else (mo_v M a n p, mo_M M a n p)))
    else (if M 24 1 = 0 then n else (-9), M)
/-- lines and mice within their bounds -/
def cI (M : fl_M) : Prop := (0 ≤ (M 24 0).toInt ∧ (M 24 0).toInt ≤ 8) ∧ (0 ≤ (M 24 1).toInt ∧ (M 24 1).toInt ≤ 4) ∧ M 999 = sm_kl
theorem cI_ln {M : fl_M} {a : Nat} {n p : Int32} (h : cI M) : cI (ln_M M a n p) := by
  unfold ln_M
  split
  · exact h
  split
  · rename_i h8
    have h8 := fi_l.mp h8
    rw [show (8 : Int32).toInt = 8 from rfl] at h8
    have e := fi_p1 (p := M 24 0) (by omega)
    repeat' split
    all_goals first
      | exact h
      | (obtain ⟨h1, h2, h3⟩ := h
         refine ⟨?_, ?_, ?_⟩
         · simp only [fl_u, and_self, if_true]
           omega
         · simp only [fl_u]
           exact h2
         · rw [fl_un (by decide), fl_un (by decide), fl_un (by decide)]
           exact h3)
  · exact h
theorem cI_mo {M : fl_M} {a : Nat} {n p : Int32} (h : cI M) : cI (mo_M M a n p) := by
  unfold mo_M
  split
  · exact h
  split
  · exact h
  split
  · rename_i h4
    have h4 := fi_l.mp h4
    rw [show (4 : Int32).toInt = 4 from rfl] at h4
    have e := fi_p1 (p := M 24 1) (by omega)
    repeat' split
    all_goals first
      | exact h
      | (obtain ⟨h1, h2, h3⟩ := h
         refine ⟨?_, ?_, ?_⟩
         · simp only [fl_u]
           exact h1
         · simp only [fl_u, and_self, if_true]
           omega
         · rw [fl_un (by decide), fl_un (by decide), fl_un (by decide), fl_un (by decide)]
           exact h3)
  · exact h
theorem lp_15 (d : Nat) (J : fl_J) (a : Nat) (size t : Int32) (hk : fl_kd a = 1) (hl : fl_len a = 60) (hs : size.toInt ≤ 60) : ∀ (f : Nat) (p : Int32) (M : fl_M) (v5 v6 : Value), cI M → 0 ≤ p.toInt → size.toInt ≤ p.toInt + f → tw (d + 2) fB15 (58, [.ref 0, .int t, .ref a, .int size, .int p, v5, v6], [], M, J) (some (.int (cpar a size f p M).1), (cpar a size f p M).2, J) := by
  intro f
  induction f with
  | zero =>
    intro p M v5 v6 hI h0 h1
    have hn : ¬ p < size := fun z => by have z := fi_l.mp z; omega
    refine ts_15 d M J a size p t v5 v6 hk hl h0 hs hI.1.1 hI.2.1.1 hI.2.2 (fun z => absurd z hn) (fun z => absurd z hn) (fun z => absurd z hn) (fun z => absurd z hn) (fun z => absurd z hn) (fun _ z => ?_) (fun _ z => ?_)
    · unfold cpar
      rw [if_pos z]
    · unfold cpar
      rw [if_neg z]
  | succ f ih =>
    intro p M v5 v6 hI h0 h1
    have hp : p < size → p.toInt < 60 := fun z => by have z := fi_l.mp z; omega
    unfold cpar
    refine ts_15 d M J a size p t v5 v6 hk hl h0 hs hI.1.1 hI.2.1.1 hI.2.2 (fun z1 z2 => ?_) (fun z1 z2 z3 z4 => ?_) (fun z1 z2 z3 z4 => ?_) (fun z1 z2 z3 z4 => ?_) (fun z1 z2 z3 z4 => ?_) (fun z1 z2 => ?_) (fun z1 z2 => ?_)
    · rw [if_pos z1, if_pos z2]
      have := hp z1
      have := fi_p1 (p := p) (by omega)
      exact ih (p + 1) M _ _ hI (by omega) (by omega)
    · rw [if_pos z1, if_neg z2, if_pos z3, if_pos z4]
      have := hp z1
      have e3 : (p + 3).toInt = p.toInt + 3 := by rw [fi_add (by rw [fi_i3]; omega) (by rw [fi_i3]; omega), fi_i3]
      have := fi_p1 (p := p + 3) (by omega)
      exact ih (p + 3 + 1) _ _ _ (cI_ln hI) (by omega) (by omega)
    · rw [if_pos z1, if_neg z2, if_neg z3, if_pos z4]
      have := hp z1
      have e2 : (p + 2).toInt = p.toInt + 2 := by rw [fi_add (by rw [show (2 : Int32).toInt = 2 from rfl]; omega) (by rw [show (2 : Int32).toInt = 2 from rfl]; omega)]; rfl
      have := fi_p1 (p := p + 2) (by omega)
      exact ih (p + 2 + 1) _ _ _ (cI_mo hI) (by omega) (by omega)
    · rw [if_pos z1, if_neg z2, if_pos z3, if_neg z4]
    · rw [if_pos z1, if_neg z2, if_neg z3, if_neg z4]
    · rw [if_neg z1, if_pos z2]
    · rw [if_neg z1, if_neg z2]
theorem sk_ge {b : Nat → Int32} {n : Int32} (hn : n.toInt ≤ 60) : ∀ (f : Nat) (p : Int32), 0 ≤ p.toInt → p.toInt ≤ (sk b n f p).toInt := by
  intro f
  induction f with
  | zero => intro p _; exact Int.le_refl _
  | succ f ih =>
    intro p h0
    unfold sk
    split
    · rename_i h1
      have h1 := fi_l.mp h1
      have e := fi_p1 (p := p) (by omega)
      split
      · have := ih (p + 1) (by omega)
        omega
      · exact Int.le_refl _
    · exact Int.le_refl _
theorem fl_t10 {t : Int32} (h0 : 0 ≤ t.toInt) (h3 : t.toInt ≤ 3) : fl_kd (fl_ar 10 t.toNatClampNeg) = 1 ∧ fl_len (fl_ar 10 t.toNatClampNeg) = 60 := by
  have e := fi_cl t
  have : t.toNatClampNeg = 0 ∨ t.toNatClampNeg = 1 ∨ t.toNatClampNeg = 2 ∨ t.toNatClampNeg = 3 := by omega
  rcases this with h | h | h | h <;> rw [h] <;> exact ⟨rfl, rfl⟩
theorem cI_0 {M : fl_M} (h : M 999 = sm_kl) : cI (fl_u (fl_u M 24 0 0) 24 1 0) := by
  refine ⟨⟨show (0 : Int) ≤ (0 : Int32).toInt by decide, show (0 : Int32).toInt ≤ 8 by decide⟩, ⟨show (0 : Int) ≤ (0 : Int32).toInt by decide, show (0 : Int32).toInt ≤ 4 by decide⟩, ?_⟩
  rw [fl_un (by decide), fl_un (by decide)]
  exact h
theorem cc_15 (d : Nat) (M : fl_M) (J : fl_J) (t : Int32) (h0 : 0 ≤ t.toInt) (h3 : t.toInt ≤ 3) (hn : (M 9 t.toNatClampNeg).toInt ≤ 60) (hK : M 999 = sm_kl) : tw_C (d + 3) 15 [.ref 0, .int t] M J (some (.int (if (sk ((fl_u (fl_u M 24 0 0) 24 1 0) (fl_ar 10 t.toNatClampNeg)) (M 9 t.toNatClampNeg) 60 0) < (M 9 t.toNatClampNeg) then (if ((fl_u (fl_u M 24 0 0) 24 1 0) (fl_ar 10 t.toNatClampNeg) ((sk ((fl_u (fl_u M 24 0 0) 24 1 0) (fl_ar 10 t.toNatClampNeg)) (M 9 t.toNatClampNeg) 60 0).toNatClampNeg)) = 114 then (cpar (fl_ar 10 t.toNatClampNeg) (M 9 t.toNatClampNeg) 60 ((sk ((fl_u (fl_u M 24 0 0) 24 1 0) (fl_ar 10 t.toNatClampNeg)) (M 9 t.toNatClampNeg) 60 0) + 1) (fl_u (fl_u M 24 0 0) 24 1 0)).1 else sk ((fl_u (fl_u M 24 0 0) 24 1 0) (fl_ar 10 t.toNatClampNeg)) (M 9 t.toNatClampNeg) 60 0) else sk ((fl_u (fl_u M 24 0 0) 24 1 0) (fl_ar 10 t.toNatClampNeg)) (M 9 t.toNatClampNeg) 60 0)), (if (sk ((fl_u (fl_u M 24 0 0) 24 1 0) (fl_ar 10 t.toNatClampNeg)) (M 9 t.toNatClampNeg) 60 0) < (M 9 t.toNatClampNeg) then (if ((fl_u (fl_u M 24 0 0) 24 1 0) (fl_ar 10 t.toNatClampNeg) ((sk ((fl_u (fl_u M 24 0 0) 24 1 0) (fl_ar 10 t.toNatClampNeg)) (M 9 t.toNatClampNeg) 60 0).toNatClampNeg)) = 114 then (cpar (fl_ar 10 t.toNatClampNeg) (M 9 t.toNatClampNeg) 60 ((sk ((fl_u (fl_u M 24 0 0) 24 1 0) (fl_ar 10 t.toNatClampNeg)) (M 9 t.toNatClampNeg) 60 0) + 1) (fl_u (fl_u M 24 0 0) 24 1 0)).2 else (fl_u (fl_u M 24 0 0) 24 1 0)) else (fl_u (fl_u M 24 0 0) 24 1 0)), J) := by
  have hB : fw_B fB15 := fw_sB (k := 15) (by decide)
  obtain ⟨hk, hl⟩ := fl_t10 h0 h3
  have hs := hn
  have hg := sk_ge (b := (fl_u (fl_u M 24 0 0) 24 1 0) (fl_ar 10 t.toNatClampNeg)) hn 60 0 (by decide)
  rw [fi_i0] at hg
  refine tw_Co (d := d + 2) (B := fB15) (by decide) rfl rfl (show (2 : Nat) ≤ 7 by decide) ?_ ?_
  · intro i v hv hn
    match i, hv with
    | 0, hv => cases hv; rfl
    | 1, hv => cases hv; rfl
    | 2, hv => cases hv; exact absurd rfl hn
    | 3, hv => cases hv; exact absurd rfl hn
    | 4, hv => cases hv; exact absurd rfl hn
    | 5, hv => cases hv; exact absurd rfl hn
    | 6, hv => cases hv; exact absurd rfl hn
    | _ + 7, hv => cases hv
  exact tw_n (s' := (5, [.ref 0, .int t, .null, .null, .null, .null, .null], [.int t, .ref 10], M, J)) hB 3 rfl <|
  tw_aa hB rfl (by decide) (by decide) h0 (show t.toInt < 4 by omega) <|
  tw_n (s' := (12, [.ref 0, .int t, .ref (fl_ar 10 t.toNatClampNeg), .null, .null, .null, .null], [.int t, .ref 9], M, J)) hB 4 rfl <|
  tw_ia hB rfl rfl (by decide) h0 (show t.toInt < 4 by omega) <|
  tw_n (s' := (32, [.ref 0, .int t, .ref (fl_ar 10 t.toNatClampNeg), .int (M 9 t.toNatClampNeg), .null, .null, .null], [.int (M 9 t.toNatClampNeg), .ref (fl_ar 10 t.toNatClampNeg)], (fl_u (fl_u M 24 0 0) 24 1 0), J)) hB 11 rfl <|
  tw_cs hB (st0 := []) (o := some (.int (sk ((fl_u (fl_u M 24 0 0) 24 1 0) (fl_ar 10 t.toNatClampNeg)) (M 9 t.toNatClampNeg) 60 0))) rfl rfl (by decide) rfl rfl (show (0 : Nat) ≤ 8 by decide) (cc_16 _ (fl_u (fl_u M 24 0 0) 24 1 0) J (fl_ar 10 t.toNatClampNeg) (M 9 t.toNatClampNeg) hk hl hs) rfl <|
  tw_sh (s := (35, [.ref 0, .int t, .ref (fl_ar 10 t.toNatClampNeg), .int (M 9 t.toNatClampNeg), .null, .null, .null], [.int (sk ((fl_u (fl_u M 24 0 0) 24 1 0) (fl_ar 10 t.toNatClampNeg)) (M 9 t.toNatClampNeg) 60 0)], (fl_u (fl_u M 24 0 0) 24 1 0), J)) <|
  tw_n (s' := (40, [.ref 0, .int t, .ref (fl_ar 10 t.toNatClampNeg), .int (M 9 t.toNatClampNeg), .int (sk ((fl_u (fl_u M 24 0 0) 24 1 0) (fl_ar 10 t.toNatClampNeg)) (M 9 t.toNatClampNeg) 60 0), .null, .null], [.int (M 9 t.toNatClampNeg), .int (sk ((fl_u (fl_u M 24 0 0) 24 1 0) (fl_ar 10 t.toNatClampNeg)) (M 9 t.toNatClampNeg) 60 0)], (fl_u (fl_u M 24 0 0) 24 1 0), J)) hB 3 rfl <|
  tw_icN hB (t := 52) rfl rfl fl_nlt (fun h1 =>
   tw_n (s' := (46, [.ref 0, .int t, .ref (fl_ar 10 t.toNatClampNeg), .int (M 9 t.toNatClampNeg), .int (sk ((fl_u (fl_u M 24 0 0) 24 1 0) (fl_ar 10 t.toNatClampNeg)) (M 9 t.toNatClampNeg) 60 0), .null, .null], [.int (sk ((fl_u (fl_u M 24 0 0) 24 1 0) (fl_ar 10 t.toNatClampNeg)) (M 9 t.toNatClampNeg) 60 0), .ref (fl_ar 10 t.toNatClampNeg)], (fl_u (fl_u M 24 0 0) 24 1 0), J)) hB 2 rfl <|
   tw_ba hB rfl hk (fw_98 hk (by decide)) (by omega) (by have z := fi_l.mp h1; rw [hl]; omega) <|
   tw_n (s' := (49, [.ref 0, .int t, .ref (fl_ar 10 t.toNatClampNeg), .int (M 9 t.toNatClampNeg), .int (sk ((fl_u (fl_u M 24 0 0) 24 1 0) (fl_ar 10 t.toNatClampNeg)) (M 9 t.toNatClampNeg) 60 0), .null, .null], [.int 114, .int ((fl_u (fl_u M 24 0 0) 24 1 0) (fl_ar 10 t.toNatClampNeg) ((sk ((fl_u (fl_u M 24 0 0) 24 1 0) (fl_ar 10 t.toNatClampNeg)) (M 9 t.toNatClampNeg) 60 0).toNatClampNeg))], (fl_u (fl_u M 24 0 0) 24 1 0), J)) hB 1 rfl <|
   tw_ic hB (t := 55) rfl rfl fl_cT (fun h2 =>
    tw_n (s' := (58, [.ref 0, .int t, .ref (fl_ar 10 t.toNatClampNeg), .int (M 9 t.toNatClampNeg), .int ((sk ((fl_u (fl_u M 24 0 0) 24 1 0) (fl_ar 10 t.toNatClampNeg)) (M 9 t.toNatClampNeg) 60 0) + 1), .null, .null], [], (fl_u (fl_u M 24 0 0) 24 1 0), J)) hB 1 rfl <|
    tw_de (lp_15 d J _ _ t hk hl hs 60 _ _ _ _ (cI_0 hK) (by rw [fi_p1 (by have z := fi_l.mp (by assumption); omega)]; omega) (by rw [fi_p1 (by have z := fi_l.mp (by assumption); omega)]; omega)) (by first | (simp only [if_pos h1, if_pos h2]; done) | rfl)) (fun h2 =>
    tw_n (s' := (54, [.ref 0, .int t, .ref (fl_ar 10 t.toNatClampNeg), .int (M 9 t.toNatClampNeg), .int (sk ((fl_u (fl_u M 24 0 0) 24 1 0) (fl_ar 10 t.toNatClampNeg)) (M 9 t.toNatClampNeg) 60 0), .null, .null], [.int (sk ((fl_u (fl_u M 24 0 0) 24 1 0) (fl_ar 10 t.toNatClampNeg)) (M 9 t.toNatClampNeg) 60 0)], (fl_u (fl_u M 24 0 0) 24 1 0), J)) hB 1 rfl <|
    tw_ri rfl rfl (by first | (simp only [if_pos h1, if_neg h2]; done) | rfl))) (fun h1 =>
   tw_n (s' := (54, [.ref 0, .int t, .ref (fl_ar 10 t.toNatClampNeg), .int (M 9 t.toNatClampNeg), .int (sk ((fl_u (fl_u M 24 0 0) 24 1 0) (fl_ar 10 t.toNatClampNeg)) (M 9 t.toNatClampNeg) 60 0), .null, .null], [.int (sk ((fl_u (fl_u M 24 0 0) 24 1 0) (fl_ar 10 t.toNatClampNeg)) (M 9 t.toNatClampNeg) 60 0)], (fl_u (fl_u M 24 0 0) 24 1 0), J)) hB 1 rfl <|
   tw_ri rfl rfl (by first | (simp only [if_neg h1]; done) | rfl))
/-! The reference's reading. -/
theorem fi_ne {x y : Int32} (h : ¬ x = y) : x.toInt ≠ y.toInt := fun z => h (fi_e.mpr z)
def rh (M : fl_M) : Int32 := M 90 ((M 81 16) + (M 81 17)).toNatClampNeg
/-- a figure is there -/
def rg (M : fl_M) (lo hi : Int32) : Bool := !decide (M 81 17 = M 81 18) && (!decide (rh M < 48 + lo) && !decide (48 + hi < rh M))
def rv (M : fl_M) : Int32 := rh M - 48
theorem rg_lt {M : fl_M} {lo hi : Int32} (h : rg M lo hi = true) : (M 81 17).toInt ≠ (M 81 18).toInt := by
  obtain ⟨h1, -⟩ := sm_an h
  intro z
  rw [decide_eq_true (fi_e.mpr z)] at h1
  cases h1
theorem rg_ne {M : fl_M} {lo hi : Int32} (h : rg M lo hi = true) (h0 : 0 ≤ lo.toInt) (h1 : lo.toInt ≤ 100) : ¬ rv M = (-9) := by
  obtain ⟨-, h2⟩ := sm_an h
  obtain ⟨h2, -⟩ := sm_an h2
  intro z
  unfold rv at z
  have h3 : ¬ rh M < 48 + lo := fun y => by rw [decide_eq_true y] at h2; cases h2
  have h3 := fi_ge.mp h3
  have e8 : (48 : Int32).toInt = 48 := rfl
  rw [fi_add (by rw [e8]; omega) (by rw [e8]; omega), e8] at h3
  have hh := (rh M).toInt_lt
  have z := fi_e.mp z
  rw [fi_sub (by rw [e8]; omega) (by rw [e8]; omega), e8, show (-9 : Int32).toInt = -9 from rfl] at z
  omega
theorem rg_eq {M : fl_M} {lo hi : Int32} : (rg M lo hi = true) ↔ (¬ (M 81 17 = M 81 18) ∧ ((¬ (rh M < 48 + lo)) ∧ (¬ (48 + hi < rh M)))) := by
  unfold rg
  simp
def fB123 : sm_P := (fun pc => sm_ch sm_t123 pc, sm_Kn 3 1 none, fun x => sm_lk sm_ca3 x, some .int)
theorem cc_123 (d : Nat) (M : fl_M) (J : fl_J) (hF : 0 ≤ (M 81 16).toInt) (hF2 : (M 81 16).toInt ≤ 180) (hP : 0 ≤ (M 81 17).toInt) (hP2 : (M 81 17).toInt < 60) : tw_C (d + 1) 123 [.ref 81] M J (some (.int (M 90 (((M 81 16) + (M 81 17)).toNatClampNeg))), M, J) := by
  have hB : fw_B fB123 := fw_sB (k := 123) (by decide)
  have e : ((M 81 16) + (M 81 17)).toInt = (M 81 16).toInt + (M 81 17).toInt := fi_add (by omega) (by omega)
  refine tw_Co (d := d + 0) (B := fB123) (by decide) rfl rfl (show (1 : Nat) ≤ 1 by decide) ?_ ?_
  · intro i v hv hn
    match i, hv with
    | 0, hv => cases hv; rfl
    | _ + 1, hv => cases hv
  exact tw_n (s' := (13, [.ref 81], [.int ((M 81 16) + (M 81 17)), .ref 90], M, J)) hB 7 rfl <|
  tw_ia hB rfl rfl (by decide) (by omega) (show ((M 81 16) + (M 81 17)).toInt < 240 by omega) <|
  tw_ri rfl rfl (rfl)
theorem ct_105 (d : Nat) (M : fl_M) (J : fl_J) (x a b : Int64) : tw_C (d + 1) 105 [.long x, .long a, .long b] M J (some (.int (if (¬ (x < a)) ∧ (¬ (b < x)) then 1 else 0)), M, J) := by
  have hB : fw_B fB105 := fw_sB (k := 105) (by decide)
  refine tw_Co (d := d + 0) (B := fB105) (by decide) rfl rfl (show (6 : Nat) ≤ 6 by decide) ?_ ?_
  · intro i v hv hn
    match i, hv with
    | 0, hv => cases hv; rfl
    | 1, hv => cases hv; exact absurd rfl hn
    | 2, hv => cases hv; rfl
    | 3, hv => cases hv; exact absurd rfl hn
    | 4, hv => cases hv; rfl
    | 5, hv => cases hv; exact absurd rfl hn
    | _ + 6, hv => cases hv
  exact tw_n (s' := (3, [.long x, .null, .long a, .null, .long b, .null], [.int (lg_cmp x a)], M, J)) hB 3 rfl <|
  tw_if hB (t := 17) rfl rfl fl_llt (fun h1 =>
   tw_n (s' := (18, [.long x, .null, .long a, .null, .long b, .null], [.int 0], M, J)) hB 1 rfl <|
   tw_rb rfl rfl (by first | decide | (split <;> decide)) (by simp [h1])) (fun h1 =>
   tw_n (s' := (10, [.long x, .null, .long a, .null, .long b, .null], [.int (lg_cmp x b)], M, J)) hB 3 rfl <|
   tw_if hB (t := 17) rfl rfl fl_lgt (fun h2 =>
    tw_n (s' := (18, [.long x, .null, .long a, .null, .long b, .null], [.int 0], M, J)) hB 1 rfl <|
    tw_rb rfl rfl (by first | decide | (split <;> decide)) (by simp [h1, h2])) (fun h2 =>
    tw_n (s' := (18, [.long x, .null, .long a, .null, .long b, .null], [.int 1], M, J)) hB 2 rfl <|
    tw_rb rfl rfl (by first | decide | (split <;> decide)) (by simp [h1, h2])))
theorem ct_105i (d : Nat) (M : fl_M) (J : fl_J) (x a b : Int32) : tw_C (d + 1) 105 [.long x.toInt64, .long a.toInt64, .long b.toInt64] M J (some (.int (if (¬ (x < a)) ∧ (¬ (b < x)) then 1 else 0)), M, J) := by
  have h := ct_105 d M J x.toInt64 a.toInt64 b.toInt64
  simp only [fl_64lt] at h
  exact h
def rsk : Nat → fl_M → fl_M
  | 0, M => M
  | f + 1, M => if M 81 17 < M 81 18 then (if rh M = 32 then rsk f (fl_u M 81 17 (M 81 17 + 1)) else M) else M
def fB122 : sm_P := (fun pc => sm_ch sm_t122 pc, sm_Kn 3 1 none, fun x => sm_lk sm_ca3 x, none)
theorem ts_122 (d : Nat) (M : fl_M) (J : fl_J) {r : fl_Q} (hF : 0 ≤ (M 81 16).toInt) (hF2 : (M 81 16).toInt ≤ 180) (hP : 0 ≤ (M 81 17).toInt) (hE : (M 81 17).toInt ≤ (M 81 18).toInt) (hE2 : (M 81 18).toInt ≤ 60) (q1 : ((M 81 17) < (M 81 18)) → ((rh M) = 32) → tw (d + 1) fB122 (0, [.ref 81], [], (fl_u M 81 17 ((M 81 17) + 1)), J) r) (e1 : ((M 81 17) < (M 81 18)) → (¬ ((rh M) = 32)) → (none, M, J) = r) (e2 : (¬ ((M 81 17) < (M 81 18))) → (none, M, J) = r) : tw (d + 1) fB122 (0, [.ref 81], [], M, J) r := by
  have hB : fw_B fB122 := fw_sB (k := 122) (by decide)
  exact tw_n (s' := (8, [.ref 81], [.int (M 81 18), .int (M 81 17)], M, J)) hB 4 rfl <|
  tw_icN hB (t := 33) rfl rfl fl_nlt (fun h1 =>
   tw_n (s' := (12, [.ref 81], [.ref 81], M, J)) hB 1 rfl <|
   tw_cv hB (st0 := []) (o := some (.int (rh M))) rfl rfl rfl rfl rfl (show (0 : Nat) ≤ 8 by decide) rfl (by decide) (cc_123 _ M J (show 0 ≤ (M 81 16).toInt by omega) (show (M 81 16).toInt ≤ 180 by omega) (show 0 ≤ (M 81 17).toInt by omega) (by show (M 81 17).toInt < 60; first | omega | (have z := fi_ne (show ¬ (M 81 17) = (M 81 18) by assumption); omega) | (have z := fi_l.mp (show (M 81 17) < (M 81 18) by assumption); omega))) rfl <|
   tw_sh (s := (15, [.ref 81], [.int (rh M)], M, J)) <|
   tw_n (s' := (17, [.ref 81], [.int 32, .int (rh M)], M, J)) hB 1 rfl <|
   tw_icN hB (t := 33) rfl rfl fl_cF (fun h2 =>
    tw_n (s' := (0, [.ref 81], [], (fl_u M 81 17 ((M 81 17) + 1)), J)) hB 7 rfl <|
    (q1 h1 h2)) (fun h2 =>
    tw_rv rfl rfl (e1 h1 h2))) (fun h1 =>
   tw_rv rfl rfl (e2 h1))
theorem lp_122 (d : Nat) (J : fl_J) : ∀ (f : Nat) (M : fl_M) (hF : 0 ≤ (M 81 16).toInt) (hF2 : (M 81 16).toInt ≤ 180) (hP : 0 ≤ (M 81 17).toInt) (hE : (M 81 17).toInt ≤ (M 81 18).toInt) (hE2 : (M 81 18).toInt ≤ 60), (M 81 18).toInt ≤ (M 81 17).toInt + f → tw (d + 1) fB122 (0, [.ref 81], [], M, J) (none, rsk f M, J) := by
  intro f
  induction f with
  | zero =>
    intro M hF hF2 hP hE hE2 hf
    have hn : ¬ M 81 17 < M 81 18 := fun z => by have z := fi_l.mp z; omega
    exact ts_122 d M J hF hF2 hP hE hE2 (fun z => absurd z hn) (fun z => absurd z hn) (fun _ => rfl)
  | succ f ih =>
    intro M hF hF2 hP hE hE2 hf
    unfold rsk
    refine ts_122 d M J hF hF2 hP hE hE2 (fun z1 z2 => ?_) (fun z1 z2 => ?_) (fun z1 => ?_)
    · rw [if_pos z1, if_pos z2]
      have z1 := fi_l.mp z1
      have e := fi_p1 (p := M 81 17) (by omega)
      exact ih _ hF hF2 (show 0 ≤ (M 81 17 + 1).toInt by omega) (show (M 81 17 + 1).toInt ≤ (M 81 18).toInt by omega) hE2 (show (M 81 18).toInt ≤ (M 81 17 + 1).toInt + f by omega)
    · rw [if_pos z1, if_neg z2]
    · rw [if_neg z1]
theorem cc_122 (d : Nat) (M : fl_M) (J : fl_J) (hF : 0 ≤ (M 81 16).toInt) (hF2 : (M 81 16).toInt ≤ 180) (hP : 0 ≤ (M 81 17).toInt) (hE : (M 81 17).toInt ≤ (M 81 18).toInt) (hE2 : (M 81 18).toInt ≤ 60) : tw_C (d + 2) 122 [.ref 81] M J (none, rsk 60 M, J) := by
  refine tw_Co (d := d + 1) (B := fB122) (by decide) rfl rfl (show (1 : Nat) ≤ 1 by decide) ?_ (lp_122 d J 60 M hF hF2 hP hE hE2 (by omega))
  intro i v hv hn
  match i, hv with
  | 0, hv => cases hv; rfl
  | _ + 1, hv => cases hv
def fB125 : sm_P := (fun pc => sm_ch sm_t125 pc, sm_Kn 3 3 none, fun x => sm_lk sm_ca3 x, some .int)
theorem cr_125 (d : Nat) (M : fl_M) (J : fl_J) (lo hi : Int32) (hF : 0 ≤ (M 81 16).toInt) (hF2 : (M 81 16).toInt ≤ 180) (hP : 0 ≤ (M 81 17).toInt) (hE : (M 81 17).toInt ≤ (M 81 18).toInt) (hE2 : (M 81 18).toInt ≤ 60) : tw_C (d + 2) 125 [.ref 81, .int lo, .int hi] M J (some (.int (if (M 81 17) = (M 81 18) then (-9) else (if (¬ (rh M < 48 + lo)) ∧ (¬ (48 + hi < rh M)) then (M 90 ((((M 81 16) + ((M 81 17) + 1)) - 1).toNatClampNeg)) - 48 else (-9)))), (if (M 81 17) = (M 81 18) then M else (if (¬ (rh M < 48 + lo)) ∧ (¬ (48 + hi < rh M)) then (fl_u M 81 17 ((M 81 17) + 1)) else M)), J) := by
  have hB : fw_B fB125 := fw_sB (k := 125) (by decide)
  have ep : ((M 81 17) + 1).toInt = (M 81 17).toInt + 1 := fi_p1 (by omega)
  have ef : ((M 81 16) + ((M 81 17) + 1)).toInt = (M 81 16).toInt + ((M 81 17).toInt + 1) := by rw [fi_add (by omega) (by omega), ep]
  have eg : (((M 81 16) + ((M 81 17) + 1)) - 1).toInt = (M 81 16).toInt + (M 81 17).toInt := by rw [fi_sub (by rw [fi_i1]; omega) (by rw [fi_i1]; omega), ef, fi_i1]; omega
  refine tw_Co (d := d + 1) (B := fB125) (by decide) rfl rfl (show (3 : Nat) ≤ 3 by decide) ?_ ?_
  · intro i v hv hn
    match i, hv with
    | 0, hv => cases hv; rfl
    | 1, hv => cases hv; rfl
    | 2, hv => cases hv; rfl
    | _ + 3, hv => cases hv
  exact tw_n (s' := (8, [.ref 81, .int lo, .int hi], [.int (M 81 18), .int (M 81 17)], M, J)) hB 4 rfl <|
  tw_ic hB (t := 32) rfl rfl fl_cT (fun h1 =>
   tw_n (s' := (34, [.ref 81, .int lo, .int hi], [.int (-9)], M, J)) hB 1 rfl <|
   tw_ri rfl rfl (by first | (simp only [if_pos h1]; done) | rfl)) (fun h1 =>
   tw_n (s' := (12, [.ref 81, .int lo, .int hi], [.ref 81], M, J)) hB 1 rfl <|
   tw_cv hB (st0 := []) (o := some (.int (rh M))) rfl rfl rfl rfl rfl (show (0 : Nat) ≤ 8 by decide) rfl (by decide) (cc_123 _ M J (show 0 ≤ (M 81 16).toInt by omega) (show (M 81 16).toInt ≤ 180 by omega) (show 0 ≤ (M 81 17).toInt by omega) (by show (M 81 17).toInt < 60; first | omega | (have z := fi_ne (show ¬ (M 81 17) = (M 81 18) by assumption); omega) | (have z := fi_l.mp (show (M 81 17) < (M 81 18) by assumption); omega))) rfl <|
   tw_sh (s := (15, [.ref 81, .int lo, .int hi], [.int (rh M)], M, J)) <|
   tw_n (s' := (26, [.ref 81, .int lo, .int hi], [.long ((48 + hi).toInt64), .long ((48 + lo).toInt64), .long ((rh M).toInt64)], M, J)) hB 9 rfl <|
   tw_cs hB (st0 := []) (o := some (.int (if (¬ (rh M < 48 + lo)) ∧ (¬ (48 + hi < rh M)) then 1 else 0))) rfl rfl (by decide) rfl rfl (show (0 : Nat) ≤ 8 by decide) (ct_105i _ M J (rh M) (48 + lo) (48 + hi)) rfl <|
   tw_sh (s := (29, [.ref 81, .int lo, .int hi], [.int (if (¬ (rh M < 48 + lo)) ∧ (¬ (48 + hi < rh M)) then 1 else 0)], M, J)) <|
   tw_if hB (t := 35) rfl rfl fl_b1 (fun h2 =>
    tw_n (s' := (60, [.ref 81, .int lo, .int hi], [.int (((M 81 16) + ((M 81 17) + 1)) - 1), .ref 90], (fl_u M 81 17 ((M 81 17) + 1)), J)) hB 15 rfl <|
    tw_ia hB rfl rfl (by decide) (by have z := fi_ne h1; omega) (show (((M 81 16) + ((M 81 17) + 1)) - 1).toInt < 240 by have z := fi_ne h1; omega) <|
    tw_n (s' := (64, [.ref 81, .int lo, .int hi], [.int ((M 90 ((((M 81 16) + ((M 81 17) + 1)) - 1).toNatClampNeg)) - 48)], (fl_u M 81 17 ((M 81 17) + 1)), J)) hB 2 rfl <|
    tw_ri rfl rfl (by first | (simp only [if_neg h1, if_pos h2]; done) | rfl)) (fun h2 =>
    tw_n (s' := (34, [.ref 81, .int lo, .int hi], [.int (-9)], M, J)) hB 1 rfl <|
    tw_ri rfl rfl (by first | (simp only [if_neg h1, if_neg h2]; done) | rfl)))
theorem cc_125 (d : Nat) (M : fl_M) (J : fl_J) (lo hi : Int32) (hF : 0 ≤ (M 81 16).toInt) (hF2 : (M 81 16).toInt ≤ 180) (hP : 0 ≤ (M 81 17).toInt) (hE : (M 81 17).toInt ≤ (M 81 18).toInt) (hE2 : (M 81 18).toInt ≤ 60) : tw_C (d + 2) 125 [.ref 81, .int lo, .int hi] M J (some (.int (if rg M lo hi = true then rv M else (-9))), (if rg M lo hi = true then (fl_u M 81 17 ((M 81 17) + 1)) else M), J) := by
  refine tw_Ce (cr_125 d M J lo hi hF hF2 hP hE hE2) ?_
  have e := @rg_eq M lo hi
  by_cases h1 : M 81 17 = M 81 18
  · have h : ¬ (rg M lo hi = true) := fun z => (e.mp z).1 h1
    simp only [if_pos h1, if_neg h]
  · by_cases h2 : (¬ (rh M < 48 + lo)) ∧ (¬ (48 + hi < rh M))
    · have h := e.mpr ⟨h1, h2⟩
      have ep : ((M 81 17) + 1).toInt = (M 81 17).toInt + 1 := fi_p1 (by have := fi_ne h1; omega)
      have ix : ((M 81 16) + ((M 81 17) + 1) - 1).toNatClampNeg = ((M 81 16) + (M 81 17)).toNatClampNeg := by
        have := fi_ne h1
        have ef : ((M 81 16) + ((M 81 17) + 1)).toInt = (M 81 16).toInt + ((M 81 17).toInt + 1) := by rw [fi_add (by omega) (by omega), ep]
        have eg : (((M 81 16) + ((M 81 17) + 1)) - 1).toInt = (M 81 16).toInt + (M 81 17).toInt := by
          rw [fi_sub (by rw [fi_i1]; omega) (by rw [fi_i1]; omega), ef, fi_i1]
          omega
        have eh : ((M 81 16) + (M 81 17)).toInt = (M 81 16).toInt + (M 81 17).toInt := fi_add (by omega) (by omega)
        rw [fi_cl, fi_cl, eg, eh]
      simp only [if_neg h1, if_pos h2, if_pos h]
      rw [ix]
      rfl
    · have h : ¬ (rg M lo hi = true) := fun z => h2 (e.mp z).2
      simp only [if_neg h1, if_neg h2, if_neg h]
theorem tf_ne {x lo hi : Int32} (h : (¬ (x < lo)) ∧ (¬ (hi < x))) (h0 : 0 ≤ lo.toInt) : ¬ x = (-9) := by
  intro z
  have h1 := fi_ge.mp h.1
  rw [z, show (-9 : Int32).toInt = -9 from rfl] at h1
  omega
def fB126 : sm_P := (fun pc => sm_ch sm_t126 pc, sm_Kn 3 6 none, fun x => sm_lk sm_ca3 x, some .int)
theorem cc_126 (d : Nat) (M : fl_M) (J : fl_J) (lo hi : Int32) (hF : 0 ≤ (M 81 16).toInt) (hF2 : (M 81 16).toInt ≤ 180) (hP : 0 ≤ (M 81 17).toInt) (hE : (M 81 17).toInt ≤ (M 81 18).toInt) (hE2 : (M 81 18).toInt ≤ 60) : tw_C (d + 3) 126 [.ref 81, .int lo, .int hi] M J (some (.int (if rg M 0 9 = true then (if rg (fl_u M 81 17 ((M 81 17) + 1)) 0 9 = true then (if (¬ ((10 * (rv M)) + (rv (fl_u M 81 17 ((M 81 17) + 1))) < lo)) ∧ (¬ (hi < (10 * (rv M)) + (rv (fl_u M 81 17 ((M 81 17) + 1))))) then (10 * (rv M)) + (rv (fl_u M 81 17 ((M 81 17) + 1))) else (-9)) else (-9)) else (-9))), (if rg M 0 9 = true then (if rg (fl_u M 81 17 ((M 81 17) + 1)) 0 9 = true then (if (¬ ((10 * (rv M)) + (rv (fl_u M 81 17 ((M 81 17) + 1))) < lo)) ∧ (¬ (hi < (10 * (rv M)) + (rv (fl_u M 81 17 ((M 81 17) + 1))))) then (fl_u (fl_u M 81 17 ((M 81 17) + 1)) 81 17 (((M 81 17) + 1) + 1)) else (fl_u (fl_u (fl_u M 81 17 ((M 81 17) + 1)) 81 17 (((M 81 17) + 1) + 1)) 81 17 (M 81 17))) else (fl_u M 81 17 ((M 81 17) + 1))) else M), J) := by
  have hB : fw_B fB126 := fw_sB (k := 126) (by decide)
  have ep : ((M 81 17) + 1).toInt = (M 81 17).toInt + 1 := fi_p1 (by omega)
  have ep2 : (((M 81 17) + 1) + 1).toInt = (M 81 17).toInt + 2 := by rw [fi_p1 (by omega), ep]; omega
  have ep3 : ((((M 81 17) + 1) + 1) + 1).toInt = (M 81 17).toInt + 3 := by rw [fi_p1 (by omega), ep2]; omega
  refine tw_Co (d := d + 2) (B := fB126) (by decide) rfl rfl (show (3 : Nat) ≤ 6 by decide) ?_ ?_
  · intro i v hv hn
    match i, hv with
    | 0, hv => cases hv; rfl
    | 1, hv => cases hv; rfl
    | 2, hv => cases hv; rfl
    | 3, hv => cases hv; exact absurd rfl hn
    | 4, hv => cases hv; exact absurd rfl hn
    | 5, hv => cases hv; exact absurd rfl hn
    | _ + 6, hv => cases hv
  exact tw_n (s' := (9, [.ref 81, .int lo, .int hi, .int (M 81 17), .null, .null], [.int 9, .int 0, .ref 81], M, J)) hB 6 rfl <|
  tw_dc (c := rg M 0 9 = true) (fun h1 =>
   have z1 : (M 81 17).toInt ≠ (M 81 18).toInt := rg_lt h1; tw_cv hB (st0 := []) (o := some (.int (rv M))) rfl rfl rfl rfl rfl (show (0 : Nat) ≤ 8 by decide) rfl (by decide) (tw_Ce (show tw_C _ 125 [.ref 81, .int 0, .int 9] M J (some (.int (if rg M 0 9 = true then rv M else (-9))), (if rg M 0 9 = true then (fl_u M 81 17 ((M 81 17) + 1)) else M), J) from (cc_125 _ M J 0 9 (show 0 ≤ (M 81 16).toInt by omega) (show (M 81 16).toInt ≤ 180 by omega) (show 0 ≤ (M 81 17).toInt by omega) (show (M 81 17).toInt ≤ (M 81 18).toInt by omega) (show (M 81 18).toInt ≤ 60 by omega))) (by first | (simp only [if_pos h1]; done) | (simp only [if_pos h1]; rfl))) rfl <|
   tw_sh (s := (12, [.ref 81, .int lo, .int hi, .int (M 81 17), .null, .null], [.int (rv M)], (fl_u M 81 17 ((M 81 17) + 1)), J)) <|
   tw_n (s' := (18, [.ref 81, .int lo, .int hi, .int (M 81 17), .int (rv M), .null], [.int (-9), .int (rv M)], (fl_u M 81 17 ((M 81 17) + 1)), J)) hB 3 rfl <|
   tw_icN hB (t := 26) rfl rfl fl_cF (fun h2 =>
    absurd h2 (rg_ne (by assumption) (by decide) (by decide))) (fun h2 =>
    tw_n (s' := (30, [.ref 81, .int lo, .int hi, .int (M 81 17), .int (rv M), .null], [.int 9, .int 0, .ref 81], (fl_u M 81 17 ((M 81 17) + 1)), J)) hB 3 rfl <|
    tw_dc (c := rg (fl_u M 81 17 ((M 81 17) + 1)) 0 9 = true) (fun h3 =>
     have z3 : ((M 81 17) + 1).toInt ≠ (M 81 18).toInt := rg_lt h3; tw_cv hB (st0 := []) (o := some (.int (rv (fl_u M 81 17 ((M 81 17) + 1))))) rfl rfl rfl rfl rfl (show (0 : Nat) ≤ 8 by decide) rfl (by decide) (tw_Ce (show tw_C _ 125 [.ref 81, .int 0, .int 9] (fl_u M 81 17 ((M 81 17) + 1)) J (some (.int (if rg (fl_u M 81 17 ((M 81 17) + 1)) 0 9 = true then rv (fl_u M 81 17 ((M 81 17) + 1)) else (-9))), (if rg (fl_u M 81 17 ((M 81 17) + 1)) 0 9 = true then (fl_u (fl_u M 81 17 ((M 81 17) + 1)) 81 17 (((M 81 17) + 1) + 1)) else (fl_u M 81 17 ((M 81 17) + 1))), J) from (cc_125 _ (fl_u M 81 17 ((M 81 17) + 1)) J 0 9 (show 0 ≤ (M 81 16).toInt by omega) (show (M 81 16).toInt ≤ 180 by omega) (show 0 ≤ ((M 81 17) + 1).toInt by omega) (show ((M 81 17) + 1).toInt ≤ (M 81 18).toInt by omega) (show (M 81 18).toInt ≤ 60 by omega))) (by first | (simp only [if_pos h3]; done) | (simp only [if_pos h3]; rfl))) rfl <|
     tw_sh (s := (33, [.ref 81, .int lo, .int hi, .int (M 81 17), .int (rv M), .null], [.int (rv (fl_u M 81 17 ((M 81 17) + 1)))], (fl_u (fl_u M 81 17 ((M 81 17) + 1)) 81 17 (((M 81 17) + 1) + 1)), J)) <|
     tw_n (s' := (39, [.ref 81, .int lo, .int hi, .int (M 81 17), .int (rv M), .int (rv (fl_u M 81 17 ((M 81 17) + 1)))], [.int (-9), .int (rv (fl_u M 81 17 ((M 81 17) + 1)))], (fl_u (fl_u M 81 17 ((M 81 17) + 1)) 81 17 (((M 81 17) + 1) + 1)), J)) hB 3 rfl <|
     tw_icN hB (t := 45) rfl rfl fl_cF (fun h4 =>
      absurd h4 (rg_ne (by assumption) (by decide) (by decide))) (fun h4 =>
      tw_n (s' := (58, [.ref 81, .int lo, .int hi, .int (M 81 17), .int (rv M), .int (rv (fl_u M 81 17 ((M 81 17) + 1)))], [.long hi.toInt64, .long lo.toInt64, .long (((10 * (rv M)) + (rv (fl_u M 81 17 ((M 81 17) + 1)))).toInt64)], (fl_u (fl_u M 81 17 ((M 81 17) + 1)) 81 17 (((M 81 17) + 1) + 1)), J)) hB 10 rfl <|
      tw_cs hB (st0 := []) (o := some (.int (if (¬ ((10 * (rv M)) + (rv (fl_u M 81 17 ((M 81 17) + 1))) < lo)) ∧ (¬ (hi < (10 * (rv M)) + (rv (fl_u M 81 17 ((M 81 17) + 1))))) then 1 else 0))) rfl rfl (by decide) rfl rfl (show (0 : Nat) ≤ 8 by decide) (ct_105i _ (fl_u (fl_u M 81 17 ((M 81 17) + 1)) 81 17 (((M 81 17) + 1) + 1)) J ((10 * (rv M)) + (rv (fl_u M 81 17 ((M 81 17) + 1)))) lo hi) rfl <|
      tw_sh (s := (61, [.ref 81, .int lo, .int hi, .int (M 81 17), .int (rv M), .int (rv (fl_u M 81 17 ((M 81 17) + 1)))], [.int (if (¬ ((10 * (rv M)) + (rv (fl_u M 81 17 ((M 81 17) + 1))) < lo)) ∧ (¬ (hi < (10 * (rv M)) + (rv (fl_u M 81 17 ((M 81 17) + 1))))) then 1 else 0)], (fl_u (fl_u M 81 17 ((M 81 17) + 1)) 81 17 (((M 81 17) + 1) + 1)), J)) <|
      tw_if hB (t := 72) rfl rfl fl_b1 (fun h5 =>
       tw_n (s' := (80, [.ref 81, .int lo, .int hi, .int (M 81 17), .int (rv M), .int (rv (fl_u M 81 17 ((M 81 17) + 1)))], [.int ((10 * (rv M)) + (rv (fl_u M 81 17 ((M 81 17) + 1))))], (fl_u (fl_u M 81 17 ((M 81 17) + 1)) 81 17 (((M 81 17) + 1) + 1)), J)) hB 5 rfl <|
       tw_ri rfl rfl (by first | (simp only [if_pos h1, if_neg h2, if_pos h3, if_neg h4, if_pos h5]; done) | rfl)) (fun h5 =>
       tw_n (s' := (71, [.ref 81, .int lo, .int hi, .int (M 81 17), .int (rv M), .int (rv (fl_u M 81 17 ((M 81 17) + 1)))], [.int (-9)], (fl_u (fl_u (fl_u M 81 17 ((M 81 17) + 1)) 81 17 (((M 81 17) + 1) + 1)) 81 17 (M 81 17)), J)) hB 4 rfl <|
       tw_ri rfl rfl (by first | (simp only [if_pos h1, if_neg h2, if_pos h3, if_neg h4, if_neg h5]; done) | rfl)))) (fun h3 =>
     tw_cv hB (st0 := []) (o := some (.int (-9))) rfl rfl rfl rfl rfl (show (0 : Nat) ≤ 8 by decide) rfl (by decide) (tw_Ce (show tw_C _ 125 [.ref 81, .int 0, .int 9] (fl_u M 81 17 ((M 81 17) + 1)) J (some (.int (if rg (fl_u M 81 17 ((M 81 17) + 1)) 0 9 = true then rv (fl_u M 81 17 ((M 81 17) + 1)) else (-9))), (if rg (fl_u M 81 17 ((M 81 17) + 1)) 0 9 = true then (fl_u (fl_u M 81 17 ((M 81 17) + 1)) 81 17 (((M 81 17) + 1) + 1)) else (fl_u M 81 17 ((M 81 17) + 1))), J) from (cc_125 _ (fl_u M 81 17 ((M 81 17) + 1)) J 0 9 (show 0 ≤ (M 81 16).toInt by omega) (show (M 81 16).toInt ≤ 180 by omega) (show 0 ≤ ((M 81 17) + 1).toInt by omega) (show ((M 81 17) + 1).toInt ≤ (M 81 18).toInt by omega) (show (M 81 18).toInt ≤ 60 by omega))) (by first | (simp only [if_neg h3]; done) | (simp only [if_neg h3]; rfl))) rfl <|
     tw_sh (s := (33, [.ref 81, .int lo, .int hi, .int (M 81 17), .int (rv M), .null], [.int (-9)], (fl_u M 81 17 ((M 81 17) + 1)), J)) <|
     tw_n (s' := (44, [.ref 81, .int lo, .int hi, .int (M 81 17), .int (rv M), .int (-9)], [.int (-9)], (fl_u M 81 17 ((M 81 17) + 1)), J)) hB 5 rfl <|
     tw_ri rfl rfl (by first | (simp only [if_pos h1, if_neg h2, if_neg h3]; done) | rfl)))) (fun h1 =>
   tw_cv hB (st0 := []) (o := some (.int (-9))) rfl rfl rfl rfl rfl (show (0 : Nat) ≤ 8 by decide) rfl (by decide) (tw_Ce (show tw_C _ 125 [.ref 81, .int 0, .int 9] M J (some (.int (if rg M 0 9 = true then rv M else (-9))), (if rg M 0 9 = true then (fl_u M 81 17 ((M 81 17) + 1)) else M), J) from (cc_125 _ M J 0 9 (show 0 ≤ (M 81 16).toInt by omega) (show (M 81 16).toInt ≤ 180 by omega) (show 0 ≤ (M 81 17).toInt by omega) (show (M 81 17).toInt ≤ (M 81 18).toInt by omega) (show (M 81 18).toInt ≤ 60 by omega))) (by first | (simp only [if_neg h1]; done) | (simp only [if_neg h1]; rfl))) rfl <|
   tw_sh (s := (12, [.ref 81, .int lo, .int hi, .int (M 81 17), .null, .null], [.int (-9)], M, J)) <|
   tw_n (s' := (44, [.ref 81, .int lo, .int hi, .int (M 81 17), .int (-9), .int (-9)], [.int (-9)], M, J)) hB 11 rfl <|
   tw_ri rfl rfl (by first | (simp only [if_neg h1]; done) | rfl))
def fB128 : sm_P := (fun pc => sm_ch sm_t128 pc, sm_Kn 3 1 none, fun x => sm_lk sm_ca3 x, some .int)
theorem cr_128 (d : Nat) (M : fl_M) (J : fl_J) (c : Int32) : tw_C (d + 1) 128 [.int c] M J (some (.int (if c = 109 then 0 else (if c = 121 then 1 else (if c = 111 then 2 else (if c = 104 then 3 else (if c = 119 then 4 else (if c = 103 then 5 else (-9)))))))), M, J) := by
  have hB : fw_B fB128 := fw_sB (k := 128) (by decide)
  refine tw_Co (d := d + 0) (B := fB128) (by decide) rfl rfl (show (1 : Nat) ≤ 1 by decide) ?_ ?_
  · intro i v hv hn
    match i, hv with
    | 0, hv => cases hv; rfl
    | _ + 1, hv => cases hv
  exact tw_n (s' := (3, [.int c], [.int 109, .int c], M, J)) hB 2 rfl <|
  tw_icN hB (t := 10) rfl rfl fl_cF (fun h1 =>
   tw_n (s' := (62, [.int c], [.int 0], M, J)) hB 2 rfl <|
   tw_ri rfl rfl (by first | (simp only [if_pos h1]; done) | rfl)) (fun h1 =>
   tw_n (s' := (13, [.int c], [.int 121, .int c], M, J)) hB 2 rfl <|
   tw_icN hB (t := 20) rfl rfl fl_cF (fun h2 =>
    tw_n (s' := (62, [.int c], [.int 1], M, J)) hB 2 rfl <|
    tw_ri rfl rfl (by first | (simp only [if_neg h1, if_pos h2]; done) | rfl)) (fun h2 =>
    tw_n (s' := (23, [.int c], [.int 111, .int c], M, J)) hB 2 rfl <|
    tw_icN hB (t := 30) rfl rfl fl_cF (fun h3 =>
     tw_n (s' := (62, [.int c], [.int 2], M, J)) hB 2 rfl <|
     tw_ri rfl rfl (by first | (simp only [if_neg h1, if_neg h2, if_pos h3]; done) | rfl)) (fun h3 =>
     tw_n (s' := (33, [.int c], [.int 104, .int c], M, J)) hB 2 rfl <|
     tw_icN hB (t := 40) rfl rfl fl_cF (fun h4 =>
      tw_n (s' := (62, [.int c], [.int 3], M, J)) hB 2 rfl <|
      tw_ri rfl rfl (by first | (simp only [if_neg h1, if_neg h2, if_neg h3, if_pos h4]; done) | rfl)) (fun h4 =>
      tw_n (s' := (43, [.int c], [.int 119, .int c], M, J)) hB 2 rfl <|
      tw_icN hB (t := 50) rfl rfl fl_cF (fun h5 =>
       tw_n (s' := (62, [.int c], [.int 4], M, J)) hB 2 rfl <|
       tw_ri rfl rfl (by first | (simp only [if_neg h1, if_neg h2, if_neg h3, if_neg h4, if_pos h5]; done) | rfl)) (fun h5 =>
       tw_n (s' := (53, [.int c], [.int 103, .int c], M, J)) hB 2 rfl <|
       tw_icN hB (t := 60) rfl rfl fl_cF (fun h6 =>
        tw_n (s' := (62, [.int c], [.int 5], M, J)) hB 2 rfl <|
        tw_ri rfl rfl (by first | (simp only [if_neg h1, if_neg h2, if_neg h3, if_neg h4, if_neg h5, if_pos h6]; done) | rfl)) (fun h6 =>
        tw_n (s' := (62, [.int c], [.int (-9)], M, J)) hB 1 rfl <|
        tw_ri rfl rfl (by first | (simp only [if_neg h1, if_neg h2, if_neg h3, if_neg h4, if_neg h5, if_neg h6]; done) | rfl)))))))
theorem cc_128 (d : Nat) (M : fl_M) (J : fl_J) (c : Int32) : tw_C (d + 1) 128 [.int c] M J (some (.int (fk c)), M, J) := cr_128 d M J c
def fB124 : sm_P := (fun pc => sm_ch sm_t124 pc, sm_Kn 3 3 none, fun x => sm_lk sm_ca3 x, some .boolean)
theorem cc_124 (d : Nat) (M : fl_M) (J : fl_J) (hF : 0 ≤ (M 81 16).toInt) (hF2 : (M 81 16).toInt ≤ 180) (hP : 0 ≤ (M 81 17).toInt) (hE : (M 81 17).toInt ≤ (M 81 18).toInt) (hE2 : (M 81 18).toInt ≤ 60) (hL : 0 ≤ (M 81 19).toInt) (hL2 : (M 81 19).toInt ≤ 8) (hQ : (M 81 17).toInt < (M 81 18).toInt) : tw_C (d + 4) 124 [.ref 81] M J (some (.int (if (M 81 19) = 8 then 0 else (if 0 < (M 81 22) then 0 else (if rg (fl_u M 81 17 ((M 81 17) + 1)) 0 9 = true then (if rg (fl_u (fl_u M 81 17 ((M 81 17) + 1)) 81 17 (((M 81 17) + 1) + 1)) 0 9 = true then (if rg (fl_u (fl_u (fl_u M 81 17 ((M 81 17) + 1)) 81 17 (((M 81 17) + 1) + 1)) 81 17 ((((M 81 17) + 1) + 1) + 1)) 0 9 = true then (if (¬ ((10 * (rv (fl_u (fl_u M 81 17 ((M 81 17) + 1)) 81 17 (((M 81 17) + 1) + 1)))) + (rv (fl_u (fl_u (fl_u M 81 17 ((M 81 17) + 1)) 81 17 (((M 81 17) + 1) + 1)) 81 17 ((((M 81 17) + 1) + 1) + 1))) < 1)) ∧ (¬ (40 < (10 * (rv (fl_u (fl_u M 81 17 ((M 81 17) + 1)) 81 17 (((M 81 17) + 1) + 1)))) + (rv (fl_u (fl_u (fl_u M 81 17 ((M 81 17) + 1)) 81 17 (((M 81 17) + 1) + 1)) 81 17 ((((M 81 17) + 1) + 1) + 1))))) then 1 else 0) else 0) else 0) else 0)))), (if (M 81 19) = 8 then M else (if 0 < (M 81 22) then M else (if rg (fl_u M 81 17 ((M 81 17) + 1)) 0 9 = true then (if rg (fl_u (fl_u M 81 17 ((M 81 17) + 1)) 81 17 (((M 81 17) + 1) + 1)) 0 9 = true then (if rg (fl_u (fl_u (fl_u M 81 17 ((M 81 17) + 1)) 81 17 (((M 81 17) + 1) + 1)) 81 17 ((((M 81 17) + 1) + 1) + 1)) 0 9 = true then (if (¬ ((10 * (rv (fl_u (fl_u M 81 17 ((M 81 17) + 1)) 81 17 (((M 81 17) + 1) + 1)))) + (rv (fl_u (fl_u (fl_u M 81 17 ((M 81 17) + 1)) 81 17 (((M 81 17) + 1) + 1)) 81 17 ((((M 81 17) + 1) + 1) + 1))) < 1)) ∧ (¬ (40 < (10 * (rv (fl_u (fl_u M 81 17 ((M 81 17) + 1)) 81 17 (((M 81 17) + 1) + 1)))) + (rv (fl_u (fl_u (fl_u M 81 17 ((M 81 17) + 1)) 81 17 (((M 81 17) + 1) + 1)) 81 17 ((((M 81 17) + 1) + 1) + 1))))) then (fl_u (fl_u (fl_u (fl_u (fl_u (fl_u (fl_u M 81 17 ((M 81 17) + 1)) 81 17 (((M 81 17) + 1) + 1)) 81 17 ((((M 81 17) + 1) + 1) + 1)) 81 17 (((((M 81 17) + 1) + 1) + 1) + 1)) 92 ((M 81 19).toNatClampNeg) (rv (fl_u M 81 17 ((M 81 17) + 1)))) 93 ((M 81 19).toNatClampNeg) ((10 * (rv (fl_u (fl_u M 81 17 ((M 81 17) + 1)) 81 17 (((M 81 17) + 1) + 1)))) + (rv (fl_u (fl_u (fl_u M 81 17 ((M 81 17) + 1)) 81 17 (((M 81 17) + 1) + 1)) 81 17 ((((M 81 17) + 1) + 1) + 1))))) 81 19 ((M 81 19) + 1)) else (fl_u (fl_u (fl_u (fl_u (fl_u M 81 17 ((M 81 17) + 1)) 81 17 (((M 81 17) + 1) + 1)) 81 17 ((((M 81 17) + 1) + 1) + 1)) 81 17 (((((M 81 17) + 1) + 1) + 1) + 1)) 81 17 (((M 81 17) + 1) + 1))) else (fl_u (fl_u (fl_u M 81 17 ((M 81 17) + 1)) 81 17 (((M 81 17) + 1) + 1)) 81 17 ((((M 81 17) + 1) + 1) + 1))) else (fl_u (fl_u M 81 17 ((M 81 17) + 1)) 81 17 (((M 81 17) + 1) + 1))) else (fl_u M 81 17 ((M 81 17) + 1))))), J) := by
  have hB : fw_B fB124 := fw_sB (k := 124) (by decide)
  have ep : ((M 81 17) + 1).toInt = (M 81 17).toInt + 1 := fi_p1 (by omega)
  have ep2 : (((M 81 17) + 1) + 1).toInt = (M 81 17).toInt + 2 := by rw [fi_p1 (by omega), ep]; omega
  have ep3 : ((((M 81 17) + 1) + 1) + 1).toInt = (M 81 17).toInt + 3 := by rw [fi_p1 (by omega), ep2]; omega
  have ep4 : (((((M 81 17) + 1) + 1) + 1) + 1).toInt = (M 81 17).toInt + 4 := by rw [fi_p1 (by omega), ep3]; omega
  refine tw_Co (d := d + 3) (B := fB124) (by decide) rfl rfl (show (1 : Nat) ≤ 3 by decide) ?_ ?_
  · intro i v hv hn
    match i, hv with
    | 0, hv => cases hv; rfl
    | 1, hv => cases hv; exact absurd rfl hn
    | 2, hv => cases hv; exact absurd rfl hn
    | _ + 3, hv => cases hv
  exact tw_n (s' := (6, [.ref 81, .null, .null], [.int 8, .int (M 81 19)], M, J)) hB 3 rfl <|
  tw_ic hB (t := 16) rfl rfl fl_cT (fun h1 =>
   tw_n (s' := (17, [.ref 81, .null, .null], [.int 0], M, J)) hB 1 rfl <|
   tw_rb rfl rfl (by first | decide | (split <;> decide)) (by first | (simp only [if_pos h1]; done) | rfl)) (fun h1 =>
   tw_n (s' := (13, [.ref 81, .null, .null], [.int (M 81 22)], M, J)) hB 2 rfl <|
   tw_ifN hB (t := 18) rfl rfl fl_nle (fun h2 =>
    tw_n (s' := (17, [.ref 81, .null, .null], [.int 0], M, J)) hB 1 rfl <|
    tw_rb rfl rfl (by first | decide | (split <;> decide)) (by first | (simp only [if_neg h1, if_pos h2]; done) | rfl)) (fun h2 =>
    tw_n (s' := (32, [.ref 81, .null, .null], [.int 9, .int 0, .ref 81], (fl_u M 81 17 ((M 81 17) + 1)), J)) hB 9 rfl <|
    tw_dc (c := rg (fl_u M 81 17 ((M 81 17) + 1)) 0 9 = true) (fun h3 =>
     have z3 : ((M 81 17) + 1).toInt ≠ (M 81 18).toInt := rg_lt h3; tw_cv hB (st0 := []) (o := some (.int (rv (fl_u M 81 17 ((M 81 17) + 1))))) rfl rfl rfl rfl rfl (show (0 : Nat) ≤ 8 by decide) rfl (by decide) (tw_Ce (show tw_C _ 125 [.ref 81, .int 0, .int 9] (fl_u M 81 17 ((M 81 17) + 1)) J (some (.int (if rg (fl_u M 81 17 ((M 81 17) + 1)) 0 9 = true then rv (fl_u M 81 17 ((M 81 17) + 1)) else (-9))), (if rg (fl_u M 81 17 ((M 81 17) + 1)) 0 9 = true then (fl_u (fl_u M 81 17 ((M 81 17) + 1)) 81 17 (((M 81 17) + 1) + 1)) else (fl_u M 81 17 ((M 81 17) + 1))), J) from (cc_125 _ (fl_u M 81 17 ((M 81 17) + 1)) J 0 9 (show 0 ≤ (M 81 16).toInt by omega) (show (M 81 16).toInt ≤ 180 by omega) (show 0 ≤ ((M 81 17) + 1).toInt by omega) (show ((M 81 17) + 1).toInt ≤ (M 81 18).toInt by omega) (show (M 81 18).toInt ≤ 60 by omega))) (by first | (simp only [if_pos h3]; done) | (simp only [if_pos h3]; rfl))) rfl <|
     tw_sh (s := (35, [.ref 81, .null, .null], [.int (rv (fl_u M 81 17 ((M 81 17) + 1)))], (fl_u (fl_u M 81 17 ((M 81 17) + 1)) 81 17 (((M 81 17) + 1) + 1)), J)) <|
     tw_n (s' := (39, [.ref 81, .int (rv (fl_u M 81 17 ((M 81 17) + 1))), .null], [.int (-9), .int (rv (fl_u M 81 17 ((M 81 17) + 1)))], (fl_u (fl_u M 81 17 ((M 81 17) + 1)) 81 17 (((M 81 17) + 1) + 1)), J)) hB 3 rfl <|
     tw_icN hB (t := 47) rfl rfl fl_cF (fun h4 =>
      absurd h4 (rg_ne (by assumption) (by decide) (by decide))) (fun h4 =>
      tw_n (s' := (51, [.ref 81, .int (rv (fl_u M 81 17 ((M 81 17) + 1))), .null], [.int 40, .int 1, .ref 81], (fl_u (fl_u M 81 17 ((M 81 17) + 1)) 81 17 (((M 81 17) + 1) + 1)), J)) hB 3 rfl <|
      tw_dc (c := rg (fl_u (fl_u M 81 17 ((M 81 17) + 1)) 81 17 (((M 81 17) + 1) + 1)) 0 9 = true) (fun h5 =>
       have z5 : (((M 81 17) + 1) + 1).toInt ≠ (M 81 18).toInt := rg_lt h5; tw_dc (c := rg (fl_u (fl_u (fl_u M 81 17 ((M 81 17) + 1)) 81 17 (((M 81 17) + 1) + 1)) 81 17 ((((M 81 17) + 1) + 1) + 1)) 0 9 = true) (fun h6 =>
        have z6 : ((((M 81 17) + 1) + 1) + 1).toInt ≠ (M 81 18).toInt := rg_lt h6; tw_dc (c := (¬ ((10 * (rv (fl_u (fl_u M 81 17 ((M 81 17) + 1)) 81 17 (((M 81 17) + 1) + 1)))) + (rv (fl_u (fl_u (fl_u M 81 17 ((M 81 17) + 1)) 81 17 (((M 81 17) + 1) + 1)) 81 17 ((((M 81 17) + 1) + 1) + 1))) < 1)) ∧ (¬ (40 < (10 * (rv (fl_u (fl_u M 81 17 ((M 81 17) + 1)) 81 17 (((M 81 17) + 1) + 1)))) + (rv (fl_u (fl_u (fl_u M 81 17 ((M 81 17) + 1)) 81 17 (((M 81 17) + 1) + 1)) 81 17 ((((M 81 17) + 1) + 1) + 1)))))) (fun h7 =>
         tw_cv hB (st0 := []) (o := some (.int ((10 * (rv (fl_u (fl_u M 81 17 ((M 81 17) + 1)) 81 17 (((M 81 17) + 1) + 1)))) + (rv (fl_u (fl_u (fl_u M 81 17 ((M 81 17) + 1)) 81 17 (((M 81 17) + 1) + 1)) 81 17 ((((M 81 17) + 1) + 1) + 1)))))) rfl rfl rfl rfl rfl (show (0 : Nat) ≤ 8 by decide) rfl (by decide) (tw_Ce (show tw_C _ 126 [.ref 81, .int 1, .int 40] (fl_u (fl_u M 81 17 ((M 81 17) + 1)) 81 17 (((M 81 17) + 1) + 1)) J (some (.int (if rg (fl_u (fl_u M 81 17 ((M 81 17) + 1)) 81 17 (((M 81 17) + 1) + 1)) 0 9 = true then (if rg (fl_u (fl_u (fl_u M 81 17 ((M 81 17) + 1)) 81 17 (((M 81 17) + 1) + 1)) 81 17 ((((M 81 17) + 1) + 1) + 1)) 0 9 = true then (if (¬ ((10 * (rv (fl_u (fl_u M 81 17 ((M 81 17) + 1)) 81 17 (((M 81 17) + 1) + 1)))) + (rv (fl_u (fl_u (fl_u M 81 17 ((M 81 17) + 1)) 81 17 (((M 81 17) + 1) + 1)) 81 17 ((((M 81 17) + 1) + 1) + 1))) < 1)) ∧ (¬ (40 < (10 * (rv (fl_u (fl_u M 81 17 ((M 81 17) + 1)) 81 17 (((M 81 17) + 1) + 1)))) + (rv (fl_u (fl_u (fl_u M 81 17 ((M 81 17) + 1)) 81 17 (((M 81 17) + 1) + 1)) 81 17 ((((M 81 17) + 1) + 1) + 1))))) then (10 * (rv (fl_u (fl_u M 81 17 ((M 81 17) + 1)) 81 17 (((M 81 17) + 1) + 1)))) + (rv (fl_u (fl_u (fl_u M 81 17 ((M 81 17) + 1)) 81 17 (((M 81 17) + 1) + 1)) 81 17 ((((M 81 17) + 1) + 1) + 1))) else (-9)) else (-9)) else (-9))), (if rg (fl_u (fl_u M 81 17 ((M 81 17) + 1)) 81 17 (((M 81 17) + 1) + 1)) 0 9 = true then (if rg (fl_u (fl_u (fl_u M 81 17 ((M 81 17) + 1)) 81 17 (((M 81 17) + 1) + 1)) 81 17 ((((M 81 17) + 1) + 1) + 1)) 0 9 = true then (if (¬ ((10 * (rv (fl_u (fl_u M 81 17 ((M 81 17) + 1)) 81 17 (((M 81 17) + 1) + 1)))) + (rv (fl_u (fl_u (fl_u M 81 17 ((M 81 17) + 1)) 81 17 (((M 81 17) + 1) + 1)) 81 17 ((((M 81 17) + 1) + 1) + 1))) < 1)) ∧ (¬ (40 < (10 * (rv (fl_u (fl_u M 81 17 ((M 81 17) + 1)) 81 17 (((M 81 17) + 1) + 1)))) + (rv (fl_u (fl_u (fl_u M 81 17 ((M 81 17) + 1)) 81 17 (((M 81 17) + 1) + 1)) 81 17 ((((M 81 17) + 1) + 1) + 1))))) then (fl_u (fl_u (fl_u (fl_u M 81 17 ((M 81 17) + 1)) 81 17 (((M 81 17) + 1) + 1)) 81 17 ((((M 81 17) + 1) + 1) + 1)) 81 17 (((((M 81 17) + 1) + 1) + 1) + 1)) else (fl_u (fl_u (fl_u (fl_u (fl_u M 81 17 ((M 81 17) + 1)) 81 17 (((M 81 17) + 1) + 1)) 81 17 ((((M 81 17) + 1) + 1) + 1)) 81 17 (((((M 81 17) + 1) + 1) + 1) + 1)) 81 17 (((M 81 17) + 1) + 1))) else (fl_u (fl_u (fl_u M 81 17 ((M 81 17) + 1)) 81 17 (((M 81 17) + 1) + 1)) 81 17 ((((M 81 17) + 1) + 1) + 1))) else (fl_u (fl_u M 81 17 ((M 81 17) + 1)) 81 17 (((M 81 17) + 1) + 1))), J) from (cc_126 _ (fl_u (fl_u M 81 17 ((M 81 17) + 1)) 81 17 (((M 81 17) + 1) + 1)) J 1 40 (show 0 ≤ (M 81 16).toInt by omega) (show (M 81 16).toInt ≤ 180 by omega) (show 0 ≤ (((M 81 17) + 1) + 1).toInt by omega) (show (((M 81 17) + 1) + 1).toInt ≤ (M 81 18).toInt by omega) (show (M 81 18).toInt ≤ 60 by omega))) (by first | (simp only [if_pos h5, if_pos h6, if_pos h7]; done) | (simp only [if_pos h5, if_pos h6, if_pos h7]; rfl))) rfl <|
         tw_sh (s := (54, [.ref 81, .int (rv (fl_u M 81 17 ((M 81 17) + 1))), .null], [.int ((10 * (rv (fl_u (fl_u M 81 17 ((M 81 17) + 1)) 81 17 (((M 81 17) + 1) + 1)))) + (rv (fl_u (fl_u (fl_u M 81 17 ((M 81 17) + 1)) 81 17 (((M 81 17) + 1) + 1)) 81 17 ((((M 81 17) + 1) + 1) + 1))))], (fl_u (fl_u (fl_u (fl_u M 81 17 ((M 81 17) + 1)) 81 17 (((M 81 17) + 1) + 1)) 81 17 ((((M 81 17) + 1) + 1) + 1)) 81 17 (((((M 81 17) + 1) + 1) + 1) + 1)), J)) <|
         tw_n (s' := (58, [.ref 81, .int (rv (fl_u M 81 17 ((M 81 17) + 1))), .int ((10 * (rv (fl_u (fl_u M 81 17 ((M 81 17) + 1)) 81 17 (((M 81 17) + 1) + 1)))) + (rv (fl_u (fl_u (fl_u M 81 17 ((M 81 17) + 1)) 81 17 (((M 81 17) + 1) + 1)) 81 17 ((((M 81 17) + 1) + 1) + 1))))], [.int (-9), .int ((10 * (rv (fl_u (fl_u M 81 17 ((M 81 17) + 1)) 81 17 (((M 81 17) + 1) + 1)))) + (rv (fl_u (fl_u (fl_u M 81 17 ((M 81 17) + 1)) 81 17 (((M 81 17) + 1) + 1)) 81 17 ((((M 81 17) + 1) + 1) + 1))))], (fl_u (fl_u (fl_u (fl_u M 81 17 ((M 81 17) + 1)) 81 17 (((M 81 17) + 1) + 1)) 81 17 ((((M 81 17) + 1) + 1) + 1)) 81 17 (((((M 81 17) + 1) + 1) + 1) + 1)), J)) hB 3 rfl <|
         tw_icN hB (t := 63) rfl rfl fl_cF (fun h8 =>
          absurd h8 (tf_ne (by assumption) (by decide))) (fun h8 =>
          tw_n (s' := (72, [.ref 81, .int (rv (fl_u M 81 17 ((M 81 17) + 1))), .int ((10 * (rv (fl_u (fl_u M 81 17 ((M 81 17) + 1)) 81 17 (((M 81 17) + 1) + 1)))) + (rv (fl_u (fl_u (fl_u M 81 17 ((M 81 17) + 1)) 81 17 (((M 81 17) + 1) + 1)) 81 17 ((((M 81 17) + 1) + 1) + 1))))], [.int (rv (fl_u M 81 17 ((M 81 17) + 1))), .int (M 81 19), .ref 92], (fl_u (fl_u (fl_u (fl_u M 81 17 ((M 81 17) + 1)) 81 17 (((M 81 17) + 1) + 1)) 81 17 ((((M 81 17) + 1) + 1) + 1)) 81 17 (((((M 81 17) + 1) + 1) + 1) + 1)), J)) hB 5 rfl <|
          tw_is hB rfl rfl (by decide) hL (show (M 81 19).toInt < 8 by have z := fi_ne h1; rw [show (8 : Int32).toInt = 8 from rfl] at z; omega) <|
          tw_n (s' := (82, [.ref 81, .int (rv (fl_u M 81 17 ((M 81 17) + 1))), .int ((10 * (rv (fl_u (fl_u M 81 17 ((M 81 17) + 1)) 81 17 (((M 81 17) + 1) + 1)))) + (rv (fl_u (fl_u (fl_u M 81 17 ((M 81 17) + 1)) 81 17 (((M 81 17) + 1) + 1)) 81 17 ((((M 81 17) + 1) + 1) + 1))))], [.int ((10 * (rv (fl_u (fl_u M 81 17 ((M 81 17) + 1)) 81 17 (((M 81 17) + 1) + 1)))) + (rv (fl_u (fl_u (fl_u M 81 17 ((M 81 17) + 1)) 81 17 (((M 81 17) + 1) + 1)) 81 17 ((((M 81 17) + 1) + 1) + 1)))), .int (M 81 19), .ref 93], (fl_u (fl_u (fl_u (fl_u (fl_u M 81 17 ((M 81 17) + 1)) 81 17 (((M 81 17) + 1) + 1)) 81 17 ((((M 81 17) + 1) + 1) + 1)) 81 17 (((((M 81 17) + 1) + 1) + 1) + 1)) 92 ((M 81 19).toNatClampNeg) (rv (fl_u M 81 17 ((M 81 17) + 1)))), J)) hB 5 rfl <|
          tw_is hB rfl rfl (by decide) hL (show (M 81 19).toInt < 8 by have z := fi_ne h1; rw [show (8 : Int32).toInt = 8 from rfl] at z; omega) <|
          tw_n (s' := (94, [.ref 81, .int (rv (fl_u M 81 17 ((M 81 17) + 1))), .int ((10 * (rv (fl_u (fl_u M 81 17 ((M 81 17) + 1)) 81 17 (((M 81 17) + 1) + 1)))) + (rv (fl_u (fl_u (fl_u M 81 17 ((M 81 17) + 1)) 81 17 (((M 81 17) + 1) + 1)) 81 17 ((((M 81 17) + 1) + 1) + 1))))], [.int 1], (fl_u (fl_u (fl_u (fl_u (fl_u (fl_u (fl_u M 81 17 ((M 81 17) + 1)) 81 17 (((M 81 17) + 1) + 1)) 81 17 ((((M 81 17) + 1) + 1) + 1)) 81 17 (((((M 81 17) + 1) + 1) + 1) + 1)) 92 ((M 81 19).toNatClampNeg) (rv (fl_u M 81 17 ((M 81 17) + 1)))) 93 ((M 81 19).toNatClampNeg) ((10 * (rv (fl_u (fl_u M 81 17 ((M 81 17) + 1)) 81 17 (((M 81 17) + 1) + 1)))) + (rv (fl_u (fl_u (fl_u M 81 17 ((M 81 17) + 1)) 81 17 (((M 81 17) + 1) + 1)) 81 17 ((((M 81 17) + 1) + 1) + 1))))) 81 19 ((M 81 19) + 1)), J)) hB 7 rfl <|
          tw_rb rfl rfl (by first | decide | (split <;> decide)) (by first | (simp only [if_neg h1, if_neg h2, if_pos h3, if_neg h4, if_pos h5, if_pos h6, if_pos h7, if_neg h8]; done) | rfl))) (fun h7 =>
         tw_cv hB (st0 := []) (o := some (.int (-9))) rfl rfl rfl rfl rfl (show (0 : Nat) ≤ 8 by decide) rfl (by decide) (tw_Ce (show tw_C _ 126 [.ref 81, .int 1, .int 40] (fl_u (fl_u M 81 17 ((M 81 17) + 1)) 81 17 (((M 81 17) + 1) + 1)) J (some (.int (if rg (fl_u (fl_u M 81 17 ((M 81 17) + 1)) 81 17 (((M 81 17) + 1) + 1)) 0 9 = true then (if rg (fl_u (fl_u (fl_u M 81 17 ((M 81 17) + 1)) 81 17 (((M 81 17) + 1) + 1)) 81 17 ((((M 81 17) + 1) + 1) + 1)) 0 9 = true then (if (¬ ((10 * (rv (fl_u (fl_u M 81 17 ((M 81 17) + 1)) 81 17 (((M 81 17) + 1) + 1)))) + (rv (fl_u (fl_u (fl_u M 81 17 ((M 81 17) + 1)) 81 17 (((M 81 17) + 1) + 1)) 81 17 ((((M 81 17) + 1) + 1) + 1))) < 1)) ∧ (¬ (40 < (10 * (rv (fl_u (fl_u M 81 17 ((M 81 17) + 1)) 81 17 (((M 81 17) + 1) + 1)))) + (rv (fl_u (fl_u (fl_u M 81 17 ((M 81 17) + 1)) 81 17 (((M 81 17) + 1) + 1)) 81 17 ((((M 81 17) + 1) + 1) + 1))))) then (10 * (rv (fl_u (fl_u M 81 17 ((M 81 17) + 1)) 81 17 (((M 81 17) + 1) + 1)))) + (rv (fl_u (fl_u (fl_u M 81 17 ((M 81 17) + 1)) 81 17 (((M 81 17) + 1) + 1)) 81 17 ((((M 81 17) + 1) + 1) + 1))) else (-9)) else (-9)) else (-9))), (if rg (fl_u (fl_u M 81 17 ((M 81 17) + 1)) 81 17 (((M 81 17) + 1) + 1)) 0 9 = true then (if rg (fl_u (fl_u (fl_u M 81 17 ((M 81 17) + 1)) 81 17 (((M 81 17) + 1) + 1)) 81 17 ((((M 81 17) + 1) + 1) + 1)) 0 9 = true then (if (¬ ((10 * (rv (fl_u (fl_u M 81 17 ((M 81 17) + 1)) 81 17 (((M 81 17) + 1) + 1)))) + (rv (fl_u (fl_u (fl_u M 81 17 ((M 81 17) + 1)) 81 17 (((M 81 17) + 1) + 1)) 81 17 ((((M 81 17) + 1) + 1) + 1))) < 1)) ∧ (¬ (40 < (10 * (rv (fl_u (fl_u M 81 17 ((M 81 17) + 1)) 81 17 (((M 81 17) + 1) + 1)))) + (rv (fl_u (fl_u (fl_u M 81 17 ((M 81 17) + 1)) 81 17 (((M 81 17) + 1) + 1)) 81 17 ((((M 81 17) + 1) + 1) + 1))))) then (fl_u (fl_u (fl_u (fl_u M 81 17 ((M 81 17) + 1)) 81 17 (((M 81 17) + 1) + 1)) 81 17 ((((M 81 17) + 1) + 1) + 1)) 81 17 (((((M 81 17) + 1) + 1) + 1) + 1)) else (fl_u (fl_u (fl_u (fl_u (fl_u M 81 17 ((M 81 17) + 1)) 81 17 (((M 81 17) + 1) + 1)) 81 17 ((((M 81 17) + 1) + 1) + 1)) 81 17 (((((M 81 17) + 1) + 1) + 1) + 1)) 81 17 (((M 81 17) + 1) + 1))) else (fl_u (fl_u (fl_u M 81 17 ((M 81 17) + 1)) 81 17 (((M 81 17) + 1) + 1)) 81 17 ((((M 81 17) + 1) + 1) + 1))) else (fl_u (fl_u M 81 17 ((M 81 17) + 1)) 81 17 (((M 81 17) + 1) + 1))), J) from (cc_126 _ (fl_u (fl_u M 81 17 ((M 81 17) + 1)) 81 17 (((M 81 17) + 1) + 1)) J 1 40 (show 0 ≤ (M 81 16).toInt by omega) (show (M 81 16).toInt ≤ 180 by omega) (show 0 ≤ (((M 81 17) + 1) + 1).toInt by omega) (show (((M 81 17) + 1) + 1).toInt ≤ (M 81 18).toInt by omega) (show (M 81 18).toInt ≤ 60 by omega))) (by first | (simp only [if_pos h5, if_pos h6, if_neg h7]; done) | (simp only [if_pos h5, if_pos h6, if_neg h7]; rfl))) rfl <|
         tw_sh (s := (54, [.ref 81, .int (rv (fl_u M 81 17 ((M 81 17) + 1))), .null], [.int (-9)], (fl_u (fl_u (fl_u (fl_u (fl_u M 81 17 ((M 81 17) + 1)) 81 17 (((M 81 17) + 1) + 1)) 81 17 ((((M 81 17) + 1) + 1) + 1)) 81 17 (((((M 81 17) + 1) + 1) + 1) + 1)) 81 17 (((M 81 17) + 1) + 1)), J)) <|
         tw_n (s' := (62, [.ref 81, .int (rv (fl_u M 81 17 ((M 81 17) + 1))), .int (-9)], [.int 0], (fl_u (fl_u (fl_u (fl_u (fl_u M 81 17 ((M 81 17) + 1)) 81 17 (((M 81 17) + 1) + 1)) 81 17 ((((M 81 17) + 1) + 1) + 1)) 81 17 (((((M 81 17) + 1) + 1) + 1) + 1)) 81 17 (((M 81 17) + 1) + 1)), J)) hB 5 rfl <|
         tw_rb rfl rfl (by first | decide | (split <;> decide)) (by first | (simp only [if_neg h1, if_neg h2, if_pos h3, if_neg h4, if_pos h5, if_pos h6, if_neg h7]; done) | rfl))) (fun h6 =>
        tw_cv hB (st0 := []) (o := some (.int (-9))) rfl rfl rfl rfl rfl (show (0 : Nat) ≤ 8 by decide) rfl (by decide) (tw_Ce (show tw_C _ 126 [.ref 81, .int 1, .int 40] (fl_u (fl_u M 81 17 ((M 81 17) + 1)) 81 17 (((M 81 17) + 1) + 1)) J (some (.int (if rg (fl_u (fl_u M 81 17 ((M 81 17) + 1)) 81 17 (((M 81 17) + 1) + 1)) 0 9 = true then (if rg (fl_u (fl_u (fl_u M 81 17 ((M 81 17) + 1)) 81 17 (((M 81 17) + 1) + 1)) 81 17 ((((M 81 17) + 1) + 1) + 1)) 0 9 = true then (if (¬ ((10 * (rv (fl_u (fl_u M 81 17 ((M 81 17) + 1)) 81 17 (((M 81 17) + 1) + 1)))) + (rv (fl_u (fl_u (fl_u M 81 17 ((M 81 17) + 1)) 81 17 (((M 81 17) + 1) + 1)) 81 17 ((((M 81 17) + 1) + 1) + 1))) < 1)) ∧ (¬ (40 < (10 * (rv (fl_u (fl_u M 81 17 ((M 81 17) + 1)) 81 17 (((M 81 17) + 1) + 1)))) + (rv (fl_u (fl_u (fl_u M 81 17 ((M 81 17) + 1)) 81 17 (((M 81 17) + 1) + 1)) 81 17 ((((M 81 17) + 1) + 1) + 1))))) then (10 * (rv (fl_u (fl_u M 81 17 ((M 81 17) + 1)) 81 17 (((M 81 17) + 1) + 1)))) + (rv (fl_u (fl_u (fl_u M 81 17 ((M 81 17) + 1)) 81 17 (((M 81 17) + 1) + 1)) 81 17 ((((M 81 17) + 1) + 1) + 1))) else (-9)) else (-9)) else (-9))), (if rg (fl_u (fl_u M 81 17 ((M 81 17) + 1)) 81 17 (((M 81 17) + 1) + 1)) 0 9 = true then (if rg (fl_u (fl_u (fl_u M 81 17 ((M 81 17) + 1)) 81 17 (((M 81 17) + 1) + 1)) 81 17 ((((M 81 17) + 1) + 1) + 1)) 0 9 = true then (if (¬ ((10 * (rv (fl_u (fl_u M 81 17 ((M 81 17) + 1)) 81 17 (((M 81 17) + 1) + 1)))) + (rv (fl_u (fl_u (fl_u M 81 17 ((M 81 17) + 1)) 81 17 (((M 81 17) + 1) + 1)) 81 17 ((((M 81 17) + 1) + 1) + 1))) < 1)) ∧ (¬ (40 < (10 * (rv (fl_u (fl_u M 81 17 ((M 81 17) + 1)) 81 17 (((M 81 17) + 1) + 1)))) + (rv (fl_u (fl_u (fl_u M 81 17 ((M 81 17) + 1)) 81 17 (((M 81 17) + 1) + 1)) 81 17 ((((M 81 17) + 1) + 1) + 1))))) then (fl_u (fl_u (fl_u (fl_u M 81 17 ((M 81 17) + 1)) 81 17 (((M 81 17) + 1) + 1)) 81 17 ((((M 81 17) + 1) + 1) + 1)) 81 17 (((((M 81 17) + 1) + 1) + 1) + 1)) else (fl_u (fl_u (fl_u (fl_u (fl_u M 81 17 ((M 81 17) + 1)) 81 17 (((M 81 17) + 1) + 1)) 81 17 ((((M 81 17) + 1) + 1) + 1)) 81 17 (((((M 81 17) + 1) + 1) + 1) + 1)) 81 17 (((M 81 17) + 1) + 1))) else (fl_u (fl_u (fl_u M 81 17 ((M 81 17) + 1)) 81 17 (((M 81 17) + 1) + 1)) 81 17 ((((M 81 17) + 1) + 1) + 1))) else (fl_u (fl_u M 81 17 ((M 81 17) + 1)) 81 17 (((M 81 17) + 1) + 1))), J) from (cc_126 _ (fl_u (fl_u M 81 17 ((M 81 17) + 1)) 81 17 (((M 81 17) + 1) + 1)) J 1 40 (show 0 ≤ (M 81 16).toInt by omega) (show (M 81 16).toInt ≤ 180 by omega) (show 0 ≤ (((M 81 17) + 1) + 1).toInt by omega) (show (((M 81 17) + 1) + 1).toInt ≤ (M 81 18).toInt by omega) (show (M 81 18).toInt ≤ 60 by omega))) (by first | (simp only [if_pos h5, if_neg h6]; done) | (simp only [if_pos h5, if_neg h6]; rfl))) rfl <|
        tw_sh (s := (54, [.ref 81, .int (rv (fl_u M 81 17 ((M 81 17) + 1))), .null], [.int (-9)], (fl_u (fl_u (fl_u M 81 17 ((M 81 17) + 1)) 81 17 (((M 81 17) + 1) + 1)) 81 17 ((((M 81 17) + 1) + 1) + 1)), J)) <|
        tw_n (s' := (62, [.ref 81, .int (rv (fl_u M 81 17 ((M 81 17) + 1))), .int (-9)], [.int 0], (fl_u (fl_u (fl_u M 81 17 ((M 81 17) + 1)) 81 17 (((M 81 17) + 1) + 1)) 81 17 ((((M 81 17) + 1) + 1) + 1)), J)) hB 5 rfl <|
        tw_rb rfl rfl (by first | decide | (split <;> decide)) (by first | (simp only [if_neg h1, if_neg h2, if_pos h3, if_neg h4, if_pos h5, if_neg h6]; done) | rfl))) (fun h5 =>
       tw_cv hB (st0 := []) (o := some (.int (-9))) rfl rfl rfl rfl rfl (show (0 : Nat) ≤ 8 by decide) rfl (by decide) (tw_Ce (show tw_C _ 126 [.ref 81, .int 1, .int 40] (fl_u (fl_u M 81 17 ((M 81 17) + 1)) 81 17 (((M 81 17) + 1) + 1)) J (some (.int (if rg (fl_u (fl_u M 81 17 ((M 81 17) + 1)) 81 17 (((M 81 17) + 1) + 1)) 0 9 = true then (if rg (fl_u (fl_u (fl_u M 81 17 ((M 81 17) + 1)) 81 17 (((M 81 17) + 1) + 1)) 81 17 ((((M 81 17) + 1) + 1) + 1)) 0 9 = true then (if (¬ ((10 * (rv (fl_u (fl_u M 81 17 ((M 81 17) + 1)) 81 17 (((M 81 17) + 1) + 1)))) + (rv (fl_u (fl_u (fl_u M 81 17 ((M 81 17) + 1)) 81 17 (((M 81 17) + 1) + 1)) 81 17 ((((M 81 17) + 1) + 1) + 1))) < 1)) ∧ (¬ (40 < (10 * (rv (fl_u (fl_u M 81 17 ((M 81 17) + 1)) 81 17 (((M 81 17) + 1) + 1)))) + (rv (fl_u (fl_u (fl_u M 81 17 ((M 81 17) + 1)) 81 17 (((M 81 17) + 1) + 1)) 81 17 ((((M 81 17) + 1) + 1) + 1))))) then (10 * (rv (fl_u (fl_u M 81 17 ((M 81 17) + 1)) 81 17 (((M 81 17) + 1) + 1)))) + (rv (fl_u (fl_u (fl_u M 81 17 ((M 81 17) + 1)) 81 17 (((M 81 17) + 1) + 1)) 81 17 ((((M 81 17) + 1) + 1) + 1))) else (-9)) else (-9)) else (-9))), (if rg (fl_u (fl_u M 81 17 ((M 81 17) + 1)) 81 17 (((M 81 17) + 1) + 1)) 0 9 = true then (if rg (fl_u (fl_u (fl_u M 81 17 ((M 81 17) + 1)) 81 17 (((M 81 17) + 1) + 1)) 81 17 ((((M 81 17) + 1) + 1) + 1)) 0 9 = true then (if (¬ ((10 * (rv (fl_u (fl_u M 81 17 ((M 81 17) + 1)) 81 17 (((M 81 17) + 1) + 1)))) + (rv (fl_u (fl_u (fl_u M 81 17 ((M 81 17) + 1)) 81 17 (((M 81 17) + 1) + 1)) 81 17 ((((M 81 17) + 1) + 1) + 1))) < 1)) ∧ (¬ (40 < (10 * (rv (fl_u (fl_u M 81 17 ((M 81 17) + 1)) 81 17 (((M 81 17) + 1) + 1)))) + (rv (fl_u (fl_u (fl_u M 81 17 ((M 81 17) + 1)) 81 17 (((M 81 17) + 1) + 1)) 81 17 ((((M 81 17) + 1) + 1) + 1))))) then (fl_u (fl_u (fl_u (fl_u M 81 17 ((M 81 17) + 1)) 81 17 (((M 81 17) + 1) + 1)) 81 17 ((((M 81 17) + 1) + 1) + 1)) 81 17 (((((M 81 17) + 1) + 1) + 1) + 1)) else (fl_u (fl_u (fl_u (fl_u (fl_u M 81 17 ((M 81 17) + 1)) 81 17 (((M 81 17) + 1) + 1)) 81 17 ((((M 81 17) + 1) + 1) + 1)) 81 17 (((((M 81 17) + 1) + 1) + 1) + 1)) 81 17 (((M 81 17) + 1) + 1))) else (fl_u (fl_u (fl_u M 81 17 ((M 81 17) + 1)) 81 17 (((M 81 17) + 1) + 1)) 81 17 ((((M 81 17) + 1) + 1) + 1))) else (fl_u (fl_u M 81 17 ((M 81 17) + 1)) 81 17 (((M 81 17) + 1) + 1))), J) from (cc_126 _ (fl_u (fl_u M 81 17 ((M 81 17) + 1)) 81 17 (((M 81 17) + 1) + 1)) J 1 40 (show 0 ≤ (M 81 16).toInt by omega) (show (M 81 16).toInt ≤ 180 by omega) (show 0 ≤ (((M 81 17) + 1) + 1).toInt by omega) (show (((M 81 17) + 1) + 1).toInt ≤ (M 81 18).toInt by omega) (show (M 81 18).toInt ≤ 60 by omega))) (by first | (simp only [if_neg h5]; done) | (simp only [if_neg h5]; rfl))) rfl <|
       tw_sh (s := (54, [.ref 81, .int (rv (fl_u M 81 17 ((M 81 17) + 1))), .null], [.int (-9)], (fl_u (fl_u M 81 17 ((M 81 17) + 1)) 81 17 (((M 81 17) + 1) + 1)), J)) <|
       tw_n (s' := (62, [.ref 81, .int (rv (fl_u M 81 17 ((M 81 17) + 1))), .int (-9)], [.int 0], (fl_u (fl_u M 81 17 ((M 81 17) + 1)) 81 17 (((M 81 17) + 1) + 1)), J)) hB 5 rfl <|
       tw_rb rfl rfl (by first | decide | (split <;> decide)) (by first | (simp only [if_neg h1, if_neg h2, if_pos h3, if_neg h4, if_neg h5]; done) | rfl)))) (fun h3 =>
     tw_cv hB (st0 := []) (o := some (.int (-9))) rfl rfl rfl rfl rfl (show (0 : Nat) ≤ 8 by decide) rfl (by decide) (tw_Ce (show tw_C _ 125 [.ref 81, .int 0, .int 9] (fl_u M 81 17 ((M 81 17) + 1)) J (some (.int (if rg (fl_u M 81 17 ((M 81 17) + 1)) 0 9 = true then rv (fl_u M 81 17 ((M 81 17) + 1)) else (-9))), (if rg (fl_u M 81 17 ((M 81 17) + 1)) 0 9 = true then (fl_u (fl_u M 81 17 ((M 81 17) + 1)) 81 17 (((M 81 17) + 1) + 1)) else (fl_u M 81 17 ((M 81 17) + 1))), J) from (cc_125 _ (fl_u M 81 17 ((M 81 17) + 1)) J 0 9 (show 0 ≤ (M 81 16).toInt by omega) (show (M 81 16).toInt ≤ 180 by omega) (show 0 ≤ ((M 81 17) + 1).toInt by omega) (show ((M 81 17) + 1).toInt ≤ (M 81 18).toInt by omega) (show (M 81 18).toInt ≤ 60 by omega))) (by first | (simp only [if_neg h3]; done) | (simp only [if_neg h3]; rfl))) rfl <|
     tw_sh (s := (35, [.ref 81, .null, .null], [.int (-9)], (fl_u M 81 17 ((M 81 17) + 1)), J)) <|
     tw_n (s' := (62, [.ref 81, .int (-9), .int (-9)], [.int 0], (fl_u M 81 17 ((M 81 17) + 1)), J)) hB 11 rfl <|
     tw_rb rfl rfl (by first | decide | (split <;> decide)) (by first | (simp only [if_neg h1, if_neg h2, if_neg h3]; done) | rfl))))
def fB127 : sm_P := (fun pc => sm_ch sm_t127 pc, sm_Kn 3 5 none, fun x => sm_lk sm_ca3 x, some .boolean)
theorem cc_127 (d : Nat) (M : fl_M) (J : fl_J) (hF : 0 ≤ (M 81 16).toInt) (hF2 : (M 81 16).toInt ≤ 180) (hP : 0 ≤ (M 81 17).toInt) (hE : (M 81 17).toInt ≤ (M 81 18).toInt) (hE2 : (M 81 18).toInt ≤ 60) (hL : 0 ≤ (M 81 19).toInt) (hL2 : (M 81 19).toInt ≤ 8) (hQ : (M 81 17).toInt < (M 81 18).toInt) (hm : 0 ≤ (M 81 22).toInt) (hm2 : (M 81 22).toInt ≤ 4) : tw_C (d + 3) 127 [.ref 81] M J (some (.int (if (fk (rh M)) = (-9) then 0 else (if (M 81 22) = 4 then 0 else (if (M 81 19) = 0 then 0 else (if rg (fl_u M 81 17 ((M 81 17) + 1)) 0 ((M 81 19) - 1) = true then (if rg (fl_u (fl_u M 81 17 ((M 81 17) + 1)) 81 17 (((M 81 17) + 1) + 1)) 1 9 = true then 1 else 0) else 0))))), (if (fk (rh M)) = (-9) then M else (if (M 81 22) = 4 then M else (if (M 81 19) = 0 then M else (if rg (fl_u M 81 17 ((M 81 17) + 1)) 0 ((M 81 19) - 1) = true then (if rg (fl_u (fl_u M 81 17 ((M 81 17) + 1)) 81 17 (((M 81 17) + 1) + 1)) 1 9 = true then (fl_u (fl_u (fl_u (fl_u (fl_u (fl_u (fl_u M 81 17 ((M 81 17) + 1)) 81 17 (((M 81 17) + 1) + 1)) 81 17 ((((M 81 17) + 1) + 1) + 1)) 94 ((3 * (M 81 22)).toNatClampNeg) (fk (rh M))) 94 (((3 * (M 81 22)) + 1).toNatClampNeg) (rv (fl_u M 81 17 ((M 81 17) + 1)))) 94 (((3 * (M 81 22)) + 2).toNatClampNeg) (rv (fl_u (fl_u M 81 17 ((M 81 17) + 1)) 81 17 (((M 81 17) + 1) + 1)))) 81 22 ((M 81 22) + 1)) else (fl_u (fl_u M 81 17 ((M 81 17) + 1)) 81 17 (((M 81 17) + 1) + 1))) else (fl_u M 81 17 ((M 81 17) + 1)))))), J) := by
  have hB : fw_B fB127 := fw_sB (k := 127) (by decide)
  have ep : ((M 81 17) + 1).toInt = (M 81 17).toInt + 1 := fi_p1 (by omega)
  have ep2 : (((M 81 17) + 1) + 1).toInt = (M 81 17).toInt + 2 := by rw [fi_p1 (by omega), ep]; omega
  have ep3 : ((((M 81 17) + 1) + 1) + 1).toInt = (M 81 17).toInt + 3 := by rw [fi_p1 (by omega), ep2]; omega
  have ep4 : (((((M 81 17) + 1) + 1) + 1) + 1).toInt = (M 81 17).toInt + 4 := by rw [fi_p1 (by omega), ep3]; omega
  have em : (3 * (M 81 22)).toInt = 3 * (M 81 22).toInt := by rw [fi_mul (by rw [fi_i3]; omega) (by rw [fi_i3]; omega), fi_i3]
  have em1 : ((3 * (M 81 22)) + 1).toInt = 3 * (M 81 22).toInt + 1 := by rw [fi_p1 (by omega), em]
  have em2 : ((3 * (M 81 22)) + 2).toInt = 3 * (M 81 22).toInt + 2 := by rw [fi_add (by rw [show (2 : Int32).toInt = 2 from rfl]; omega) (by rw [show (2 : Int32).toInt = 2 from rfl]; omega), em]; rfl
  refine tw_Co (d := d + 2) (B := fB127) (by decide) rfl rfl (show (1 : Nat) ≤ 5 by decide) ?_ ?_
  · intro i v hv hn
    match i, hv with
    | 0, hv => cases hv; rfl
    | 1, hv => cases hv; exact absurd rfl hn
    | 2, hv => cases hv; exact absurd rfl hn
    | 3, hv => cases hv; exact absurd rfl hn
    | 4, hv => cases hv; exact absurd rfl hn
    | _ + 5, hv => cases hv
  exact tw_n (s' := (8, [.ref 81, .int (3 * (M 81 22)), .null, .null, .null], [.ref 81], M, J)) hB 6 rfl <|
  tw_cv hB (st0 := []) (o := some (.int (rh M))) rfl rfl rfl rfl rfl (show (0 : Nat) ≤ 8 by decide) rfl (by decide) (cc_123 _ M J (show 0 ≤ (M 81 16).toInt by omega) (show (M 81 16).toInt ≤ 180 by omega) (show 0 ≤ (M 81 17).toInt by omega) (by show (M 81 17).toInt < 60; first | omega | (have z := fi_ne (show ¬ (M 81 17) = (M 81 18) by assumption); omega) | (have z := fi_l.mp (show (M 81 17) < (M 81 18) by assumption); omega))) rfl <|
  tw_sh (s := (11, [.ref 81, .int (3 * (M 81 22)), .null, .null, .null], [.int (rh M)], M, J)) <|
  tw_cs hB (st0 := []) (o := some (.int (fk (rh M)))) rfl rfl (by decide) rfl rfl (show (0 : Nat) ≤ 8 by decide) (cc_128 _ M J (rh M)) rfl <|
  tw_sh (s := (14, [.ref 81, .int (3 * (M 81 22)), .null, .null, .null], [.int (fk (rh M))], M, J)) <|
  tw_n (s' := (18, [.ref 81, .int (3 * (M 81 22)), .int (fk (rh M)), .null, .null], [.int (-9), .int (fk (rh M))], M, J)) hB 3 rfl <|
  tw_ic hB (t := 36) rfl rfl fl_cT (fun h1 =>
   tw_n (s' := (37, [.ref 81, .int (3 * (M 81 22)), .int (fk (rh M)), .null, .null], [.int 0], M, J)) hB 1 rfl <|
   tw_rb rfl rfl (by first | decide | (split <;> decide)) (by first | (simp only [if_pos h1]; done) | rfl)) (fun h1 =>
   tw_n (s' := (26, [.ref 81, .int (3 * (M 81 22)), .int (fk (rh M)), .null, .null], [.int 4, .int (M 81 22)], M, J)) hB 3 rfl <|
   tw_ic hB (t := 36) rfl rfl fl_cT (fun h2 =>
    tw_n (s' := (37, [.ref 81, .int (3 * (M 81 22)), .int (fk (rh M)), .null, .null], [.int 0], M, J)) hB 1 rfl <|
    tw_rb rfl rfl (by first | decide | (split <;> decide)) (by first | (simp only [if_neg h1, if_pos h2]; done) | rfl)) (fun h2 =>
    tw_n (s' := (33, [.ref 81, .int (3 * (M 81 22)), .int (fk (rh M)), .null, .null], [.int (M 81 19)], M, J)) hB 2 rfl <|
    tw_ifN hB (t := 38) rfl rfl fl_cF (fun h3 =>
     tw_n (s' := (37, [.ref 81, .int (3 * (M 81 22)), .int (fk (rh M)), .null, .null], [.int 0], M, J)) hB 1 rfl <|
     tw_rb rfl rfl (by first | decide | (split <;> decide)) (by first | (simp only [if_neg h1, if_neg h2, if_pos h3]; done) | rfl)) (fun h3 =>
     tw_n (s' := (56, [.ref 81, .int (3 * (M 81 22)), .int (fk (rh M)), .null, .null], [.int ((M 81 19) - 1), .int 0, .ref 81], (fl_u M 81 17 ((M 81 17) + 1)), J)) hB 12 rfl <|
     tw_dc (c := rg (fl_u M 81 17 ((M 81 17) + 1)) 0 ((M 81 19) - 1) = true) (fun h4 =>
      have z4 : ((M 81 17) + 1).toInt ≠ (M 81 18).toInt := rg_lt h4; tw_cv hB (st0 := []) (o := some (.int (rv (fl_u M 81 17 ((M 81 17) + 1))))) rfl rfl rfl rfl rfl (show (0 : Nat) ≤ 8 by decide) rfl (by decide) (tw_Ce (show tw_C _ 125 [.ref 81, .int 0, .int ((M 81 19) - 1)] (fl_u M 81 17 ((M 81 17) + 1)) J (some (.int (if rg (fl_u M 81 17 ((M 81 17) + 1)) 0 ((M 81 19) - 1) = true then rv (fl_u M 81 17 ((M 81 17) + 1)) else (-9))), (if rg (fl_u M 81 17 ((M 81 17) + 1)) 0 ((M 81 19) - 1) = true then (fl_u (fl_u M 81 17 ((M 81 17) + 1)) 81 17 (((M 81 17) + 1) + 1)) else (fl_u M 81 17 ((M 81 17) + 1))), J) from (cc_125 _ (fl_u M 81 17 ((M 81 17) + 1)) J 0 ((M 81 19) - 1) (show 0 ≤ (M 81 16).toInt by omega) (show (M 81 16).toInt ≤ 180 by omega) (show 0 ≤ ((M 81 17) + 1).toInt by omega) (show ((M 81 17) + 1).toInt ≤ (M 81 18).toInt by omega) (show (M 81 18).toInt ≤ 60 by omega))) (by first | (simp only [if_pos h4]; done) | (simp only [if_pos h4]; rfl))) rfl <|
      tw_sh (s := (59, [.ref 81, .int (3 * (M 81 22)), .int (fk (rh M)), .null, .null], [.int (rv (fl_u M 81 17 ((M 81 17) + 1)))], (fl_u (fl_u M 81 17 ((M 81 17) + 1)) 81 17 (((M 81 17) + 1) + 1)), J)) <|
      tw_n (s' := (63, [.ref 81, .int (3 * (M 81 22)), .int (fk (rh M)), .int (rv (fl_u M 81 17 ((M 81 17) + 1))), .null], [.int (-9), .int (rv (fl_u M 81 17 ((M 81 17) + 1)))], (fl_u (fl_u M 81 17 ((M 81 17) + 1)) 81 17 (((M 81 17) + 1) + 1)), J)) hB 3 rfl <|
      tw_icN hB (t := 71) rfl rfl fl_cF (fun h5 =>
       absurd h5 (rg_ne (by assumption) (by decide) (by decide))) (fun h5 =>
       tw_n (s' := (75, [.ref 81, .int (3 * (M 81 22)), .int (fk (rh M)), .int (rv (fl_u M 81 17 ((M 81 17) + 1))), .null], [.int 9, .int 1, .ref 81], (fl_u (fl_u M 81 17 ((M 81 17) + 1)) 81 17 (((M 81 17) + 1) + 1)), J)) hB 3 rfl <|
       tw_dc (c := rg (fl_u (fl_u M 81 17 ((M 81 17) + 1)) 81 17 (((M 81 17) + 1) + 1)) 1 9 = true) (fun h6 =>
        have z6 : (((M 81 17) + 1) + 1).toInt ≠ (M 81 18).toInt := rg_lt h6; tw_cv hB (st0 := []) (o := some (.int (rv (fl_u (fl_u M 81 17 ((M 81 17) + 1)) 81 17 (((M 81 17) + 1) + 1))))) rfl rfl rfl rfl rfl (show (0 : Nat) ≤ 8 by decide) rfl (by decide) (tw_Ce (show tw_C _ 125 [.ref 81, .int 1, .int 9] (fl_u (fl_u M 81 17 ((M 81 17) + 1)) 81 17 (((M 81 17) + 1) + 1)) J (some (.int (if rg (fl_u (fl_u M 81 17 ((M 81 17) + 1)) 81 17 (((M 81 17) + 1) + 1)) 1 9 = true then rv (fl_u (fl_u M 81 17 ((M 81 17) + 1)) 81 17 (((M 81 17) + 1) + 1)) else (-9))), (if rg (fl_u (fl_u M 81 17 ((M 81 17) + 1)) 81 17 (((M 81 17) + 1) + 1)) 1 9 = true then (fl_u (fl_u (fl_u M 81 17 ((M 81 17) + 1)) 81 17 (((M 81 17) + 1) + 1)) 81 17 ((((M 81 17) + 1) + 1) + 1)) else (fl_u (fl_u M 81 17 ((M 81 17) + 1)) 81 17 (((M 81 17) + 1) + 1))), J) from (cc_125 _ (fl_u (fl_u M 81 17 ((M 81 17) + 1)) 81 17 (((M 81 17) + 1) + 1)) J 1 9 (show 0 ≤ (M 81 16).toInt by omega) (show (M 81 16).toInt ≤ 180 by omega) (show 0 ≤ (((M 81 17) + 1) + 1).toInt by omega) (show (((M 81 17) + 1) + 1).toInt ≤ (M 81 18).toInt by omega) (show (M 81 18).toInt ≤ 60 by omega))) (by first | (simp only [if_pos h6]; done) | (simp only [if_pos h6]; rfl))) rfl <|
        tw_sh (s := (78, [.ref 81, .int (3 * (M 81 22)), .int (fk (rh M)), .int (rv (fl_u M 81 17 ((M 81 17) + 1))), .null], [.int (rv (fl_u (fl_u M 81 17 ((M 81 17) + 1)) 81 17 (((M 81 17) + 1) + 1)))], (fl_u (fl_u (fl_u M 81 17 ((M 81 17) + 1)) 81 17 (((M 81 17) + 1) + 1)) 81 17 ((((M 81 17) + 1) + 1) + 1)), J)) <|
        tw_n (s' := (84, [.ref 81, .int (3 * (M 81 22)), .int (fk (rh M)), .int (rv (fl_u M 81 17 ((M 81 17) + 1))), .int (rv (fl_u (fl_u M 81 17 ((M 81 17) + 1)) 81 17 (((M 81 17) + 1) + 1)))], [.int (-9), .int (rv (fl_u (fl_u M 81 17 ((M 81 17) + 1)) 81 17 (((M 81 17) + 1) + 1)))], (fl_u (fl_u (fl_u M 81 17 ((M 81 17) + 1)) 81 17 (((M 81 17) + 1) + 1)) 81 17 ((((M 81 17) + 1) + 1) + 1)), J)) hB 3 rfl <|
        tw_icN hB (t := 89) rfl rfl fl_cF (fun h7 =>
         absurd h7 (rg_ne (by assumption) (by decide) (by decide))) (fun h7 =>
         tw_n (s' := (95, [.ref 81, .int (3 * (M 81 22)), .int (fk (rh M)), .int (rv (fl_u M 81 17 ((M 81 17) + 1))), .int (rv (fl_u (fl_u M 81 17 ((M 81 17) + 1)) 81 17 (((M 81 17) + 1) + 1)))], [.int (fk (rh M)), .int (3 * (M 81 22)), .ref 94], (fl_u (fl_u (fl_u M 81 17 ((M 81 17) + 1)) 81 17 (((M 81 17) + 1) + 1)) 81 17 ((((M 81 17) + 1) + 1) + 1)), J)) hB 4 rfl <|
         tw_is hB rfl rfl (by decide) (by omega) (show (3 * (M 81 22)).toInt < 12 by have z := fi_ne h2; rw [fi_i4] at z; omega) <|
         tw_n (s' := (104, [.ref 81, .int (3 * (M 81 22)), .int (fk (rh M)), .int (rv (fl_u M 81 17 ((M 81 17) + 1))), .int (rv (fl_u (fl_u M 81 17 ((M 81 17) + 1)) 81 17 (((M 81 17) + 1) + 1)))], [.int (rv (fl_u M 81 17 ((M 81 17) + 1))), .int ((3 * (M 81 22)) + 1), .ref 94], (fl_u (fl_u (fl_u (fl_u M 81 17 ((M 81 17) + 1)) 81 17 (((M 81 17) + 1) + 1)) 81 17 ((((M 81 17) + 1) + 1) + 1)) 94 ((3 * (M 81 22)).toNatClampNeg) (fk (rh M))), J)) hB 6 rfl <|
         tw_is hB rfl rfl (by decide) (by omega) (show ((3 * (M 81 22)) + 1).toInt < 12 by have z := fi_ne h2; rw [fi_i4] at z; omega) <|
         tw_n (s' := (114, [.ref 81, .int (3 * (M 81 22)), .int (fk (rh M)), .int (rv (fl_u M 81 17 ((M 81 17) + 1))), .int (rv (fl_u (fl_u M 81 17 ((M 81 17) + 1)) 81 17 (((M 81 17) + 1) + 1)))], [.int (rv (fl_u (fl_u M 81 17 ((M 81 17) + 1)) 81 17 (((M 81 17) + 1) + 1))), .int ((3 * (M 81 22)) + 2), .ref 94], (fl_u (fl_u (fl_u (fl_u (fl_u M 81 17 ((M 81 17) + 1)) 81 17 (((M 81 17) + 1) + 1)) 81 17 ((((M 81 17) + 1) + 1) + 1)) 94 ((3 * (M 81 22)).toNatClampNeg) (fk (rh M))) 94 (((3 * (M 81 22)) + 1).toNatClampNeg) (rv (fl_u M 81 17 ((M 81 17) + 1)))), J)) hB 6 rfl <|
         tw_is hB rfl rfl (by decide) (by omega) (show ((3 * (M 81 22)) + 2).toInt < 12 by have z := fi_ne h2; rw [fi_i4] at z; omega) <|
         tw_n (s' := (126, [.ref 81, .int (3 * (M 81 22)), .int (fk (rh M)), .int (rv (fl_u M 81 17 ((M 81 17) + 1))), .int (rv (fl_u (fl_u M 81 17 ((M 81 17) + 1)) 81 17 (((M 81 17) + 1) + 1)))], [.int 1], (fl_u (fl_u (fl_u (fl_u (fl_u (fl_u (fl_u M 81 17 ((M 81 17) + 1)) 81 17 (((M 81 17) + 1) + 1)) 81 17 ((((M 81 17) + 1) + 1) + 1)) 94 ((3 * (M 81 22)).toNatClampNeg) (fk (rh M))) 94 (((3 * (M 81 22)) + 1).toNatClampNeg) (rv (fl_u M 81 17 ((M 81 17) + 1)))) 94 (((3 * (M 81 22)) + 2).toNatClampNeg) (rv (fl_u (fl_u M 81 17 ((M 81 17) + 1)) 81 17 (((M 81 17) + 1) + 1)))) 81 22 ((M 81 22) + 1)), J)) hB 7 rfl <|
         tw_rb rfl rfl (by first | decide | (split <;> decide)) (by first | (simp only [if_neg h1, if_neg h2, if_neg h3, if_pos h4, if_neg h5, if_pos h6, if_neg h7]; done) | rfl))) (fun h6 =>
        tw_cv hB (st0 := []) (o := some (.int (-9))) rfl rfl rfl rfl rfl (show (0 : Nat) ≤ 8 by decide) rfl (by decide) (tw_Ce (show tw_C _ 125 [.ref 81, .int 1, .int 9] (fl_u (fl_u M 81 17 ((M 81 17) + 1)) 81 17 (((M 81 17) + 1) + 1)) J (some (.int (if rg (fl_u (fl_u M 81 17 ((M 81 17) + 1)) 81 17 (((M 81 17) + 1) + 1)) 1 9 = true then rv (fl_u (fl_u M 81 17 ((M 81 17) + 1)) 81 17 (((M 81 17) + 1) + 1)) else (-9))), (if rg (fl_u (fl_u M 81 17 ((M 81 17) + 1)) 81 17 (((M 81 17) + 1) + 1)) 1 9 = true then (fl_u (fl_u (fl_u M 81 17 ((M 81 17) + 1)) 81 17 (((M 81 17) + 1) + 1)) 81 17 ((((M 81 17) + 1) + 1) + 1)) else (fl_u (fl_u M 81 17 ((M 81 17) + 1)) 81 17 (((M 81 17) + 1) + 1))), J) from (cc_125 _ (fl_u (fl_u M 81 17 ((M 81 17) + 1)) 81 17 (((M 81 17) + 1) + 1)) J 1 9 (show 0 ≤ (M 81 16).toInt by omega) (show (M 81 16).toInt ≤ 180 by omega) (show 0 ≤ (((M 81 17) + 1) + 1).toInt by omega) (show (((M 81 17) + 1) + 1).toInt ≤ (M 81 18).toInt by omega) (show (M 81 18).toInt ≤ 60 by omega))) (by first | (simp only [if_neg h6]; done) | (simp only [if_neg h6]; rfl))) rfl <|
        tw_sh (s := (78, [.ref 81, .int (3 * (M 81 22)), .int (fk (rh M)), .int (rv (fl_u M 81 17 ((M 81 17) + 1))), .null], [.int (-9)], (fl_u (fl_u M 81 17 ((M 81 17) + 1)) 81 17 (((M 81 17) + 1) + 1)), J)) <|
        tw_n (s' := (88, [.ref 81, .int (3 * (M 81 22)), .int (fk (rh M)), .int (rv (fl_u M 81 17 ((M 81 17) + 1))), .int (-9)], [.int 0], (fl_u (fl_u M 81 17 ((M 81 17) + 1)) 81 17 (((M 81 17) + 1) + 1)), J)) hB 5 rfl <|
        tw_rb rfl rfl (by first | decide | (split <;> decide)) (by first | (simp only [if_neg h1, if_neg h2, if_neg h3, if_pos h4, if_neg h5, if_neg h6]; done) | rfl)))) (fun h4 =>
      tw_cv hB (st0 := []) (o := some (.int (-9))) rfl rfl rfl rfl rfl (show (0 : Nat) ≤ 8 by decide) rfl (by decide) (tw_Ce (show tw_C _ 125 [.ref 81, .int 0, .int ((M 81 19) - 1)] (fl_u M 81 17 ((M 81 17) + 1)) J (some (.int (if rg (fl_u M 81 17 ((M 81 17) + 1)) 0 ((M 81 19) - 1) = true then rv (fl_u M 81 17 ((M 81 17) + 1)) else (-9))), (if rg (fl_u M 81 17 ((M 81 17) + 1)) 0 ((M 81 19) - 1) = true then (fl_u (fl_u M 81 17 ((M 81 17) + 1)) 81 17 (((M 81 17) + 1) + 1)) else (fl_u M 81 17 ((M 81 17) + 1))), J) from (cc_125 _ (fl_u M 81 17 ((M 81 17) + 1)) J 0 ((M 81 19) - 1) (show 0 ≤ (M 81 16).toInt by omega) (show (M 81 16).toInt ≤ 180 by omega) (show 0 ≤ ((M 81 17) + 1).toInt by omega) (show ((M 81 17) + 1).toInt ≤ (M 81 18).toInt by omega) (show (M 81 18).toInt ≤ 60 by omega))) (by first | (simp only [if_neg h4]; done) | (simp only [if_neg h4]; rfl))) rfl <|
      tw_sh (s := (59, [.ref 81, .int (3 * (M 81 22)), .int (fk (rh M)), .null, .null], [.int (-9)], (fl_u M 81 17 ((M 81 17) + 1)), J)) <|
      tw_n (s' := (88, [.ref 81, .int (3 * (M 81 22)), .int (fk (rh M)), .int (-9), .int (-9)], [.int 0], (fl_u M 81 17 ((M 81 17) + 1)), J)) hB 11 rfl <|
      tw_rb rfl rfl (by first | decide | (split <;> decide)) (by first | (simp only [if_neg h1, if_neg h2, if_neg h3, if_neg h4]; done) | rfl)))))
theorem rsk_f : ∀ (f : Nat) (M : fl_M), (M 81 17).toInt ≤ (M 81 18).toInt → (M 81 18).toInt ≤ 60 → (∀ i, i ≠ 17 → rsk f M 81 i = M 81 i) ∧ (∀ a, a ≠ 81 → rsk f M a = M a) ∧ (M 81 17).toInt ≤ (rsk f M 81 17).toInt ∧ (rsk f M 81 17).toInt ≤ (M 81 18).toInt := by
  intro f
  induction f with
  | zero => intro M h1 h2; exact ⟨fun _ _ => rfl, fun _ _ => rfl, Int.le_refl _, h1⟩
  | succ f ih =>
    intro M h1 h2
    unfold rsk
    split
    · rename_i h3
      have h3 := fi_l.mp h3
      have e := fi_p1 (p := M 81 17) (by omega)
      split
      · obtain ⟨i1, i2, i3, i4⟩ := ih (fl_u M 81 17 (M 81 17 + 1)) (show (M 81 17 + 1).toInt ≤ (M 81 18).toInt by omega) h2
        refine ⟨fun i hi => ?_, fun a ha => ?_, ?_, ?_⟩
        · rw [i1 i hi]
          unfold fl_u
          rw [if_neg (fun z => hi z.2)]
        · rw [i2 a ha, fl_un ha]
        · have i3 : (M 81 17 + 1).toInt ≤ _ := i3
          omega
        · exact i4
      · exact ⟨fun _ _ => rfl, fun _ _ => rfl, Int.le_refl _, h1⟩
    · exact ⟨fun _ _ => rfl, fun _ _ => rfl, Int.le_refl _, h1⟩
def fB121 : sm_P := (fun pc => sm_ch sm_t121 pc, sm_Kn 3 2 none, fun x => sm_lk sm_ca3 x, some .boolean)
theorem cc_121 (d : Nat) (M : fl_M) (J : fl_J) (hF : 0 ≤ (M 81 16).toInt) (hF2 : (M 81 16).toInt ≤ 180) (hP : 0 ≤ (M 81 17).toInt) (hE : (M 81 17).toInt ≤ (M 81 18).toInt) (hE2 : (M 81 18).toInt ≤ 60) : tw_C (d + 3) 121 [.ref 81] M J (some (.int (if ((rsk 60 M) 81 17) < ((rsk 60 M) 81 18) then (if (rh (rsk 60 M)) = 114 then 1 else 0) else 0)), (if ((rsk 60 M) 81 17) < ((rsk 60 M) 81 18) then (if (rh (rsk 60 M)) = 114 then (fl_u (rsk 60 M) 81 17 (((rsk 60 M) 81 17) + 1)) else (fl_u (rsk 60 M) 81 17 (((rsk 60 M) 81 17) + 0))) else (fl_u (rsk 60 M) 81 17 (((rsk 60 M) 81 17) + 0))), J) := by
  have hB : fw_B fB121 := fw_sB (k := 121) (by decide)
  obtain ⟨w1, w2, w3, w4⟩ := rsk_f 60 M hE hE2
  have a1 : 0 ≤ ((rsk 60 M) 81 16).toInt := by rw [w1 16 (by decide)]; exact hF
  have a2 : ((rsk 60 M) 81 16).toInt ≤ 180 := by rw [w1 16 (by decide)]; exact hF2
  have a0 : (rsk 60 M) 81 18 = M 81 18 := w1 18 (by decide)
  have a3 : 0 ≤ ((rsk 60 M) 81 17).toInt := by omega
  have a4 : ((rsk 60 M) 81 17).toInt ≤ ((rsk 60 M) 81 18).toInt := by rw [a0]; exact w4
  have a5 : ((rsk 60 M) 81 18).toInt ≤ 60 := by rw [a0]; exact hE2
  refine tw_Co (d := d + 2) (B := fB121) (by decide) rfl rfl (show (1 : Nat) ≤ 2 by decide) ?_ ?_
  · intro i v hv hn
    match i, hv with
    | 0, hv => cases hv; rfl
    | 1, hv => cases hv; exact absurd rfl hn
    | _ + 2, hv => cases hv
  exact tw_n (s' := (1, [.ref 81, .null], [.ref 81], M, J)) hB 1 rfl <|
  tw_cv hB (st0 := []) (o := none) rfl rfl rfl rfl rfl (show (0 : Nat) ≤ 8 by decide) rfl (by decide) (cc_122 _ M J (show 0 ≤ (M 81 16).toInt by omega) (show (M 81 16).toInt ≤ 180 by omega) (show 0 ≤ (M 81 17).toInt by omega) (show (M 81 17).toInt ≤ (M 81 18).toInt by omega) (show (M 81 18).toInt ≤ 60 by omega)) rfl <|
  tw_sh (s := (4, [.ref 81, .null], [], (rsk 60 M), J)) <|
  tw_n (s' := (12, [.ref 81, .null], [.int ((rsk 60 M) 81 18), .int ((rsk 60 M) 81 17)], (rsk 60 M), J)) hB 4 rfl <|
  tw_icN hB (t := 28) rfl rfl fl_nlt (fun h1 =>
   tw_n (s' := (16, [.ref 81, .null], [.ref 81], (rsk 60 M), J)) hB 1 rfl <|
   tw_cv hB (st0 := []) (o := some (.int (rh (rsk 60 M)))) rfl rfl rfl rfl rfl (show (0 : Nat) ≤ 8 by decide) rfl (by decide) (cc_123 _ (rsk 60 M) J (show 0 ≤ ((rsk 60 M) 81 16).toInt by omega) (show ((rsk 60 M) 81 16).toInt ≤ 180 by omega) (show 0 ≤ ((rsk 60 M) 81 17).toInt by omega) (by show ((rsk 60 M) 81 17).toInt < 60; first | omega | (have z := fi_ne (show ¬ ((rsk 60 M) 81 17) = ((rsk 60 M) 81 18) by assumption); omega) | (have z := fi_l.mp (show ((rsk 60 M) 81 17) < ((rsk 60 M) 81 18) by assumption); omega))) rfl <|
   tw_sh (s := (19, [.ref 81, .null], [.int (rh (rsk 60 M))], (rsk 60 M), J)) <|
   tw_n (s' := (21, [.ref 81, .null], [.int 114, .int (rh (rsk 60 M))], (rsk 60 M), J)) hB 1 rfl <|
   tw_icN hB (t := 28) rfl rfl fl_cF (fun h2 =>
    tw_n (s' := (49, [.ref 81, .int 1], [.int 1], (fl_u (rsk 60 M) 81 17 (((rsk 60 M) 81 17) + 1)), J)) hB 13 rfl <|
    tw_rb rfl rfl (by first | decide | (split <;> decide)) (by first | (simp only [if_pos h1, if_pos h2]; done) | rfl)) (fun h2 =>
    tw_n (s' := (49, [.ref 81, .int 0], [.int 0], (fl_u (rsk 60 M) 81 17 (((rsk 60 M) 81 17) + 0)), J)) hB 11 rfl <|
    tw_rb rfl rfl (by first | decide | (split <;> decide)) (by first | (simp only [if_pos h1, if_neg h2]; done) | rfl))) (fun h1 =>
   tw_n (s' := (49, [.ref 81, .int 0], [.int 0], (fl_u (rsk 60 M) 81 17 (((rsk 60 M) 81 17) + 0)), J)) hB 11 rfl <|
   tw_rb rfl rfl (by first | decide | (split <;> decide)) (by first | (simp only [if_neg h1]; done) | rfl))
def hd_v (M : fl_M) : Int32 := (if ((rsk 60 M) 81 17) < ((rsk 60 M) 81 18) then (if (rh (rsk 60 M)) = 114 then 1 else 0) else 0)
def hd_M (M : fl_M) : fl_M := (if ((rsk 60 M) 81 17) < ((rsk 60 M) 81 18) then (if (rh (rsk 60 M)) = 114 then (fl_u (rsk 60 M) 81 17 (((rsk 60 M) 81 17) + 1)) else (fl_u (rsk 60 M) 81 17 (((rsk 60 M) 81 17) + 0))) else (fl_u (rsk 60 M) 81 17 (((rsk 60 M) 81 17) + 0)))
def rl_v (M : fl_M) : Int32 := (if (M 81 19) = 8 then 0 else (if 0 < (M 81 22) then 0 else (if rg (fl_u M 81 17 ((M 81 17) + 1)) 0 9 = true then (if rg (fl_u (fl_u M 81 17 ((M 81 17) + 1)) 81 17 (((M 81 17) + 1) + 1)) 0 9 = true then (if rg (fl_u (fl_u (fl_u M 81 17 ((M 81 17) + 1)) 81 17 (((M 81 17) + 1) + 1)) 81 17 ((((M 81 17) + 1) + 1) + 1)) 0 9 = true then (if (¬ ((10 * (rv (fl_u (fl_u M 81 17 ((M 81 17) + 1)) 81 17 (((M 81 17) + 1) + 1)))) + (rv (fl_u (fl_u (fl_u M 81 17 ((M 81 17) + 1)) 81 17 (((M 81 17) + 1) + 1)) 81 17 ((((M 81 17) + 1) + 1) + 1))) < 1)) ∧ (¬ (40 < (10 * (rv (fl_u (fl_u M 81 17 ((M 81 17) + 1)) 81 17 (((M 81 17) + 1) + 1)))) + (rv (fl_u (fl_u (fl_u M 81 17 ((M 81 17) + 1)) 81 17 (((M 81 17) + 1) + 1)) 81 17 ((((M 81 17) + 1) + 1) + 1))))) then 1 else 0) else 0) else 0) else 0)))
def rl_M (M : fl_M) : fl_M := (if (M 81 19) = 8 then M else (if 0 < (M 81 22) then M else (if rg (fl_u M 81 17 ((M 81 17) + 1)) 0 9 = true then (if rg (fl_u (fl_u M 81 17 ((M 81 17) + 1)) 81 17 (((M 81 17) + 1) + 1)) 0 9 = true then (if rg (fl_u (fl_u (fl_u M 81 17 ((M 81 17) + 1)) 81 17 (((M 81 17) + 1) + 1)) 81 17 ((((M 81 17) + 1) + 1) + 1)) 0 9 = true then (if (¬ ((10 * (rv (fl_u (fl_u M 81 17 ((M 81 17) + 1)) 81 17 (((M 81 17) + 1) + 1)))) + (rv (fl_u (fl_u (fl_u M 81 17 ((M 81 17) + 1)) 81 17 (((M 81 17) + 1) + 1)) 81 17 ((((M 81 17) + 1) + 1) + 1))) < 1)) ∧ (¬ (40 < (10 * (rv (fl_u (fl_u M 81 17 ((M 81 17) + 1)) 81 17 (((M 81 17) + 1) + 1)))) + (rv (fl_u (fl_u (fl_u M 81 17 ((M 81 17) + 1)) 81 17 (((M 81 17) + 1) + 1)) 81 17 ((((M 81 17) + 1) + 1) + 1))))) then (fl_u (fl_u (fl_u (fl_u (fl_u (fl_u (fl_u M 81 17 ((M 81 17) + 1)) 81 17 (((M 81 17) + 1) + 1)) 81 17 ((((M 81 17) + 1) + 1) + 1)) 81 17 (((((M 81 17) + 1) + 1) + 1) + 1)) 92 ((M 81 19).toNatClampNeg) (rv (fl_u M 81 17 ((M 81 17) + 1)))) 93 ((M 81 19).toNatClampNeg) ((10 * (rv (fl_u (fl_u M 81 17 ((M 81 17) + 1)) 81 17 (((M 81 17) + 1) + 1)))) + (rv (fl_u (fl_u (fl_u M 81 17 ((M 81 17) + 1)) 81 17 (((M 81 17) + 1) + 1)) 81 17 ((((M 81 17) + 1) + 1) + 1))))) 81 19 ((M 81 19) + 1)) else (fl_u (fl_u (fl_u (fl_u (fl_u M 81 17 ((M 81 17) + 1)) 81 17 (((M 81 17) + 1) + 1)) 81 17 ((((M 81 17) + 1) + 1) + 1)) 81 17 (((((M 81 17) + 1) + 1) + 1) + 1)) 81 17 (((M 81 17) + 1) + 1))) else (fl_u (fl_u (fl_u M 81 17 ((M 81 17) + 1)) 81 17 (((M 81 17) + 1) + 1)) 81 17 ((((M 81 17) + 1) + 1) + 1))) else (fl_u (fl_u M 81 17 ((M 81 17) + 1)) 81 17 (((M 81 17) + 1) + 1))) else (fl_u M 81 17 ((M 81 17) + 1)))))
def rm_v (M : fl_M) : Int32 := (if (fk (rh M)) = (-9) then 0 else (if (M 81 22) = 4 then 0 else (if (M 81 19) = 0 then 0 else (if rg (fl_u M 81 17 ((M 81 17) + 1)) 0 ((M 81 19) - 1) = true then (if rg (fl_u (fl_u M 81 17 ((M 81 17) + 1)) 81 17 (((M 81 17) + 1) + 1)) 1 9 = true then 1 else 0) else 0))))
def rm_M (M : fl_M) : fl_M := (if (fk (rh M)) = (-9) then M else (if (M 81 22) = 4 then M else (if (M 81 19) = 0 then M else (if rg (fl_u M 81 17 ((M 81 17) + 1)) 0 ((M 81 19) - 1) = true then (if rg (fl_u (fl_u M 81 17 ((M 81 17) + 1)) 81 17 (((M 81 17) + 1) + 1)) 1 9 = true then (fl_u (fl_u (fl_u (fl_u (fl_u (fl_u (fl_u M 81 17 ((M 81 17) + 1)) 81 17 (((M 81 17) + 1) + 1)) 81 17 ((((M 81 17) + 1) + 1) + 1)) 94 ((3 * (M 81 22)).toNatClampNeg) (fk (rh M))) 94 (((3 * (M 81 22)) + 1).toNatClampNeg) (rv (fl_u M 81 17 ((M 81 17) + 1)))) 94 (((3 * (M 81 22)) + 2).toNatClampNeg) (rv (fl_u (fl_u M 81 17 ((M 81 17) + 1)) 81 17 (((M 81 17) + 1) + 1)))) 81 22 ((M 81 22) + 1)) else (fl_u (fl_u M 81 17 ((M 81 17) + 1)) 81 17 (((M 81 17) + 1) + 1))) else (fl_u M 81 17 ((M 81 17) + 1))))))
/-- bounds while the reference reads -/
def rI (M : fl_M) : Prop := (0 ≤ (M 81 16).toInt ∧ (M 81 16).toInt ≤ 180) ∧ (0 ≤ (M 81 17).toInt ∧ (M 81 17).toInt ≤ (M 81 18).toInt ∧ (M 81 18).toInt ≤ 60) ∧ (0 ≤ (M 81 19).toInt ∧ (M 81 19).toInt ≤ 8) ∧ (0 ≤ (M 81 22).toInt ∧ (M 81 22).toInt ≤ 4)
theorem rI_rsk {f : Nat} {M : fl_M} (h : rI M) : rI (rsk f M) := by
  obtain ⟨h1, ⟨h2, h3, h4⟩, h5, h6⟩ := h
  obtain ⟨w1, w2, w3, w4⟩ := rsk_f f M h3 h4
  unfold rI
  rw [w1 16 (by decide), w1 18 (by decide), w1 19 (by decide), w1 22 (by decide)]
  exact ⟨h1, ⟨by omega, w4, h4⟩, h5, h6⟩
/-- the place alone moves -/
theorem rI_pl {M : fl_M} {x : Int32} (h : rI M) (h1 : 0 ≤ x.toInt) (h2 : x.toInt ≤ (M 81 18).toInt) : rI (fl_u M 81 17 x) := ⟨h.1, ⟨h1, h2, h.2.1.2.2⟩, h.2.2⟩
theorem fi_8 : (8 : Int32).toInt = 8 := rfl
theorem rI_rl {M : fl_M} (h : rI M) (hQ : (M 81 17).toInt < (M 81 18).toInt) : rI (rl_M M) := by
  obtain ⟨h1, ⟨h2, h3, h4⟩, h5, h6⟩ := h
  have e1 := fi_p1 (p := M 81 17) (by omega)
  have e2 := fi_p1 (p := M 81 17 + 1) (by omega)
  have e3 := fi_p1 (p := M 81 17 + 1 + 1) (by omega)
  have e4 := fi_p1 (p := M 81 17 + 1 + 1 + 1) (by omega)
  unfold rl_M
  split
  · exact ⟨h1, ⟨h2, h3, h4⟩, h5, h6⟩
  rename_i c1
  have c1 := fi_ne c1
  rw [fi_8] at c1
  have el := fi_p1 (p := M 81 19) (by omega)
  split
  · exact ⟨h1, ⟨h2, h3, h4⟩, h5, h6⟩
  split
  · rename_i g1
    have z1 : (M 81 17 + 1).toInt ≠ (M 81 18).toInt := rg_lt g1
    split
    · rename_i g2
      have z2 : (M 81 17 + 1 + 1).toInt ≠ (M 81 18).toInt := rg_lt g2
      split
      · rename_i g3
        have z3 : (M 81 17 + 1 + 1 + 1).toInt ≠ (M 81 18).toInt := rg_lt g3
        split
        · exact ⟨h1, ⟨show 0 ≤ (M 81 17 + 1 + 1 + 1 + 1).toInt by omega, show (M 81 17 + 1 + 1 + 1 + 1).toInt ≤ (M 81 18).toInt by omega, h4⟩, ⟨show 0 ≤ (M 81 19 + 1).toInt by omega, show (M 81 19 + 1).toInt ≤ 8 by omega⟩, h6⟩
        · exact ⟨h1, ⟨show 0 ≤ (M 81 17 + 1 + 1).toInt by omega, show (M 81 17 + 1 + 1).toInt ≤ (M 81 18).toInt by omega, h4⟩, h5, h6⟩
      · exact ⟨h1, ⟨show 0 ≤ (M 81 17 + 1 + 1 + 1).toInt by omega, show (M 81 17 + 1 + 1 + 1).toInt ≤ (M 81 18).toInt by omega, h4⟩, h5, h6⟩
    · exact ⟨h1, ⟨show 0 ≤ (M 81 17 + 1 + 1).toInt by omega, show (M 81 17 + 1 + 1).toInt ≤ (M 81 18).toInt by omega, h4⟩, h5, h6⟩
  · exact ⟨h1, ⟨show 0 ≤ (M 81 17 + 1).toInt by omega, show (M 81 17 + 1).toInt ≤ (M 81 18).toInt by omega, h4⟩, h5, h6⟩
theorem rI_rm {M : fl_M} (h : rI M) (hQ : (M 81 17).toInt < (M 81 18).toInt) : rI (rm_M M) := by
  obtain ⟨h1, ⟨h2, h3, h4⟩, h5, h6⟩ := h
  have e1 := fi_p1 (p := M 81 17) (by omega)
  have e2 := fi_p1 (p := M 81 17 + 1) (by omega)
  have e3 := fi_p1 (p := M 81 17 + 1 + 1) (by omega)
  unfold rm_M
  split
  · exact ⟨h1, ⟨h2, h3, h4⟩, h5, h6⟩
  split
  · exact ⟨h1, ⟨h2, h3, h4⟩, h5, h6⟩
  rename_i c1
  have c1 := fi_ne c1
  rw [fi_i4] at c1
  have el := fi_p1 (p := M 81 22) (by omega)
  split
  · exact ⟨h1, ⟨h2, h3, h4⟩, h5, h6⟩
  split
  · rename_i g1
    have z1 : (M 81 17 + 1).toInt ≠ (M 81 18).toInt := rg_lt g1
    split
    · rename_i g2
      have z2 : (M 81 17 + 1 + 1).toInt ≠ (M 81 18).toInt := rg_lt g2
      exact ⟨h1, ⟨show 0 ≤ (M 81 17 + 1 + 1 + 1).toInt by omega, show (M 81 17 + 1 + 1 + 1).toInt ≤ (M 81 18).toInt by omega, h4⟩, h5, ⟨show 0 ≤ (M 81 22 + 1).toInt by omega, show (M 81 22 + 1).toInt ≤ 4 by omega⟩⟩
    · exact ⟨h1, ⟨show 0 ≤ (M 81 17 + 1 + 1).toInt by omega, show (M 81 17 + 1 + 1).toInt ≤ (M 81 18).toInt by omega, h4⟩, h5, h6⟩
  · exact ⟨h1, ⟨show 0 ≤ (M 81 17 + 1).toInt by omega, show (M 81 17 + 1).toInt ≤ (M 81 18).toInt by omega, h4⟩, h5, h6⟩
theorem rl_pl {M : fl_M} (h : ¬ rl_v M = 0) : rl_M M 81 17 = M 81 17 + 1 + 1 + 1 + 1 ∧ rl_M M 81 18 = M 81 18 := by
  unfold rl_v at h
  unfold rl_M
  repeat' split at h
  all_goals first
    | exact absurd rfl h
    | (simp only [*, if_true, if_false, not_false_eq_true, and_self]; exact ⟨rfl, rfl⟩)
theorem rm_pl {M : fl_M} (h : ¬ rm_v M = 0) : rm_M M 81 17 = M 81 17 + 1 + 1 + 1 ∧ rm_M M 81 18 = M 81 18 := by
  unfold rm_v at h
  unfold rm_M
  repeat' split at h
  all_goals first
    | exact absurd rfl h
    | (simp only [*, if_true, if_false, not_false_eq_true, and_self]; exact ⟨rfl, rfl⟩)
def fB120 : sm_P := (fun pc => sm_ch sm_t120 pc, sm_Kn 3 3 none, fun x => sm_lk sm_ca3 x, some .int)
theorem ts_120 (d : Nat) (M : fl_M) (J : fl_J) (t v : Int32) {r : fl_Q} (hI : rI M) (q1 : (¬ (v = 0)) → ((M 81 17) < (M 81 18)) → ((rh M) = 108) → ((rl_v M) = 0) → tw (d + 4) fB120 (46, [.ref 81, .int t, .int (rl_v M)], [], (rl_M M), J) r) (q2 : (¬ (v = 0)) → ((M 81 17) < (M 81 18)) → ((rh M) = 108) → (¬ ((rl_v M) = 0)) → tw (d + 4) fB120 (46, [.ref 81, .int t, .int (rl_v M)], [], (rsk 60 (rl_M M)), J) r) (q3 : (¬ (v = 0)) → ((M 81 17) < (M 81 18)) → (¬ ((rh M) = 108)) → ((rm_v M) = 0) → tw (d + 4) fB120 (46, [.ref 81, .int t, .int (rm_v M)], [], (rm_M M), J) r) (q4 : (¬ (v = 0)) → ((M 81 17) < (M 81 18)) → (¬ ((rh M) = 108)) → (¬ ((rm_v M) = 0)) → tw (d + 4) fB120 (46, [.ref 81, .int t, .int (rm_v M)], [], (rsk 60 (rm_M M)), J) r) (e1 : (v = 0) → (v = 0) → (some (.int (M 81 17)), M, J) = r) (e2 : (¬ (v = 0)) → (¬ ((M 81 17) < (M 81 18))) → (¬ (v = 0)) → (0 < (M 81 22)) → (some (.int (-9)), M, J) = r) (e3 : (¬ (v = 0)) → (¬ ((M 81 17) < (M 81 18))) → (¬ (v = 0)) → (¬ (0 < (M 81 22))) → (some (.int (M 81 17)), M, J) = r) : tw (d + 4) fB120 (46, [.ref 81, .int t, .int v], [], M, J) r := by
  have hB : fw_B fB120 := fw_sB (k := 120) (by decide)
  obtain ⟨⟨hF, hF2⟩, ⟨hP, hE, hE2⟩, ⟨hL, hL2⟩, ⟨hm, hm2⟩⟩ := id hI
  exact tw_n (s' := (47, [.ref 81, .int t, .int v], [.int v], M, J)) hB 1 rfl <|
  tw_if hB (t := 93) rfl rfl fl_cT (fun h1 =>
   tw_n (s' := (94, [.ref 81, .int t, .int v], [.int v], M, J)) hB 1 rfl <|
   tw_if hB (t := 109) rfl rfl fl_cT (fun h2 =>
    tw_n (s' := (113, [.ref 81, .int t, .int v], [.int (M 81 17)], M, J)) hB 2 rfl <|
    tw_ri rfl rfl (e1 h1 h2)) (fun h2 =>
    absurd h1 h2)) (fun h1 =>
   tw_n (s' := (58, [.ref 81, .int t, .int v], [.int (M 81 18), .int (M 81 17)], M, J)) hB 4 rfl <|
   tw_icN hB (t := 93) rfl rfl fl_nlt (fun h3 =>
    tw_n (s' := (62, [.ref 81, .int t, .int v], [.ref 81], M, J)) hB 1 rfl <|
    tw_cv hB (st0 := []) (o := some (.int (rh M))) rfl rfl rfl rfl rfl (show (0 : Nat) ≤ 8 by decide) rfl (by decide) (cc_123 _ M J (show 0 ≤ (M 81 16).toInt by omega) (show (M 81 16).toInt ≤ 180 by omega) (show 0 ≤ (M 81 17).toInt by omega) (by show (M 81 17).toInt < 60; first | omega | (have z := fi_ne (show ¬ (M 81 17) = (M 81 18) by assumption); omega) | (have z := fi_l.mp (show (M 81 17) < (M 81 18) by assumption); omega))) rfl <|
    tw_sh (s := (65, [.ref 81, .int t, .int v], [.int (rh M)], M, J)) <|
    tw_n (s' := (67, [.ref 81, .int t, .int v], [.int 108, .int (rh M)], M, J)) hB 1 rfl <|
    tw_icN hB (t := 77) rfl rfl fl_cF (fun h4 =>
     tw_n (s' := (71, [.ref 81, .int t, .int v], [.ref 81], M, J)) hB 1 rfl <|
     tw_cv hB (st0 := []) (o := some (.int (rl_v M))) rfl rfl rfl rfl rfl (show (0 : Nat) ≤ 8 by decide) rfl (by decide) (cc_124 _ M J hF hF2 hP hE hE2 hL hL2 (fi_l.mp (by assumption))) rfl <|
     tw_sh (s := (74, [.ref 81, .int t, .int v], [.int (rl_v M)], (rl_M M), J)) <|
     tw_n (s' := (83, [.ref 81, .int t, .int (rl_v M)], [.int (rl_v M)], (rl_M M), J)) hB 3 rfl <|
     tw_if hB (t := 46) rfl rfl fl_cT (fun h5 =>
      (q1 h1 h3 h4 h5)) (fun h5 =>
      tw_n (s' := (87, [.ref 81, .int t, .int (rl_v M)], [.ref 81], (rl_M M), J)) hB 1 rfl <|
      tw_cv hB (st0 := []) (o := none) rfl rfl rfl rfl rfl (show (0 : Nat) ≤ 8 by decide) rfl (by decide) (cc_122 _ (rl_M M) J (rI_rl hI (fi_l.mp (by assumption))).1.1 (rI_rl hI (fi_l.mp (by assumption))).1.2 (rI_rl hI (fi_l.mp (by assumption))).2.1.1 (rI_rl hI (fi_l.mp (by assumption))).2.1.2.1 (rI_rl hI (fi_l.mp (by assumption))).2.1.2.2) rfl <|
      tw_sh (s := (90, [.ref 81, .int t, .int (rl_v M)], [], (rsk 60 (rl_M M)), J)) <|
      tw_n (s' := (46, [.ref 81, .int t, .int (rl_v M)], [], (rsk 60 (rl_M M)), J)) hB 1 rfl <|
      (q2 h1 h3 h4 h5))) (fun h4 =>
     tw_n (s' := (78, [.ref 81, .int t, .int v], [.ref 81], M, J)) hB 1 rfl <|
     tw_cv hB (st0 := []) (o := some (.int (rm_v M))) rfl rfl rfl rfl rfl (show (0 : Nat) ≤ 8 by decide) rfl (by decide) (cc_127 _ M J hF hF2 hP hE hE2 hL hL2 (fi_l.mp (by assumption)) hm hm2) rfl <|
     tw_sh (s := (81, [.ref 81, .int t, .int v], [.int (rm_v M)], (rm_M M), J)) <|
     tw_n (s' := (83, [.ref 81, .int t, .int (rm_v M)], [.int (rm_v M)], (rm_M M), J)) hB 2 rfl <|
     tw_if hB (t := 46) rfl rfl fl_cT (fun h6 =>
      (q3 h1 h3 h4 h6)) (fun h6 =>
      tw_n (s' := (87, [.ref 81, .int t, .int (rm_v M)], [.ref 81], (rm_M M), J)) hB 1 rfl <|
      tw_cv hB (st0 := []) (o := none) rfl rfl rfl rfl rfl (show (0 : Nat) ≤ 8 by decide) rfl (by decide) (cc_122 _ (rm_M M) J (rI_rm hI (fi_l.mp (by assumption))).1.1 (rI_rm hI (fi_l.mp (by assumption))).1.2 (rI_rm hI (fi_l.mp (by assumption))).2.1.1 (rI_rm hI (fi_l.mp (by assumption))).2.1.2.1 (rI_rm hI (fi_l.mp (by assumption))).2.1.2.2) rfl <|
      tw_sh (s := (90, [.ref 81, .int t, .int (rm_v M)], [], (rsk 60 (rm_M M)), J)) <|
      tw_n (s' := (46, [.ref 81, .int t, .int (rm_v M)], [], (rsk 60 (rm_M M)), J)) hB 1 rfl <|
      (q4 h1 h3 h4 h6)))) (fun h3 =>
    tw_n (s' := (94, [.ref 81, .int t, .int v], [.int v], M, J)) hB 1 rfl <|
    tw_if hB (t := 109) rfl rfl fl_cT (fun h7 =>
     absurd h7 h1) (fun h7 =>
     tw_n (s' := (101, [.ref 81, .int t, .int v], [.int (M 81 22)], M, J)) hB 2 rfl <|
     tw_ifN hB (t := 109) rfl rfl fl_nle (fun h8 =>
      tw_n (s' := (113, [.ref 81, .int t, .int v], [.int (-9)], M, J)) hB 2 rfl <|
      tw_ri rfl rfl (e2 h1 h3 h7 h8)) (fun h8 =>
      tw_n (s' := (113, [.ref 81, .int t, .int v], [.int (M 81 17)], M, J)) hB 2 rfl <|
      tw_ri rfl rfl (e3 h1 h3 h7 h8)))))
/-- what the reference reads from where it stands on -/
def rpar : Nat → Int32 → fl_M → Int32 × fl_M
  | 0, v, M => (if v = 0 then M 81 17 else if 0 < M 81 22 then (-9) else M 81 17, M)
  | f + 1, v, M => if v = 0 then (M 81 17, M) else if M 81 17 < M 81 18 then (if rh M = 108 then (if rl_v M = 0 then rpar f (rl_v M) (rl_M M) else rpar f (rl_v M) (rsk 60 (rl_M M))) else (if rm_v M = 0 then rpar f (rm_v M) (rm_M M) else rpar f (rm_v M) (rsk 60 (rm_M M))))
    else (if 0 < M 81 22 then (-9) else M 81 17, M)
theorem lp_120 (d : Nat) (J : fl_J) (t : Int32) : ∀ (f : Nat) (v : Int32) (M : fl_M), rI M → (¬ v = 0 → (M 81 18).toInt ≤ (M 81 17).toInt + f) → tw (d + 4) fB120 (46, [.ref 81, .int t, .int v], [], M, J) (some (.int (rpar f v M).1), (rpar f v M).2, J) := by
  intro f
  induction f with
  | zero =>
    intro v M hI hf
    have no : ¬ v = 0 → ¬ M 81 17 < M 81 18 := fun z1 z2 => by
      have z2 := fi_l.mp z2
      have := hf z1
      omega
    refine ts_120 d M J t v hI (fun z1 z2 => absurd z2 (no z1)) (fun z1 z2 => absurd z2 (no z1)) (fun z1 z2 => absurd z2 (no z1)) (fun z1 z2 => absurd z2 (no z1)) (fun z1 _ => ?_) (fun z1 z2 _ z4 => ?_) (fun z1 z2 _ z4 => ?_)
    · unfold rpar
      rw [if_pos z1]
    · unfold rpar
      rw [if_neg z1, if_pos z4]
    · unfold rpar
      rw [if_neg z1, if_neg z4]
  | succ f ih =>
    intro v M hI hf
    unfold rpar
    have pl : ∀ X : fl_M, rI X → X 81 18 = M 81 18 → (M 81 17).toInt + 1 ≤ (X 81 17).toInt → ¬ v = 0 → (rsk 60 X 81 18).toInt ≤ (rsk 60 X 81 17).toInt + f := by
      intro X hX h1 h2 h3
      obtain ⟨w1, -, w3, -⟩ := rsk_f 60 X hX.2.1.2.1 hX.2.1.2.2
      have := hf h3
      rw [w1 18 (by decide), h1]
      omega
    refine ts_120 d M J t v hI (fun z1 z2 z3 z4 => ?_) (fun z1 z2 z3 z4 => ?_) (fun z1 z2 z3 z4 => ?_) (fun z1 z2 z3 z4 => ?_) (fun z1 _ => ?_) (fun z1 z2 _ z4 => ?_) (fun z1 z2 _ z4 => ?_)
    · rw [if_neg z1, if_pos z2, if_pos z3, if_pos z4]
      exact ih _ _ (rI_rl hI (fi_l.mp z2)) (fun y => absurd z4 y)
    · rw [if_neg z1, if_pos z2, if_pos z3, if_neg z4]
      have hI2 := rI_rl hI (fi_l.mp z2)
      refine ih _ _ (rI_rsk hI2) (fun _ => pl _ hI2 (rl_pl z4).2 ?_ z1)
      have y := fi_l.mp z2
      have b := hI.2.1.2.2
      have e1 := fi_p1 (p := M 81 17) (by omega)
      have e2 := fi_p1 (p := M 81 17 + 1) (by omega)
      have e3 := fi_p1 (p := M 81 17 + 1 + 1) (by omega)
      have e4 := fi_p1 (p := M 81 17 + 1 + 1 + 1) (by omega)
      rw [(rl_pl z4).1]
      omega
    · rw [if_neg z1, if_pos z2, if_neg z3, if_pos z4]
      exact ih _ _ (rI_rm hI (fi_l.mp z2)) (fun y => absurd z4 y)
    · rw [if_neg z1, if_pos z2, if_neg z3, if_neg z4]
      have hI2 := rI_rm hI (fi_l.mp z2)
      refine ih _ _ (rI_rsk hI2) (fun _ => pl _ hI2 (rm_pl z4).2 ?_ z1)
      have y := fi_l.mp z2
      have b := hI.2.1.2.2
      have e1 := fi_p1 (p := M 81 17) (by omega)
      have e2 := fi_p1 (p := M 81 17 + 1) (by omega)
      have e3 := fi_p1 (p := M 81 17 + 1 + 1) (by omega)
      rw [(rm_pl z4).1]
      omega
    · rw [if_pos z1]
    · rw [if_neg z1, if_neg z2, if_pos z4]
    · rw [if_neg z1, if_neg z2, if_neg z4]
theorem rI_hd {M : fl_M} (h : rI M) : rI (hd_M M) := by
  have hX := rI_rsk (f := 60) h
  have e0 : rsk 60 M 81 17 + 0 = rsk 60 M 81 17 := Int32.add_zero _
  unfold hd_M
  rw [e0]
  split
  · rename_i h1
    have h1 := fi_l.mp h1
    have b := hX.2.1.2.2
    have e1 := fi_p1 (p := rsk 60 M 81 17) (by omega)
    split
    · exact rI_pl hX (by have := hX.2.1.1; omega) (by omega)
    · exact rI_pl hX hX.2.1.1 hX.2.1.2.1
  · exact rI_pl hX hX.2.1.1 hX.2.1.2.1
theorem cc_120 (d : Nat) (M : fl_M) (J : fl_J) (t : Int32) (h0 : 0 ≤ t.toInt) (h3 : t.toInt ≤ 3) (hn0 : 0 ≤ (M 89 t.toNatClampNeg).toInt) (hn : (M 89 t.toNatClampNeg).toInt ≤ 60) : tw_C (d + 5) 120 [.ref 81, .int t] M J (some (.int (if (hd_v (fl_u (fl_u (fl_u (fl_u (fl_u M 81 16 (60 * t)) 81 17 0) 81 18 (M 89 t.toNatClampNeg)) 81 19 0) 81 22 0)) = 0 then (rpar 60 (hd_v (fl_u (fl_u (fl_u (fl_u (fl_u M 81 16 (60 * t)) 81 17 0) 81 18 (M 89 t.toNatClampNeg)) 81 19 0) 81 22 0)) (hd_M (fl_u (fl_u (fl_u (fl_u (fl_u M 81 16 (60 * t)) 81 17 0) 81 18 (M 89 t.toNatClampNeg)) 81 19 0) 81 22 0))).1 else (rpar 60 (hd_v (fl_u (fl_u (fl_u (fl_u (fl_u M 81 16 (60 * t)) 81 17 0) 81 18 (M 89 t.toNatClampNeg)) 81 19 0) 81 22 0)) (rsk 60 (hd_M (fl_u (fl_u (fl_u (fl_u (fl_u M 81 16 (60 * t)) 81 17 0) 81 18 (M 89 t.toNatClampNeg)) 81 19 0) 81 22 0)))).1)), (if (hd_v (fl_u (fl_u (fl_u (fl_u (fl_u M 81 16 (60 * t)) 81 17 0) 81 18 (M 89 t.toNatClampNeg)) 81 19 0) 81 22 0)) = 0 then (rpar 60 (hd_v (fl_u (fl_u (fl_u (fl_u (fl_u M 81 16 (60 * t)) 81 17 0) 81 18 (M 89 t.toNatClampNeg)) 81 19 0) 81 22 0)) (hd_M (fl_u (fl_u (fl_u (fl_u (fl_u M 81 16 (60 * t)) 81 17 0) 81 18 (M 89 t.toNatClampNeg)) 81 19 0) 81 22 0))).2 else (rpar 60 (hd_v (fl_u (fl_u (fl_u (fl_u (fl_u M 81 16 (60 * t)) 81 17 0) 81 18 (M 89 t.toNatClampNeg)) 81 19 0) 81 22 0)) (rsk 60 (hd_M (fl_u (fl_u (fl_u (fl_u (fl_u M 81 16 (60 * t)) 81 17 0) 81 18 (M 89 t.toNatClampNeg)) 81 19 0) 81 22 0)))).2), J) := by
  have hB : fw_B fB120 := fw_sB (k := 120) (by decide)
  have et : (60 * t).toInt = 60 * t.toInt := by rw [fi_mul (by rw [fi_i60]; omega) (by rw [fi_i60]; omega), fi_i60]
  have k1 : 0 ≤ (60 * t).toInt := by omega
  have k2 : (60 * t).toInt ≤ 180 := by omega
  have k3 : 0 ≤ (0 : Int32).toInt := by decide
  have k4 : (0 : Int32).toInt ≤ (M 89 t.toNatClampNeg).toInt := by rw [fi_i0]; exact hn0
  have k5 := hn
  have hi1 : rI (fl_u (fl_u (fl_u (fl_u (fl_u M 81 16 (60 * t)) 81 17 0) 81 18 (M 89 t.toNatClampNeg)) 81 19 0) 81 22 0) := ⟨⟨k1, k2⟩, ⟨k3, k4, k5⟩, ⟨k3, show (0 : Int32).toInt ≤ 8 by decide⟩, ⟨k3, show (0 : Int32).toInt ≤ 4 by decide⟩⟩
  have hd_I := rI_hd hi1
  refine tw_Co (d := d + 4) (B := fB120) (by decide) rfl rfl (show (2 : Nat) ≤ 3 by decide) ?_ ?_
  · intro i v hv hn
    match i, hv with
    | 0, hv => cases hv; rfl
    | 1, hv => cases hv; rfl
    | 2, hv => cases hv; exact absurd rfl hn
    | _ + 3, hv => cases hv
  exact tw_n (s' := (19, [.ref 81, .int t, .null], [.int t, .ref 89, .ref 81], (fl_u (fl_u M 81 16 (60 * t)) 81 17 0), J)) hB 12 rfl <|
  tw_ia hB rfl rfl (by decide) h0 (show t.toInt < 4 by omega) <|
  tw_n (s' := (34, [.ref 81, .int t, .null], [.ref 81], (fl_u (fl_u (fl_u (fl_u (fl_u M 81 16 (60 * t)) 81 17 0) 81 18 (M 89 t.toNatClampNeg)) 81 19 0) 81 22 0), J)) hB 8 rfl <|
  tw_cv hB (st0 := []) (o := some (.int (hd_v (fl_u (fl_u (fl_u (fl_u (fl_u M 81 16 (60 * t)) 81 17 0) 81 18 (M 89 t.toNatClampNeg)) 81 19 0) 81 22 0)))) rfl rfl rfl rfl rfl (show (0 : Nat) ≤ 8 by decide) rfl (by decide) (cc_121 _ (fl_u (fl_u (fl_u (fl_u (fl_u M 81 16 (60 * t)) 81 17 0) 81 18 (M 89 t.toNatClampNeg)) 81 19 0) 81 22 0) J k1 k2 k3 k4 k5) rfl <|
  tw_sh (s := (37, [.ref 81, .int t, .null], [.int (hd_v (fl_u (fl_u (fl_u (fl_u (fl_u M 81 16 (60 * t)) 81 17 0) 81 18 (M 89 t.toNatClampNeg)) 81 19 0) 81 22 0))], (hd_M (fl_u (fl_u (fl_u (fl_u (fl_u M 81 16 (60 * t)) 81 17 0) 81 18 (M 89 t.toNatClampNeg)) 81 19 0) 81 22 0)), J)) <|
  tw_n (s' := (39, [.ref 81, .int t, .int (hd_v (fl_u (fl_u (fl_u (fl_u (fl_u M 81 16 (60 * t)) 81 17 0) 81 18 (M 89 t.toNatClampNeg)) 81 19 0) 81 22 0))], [.int (hd_v (fl_u (fl_u (fl_u (fl_u (fl_u M 81 16 (60 * t)) 81 17 0) 81 18 (M 89 t.toNatClampNeg)) 81 19 0) 81 22 0))], (hd_M (fl_u (fl_u (fl_u (fl_u (fl_u M 81 16 (60 * t)) 81 17 0) 81 18 (M 89 t.toNatClampNeg)) 81 19 0) 81 22 0)), J)) hB 2 rfl <|
  tw_if hB (t := 46) rfl rfl fl_cT (fun h1 =>
   tw_de (lp_120 d J t 60 _ _ hd_I (fun _ => by have q1 := hd_I.2.1.1; have q2 := hd_I.2.1.2.2; omega)) (by first | (simp only [if_pos h1]; done) | rfl)) (fun h1 =>
   tw_n (s' := (43, [.ref 81, .int t, .int (hd_v (fl_u (fl_u (fl_u (fl_u (fl_u M 81 16 (60 * t)) 81 17 0) 81 18 (M 89 t.toNatClampNeg)) 81 19 0) 81 22 0))], [.ref 81], (hd_M (fl_u (fl_u (fl_u (fl_u (fl_u M 81 16 (60 * t)) 81 17 0) 81 18 (M 89 t.toNatClampNeg)) 81 19 0) 81 22 0)), J)) hB 1 rfl <|
   tw_cv hB (st0 := []) (o := none) rfl rfl rfl rfl rfl (show (0 : Nat) ≤ 8 by decide) rfl (by decide) (cc_122 _ (hd_M (fl_u (fl_u (fl_u (fl_u (fl_u M 81 16 (60 * t)) 81 17 0) 81 18 (M 89 t.toNatClampNeg)) 81 19 0) 81 22 0)) J hd_I.1.1 hd_I.1.2 hd_I.2.1.1 hd_I.2.1.2.1 hd_I.2.1.2.2) rfl <|
   tw_sh (s := (46, [.ref 81, .int t, .int (hd_v (fl_u (fl_u (fl_u (fl_u (fl_u M 81 16 (60 * t)) 81 17 0) 81 18 (M 89 t.toNatClampNeg)) 81 19 0) 81 22 0))], [], (rsk 60 (hd_M (fl_u (fl_u (fl_u (fl_u (fl_u M 81 16 (60 * t)) 81 17 0) 81 18 (M 89 t.toNatClampNeg)) 81 19 0) 81 22 0))), J)) <|
   tw_de (lp_120 d J t 60 _ _ (rI_rsk (f := 60) hd_I) (fun _ => by have q1 := (rI_rsk (f := 60) hd_I).2.1.1; have q2 := (rI_rsk (f := 60) hd_I).2.1.2.2; omega)) (by first | (simp only [if_neg h1]; done) | rfl))
