/-! A small machine over worlds: cells by number, values as they are, references as cell numbers. Its step, and that the machine itself goes with it. -/
/-- a value of the small machine as the machine has it: cell numbers become addresses -/
def sm_v (ad : Nat → Nat) (v : Value) : Value := match v with
  | .ref k => .ref (ad k)
  | .int x => .int x
  | .long x => .long x
  | .float x => .float x
  | .double x => .double x
  | .null => .null
  | .retAddr x => .retAddr x
theorem sm_v_cat (ad : Nat → Nat) (v : Value) : (sm_v ad v).category = v.category := by cases v <;> rfl
/-- a cell -/
def sm_e (cid : Nat → ClassId) (ad : Nat → Nat) (e : va_E) : va_E := match e with
  | .inl (t, n, .inl f) => .inl (cid t, n, .inl f)
  | .inl (t, n, .inr (.inr (.inr (.inr f)))) => .inl (cid t, n, .inr (.inr (.inr (.inr (fun j => (f j).map ad)))))
  | .inl (t, n, .inr (.inl f)) => .inl (cid t, n, .inr (.inl f))
  | .inl (t, n, .inr (.inr (.inl f))) => .inl (cid t, n, .inr (.inr (.inl f)))
  | .inl (t, n, .inr (.inr (.inr (.inl f)))) => .inl (cid t, n, .inr (.inr (.inr (.inl f))))
  | .inr (ci, fs) => .inr (ci, fs.map (sm_v ad))
/-- the world: cell number k lies at ad k -/
def sm_w (cid : Nat → ClassId) (ad : Nat → Nat) (h : List va_E) : va_W := h.mapIdx (fun k e => (ad k, sm_e cid ad e))
theorem sm_w_get {cid : Nat → ClassId} {ad : Nat → Nat} {h : List va_E} {k : Nat} {e : va_E} (he : h[k]? = some e) : (sm_w cid ad h)[k]? = some (ad k, sm_e cid ad e) := by
  unfold sm_w
  rw [List.getElem?_mapIdx, he]
  rfl
theorem sm_w_set (cid : Nat → ClassId) (ad : Nat → Nat) (h : List va_E) (k : Nat) (e : va_E) : (sm_w cid ad h).set k (ad k, sm_e cid ad e) = sm_w cid ad (h.set k e) := by
  unfold sm_w
  apply List.ext_getElem?
  intro i
  rw [List.getElem?_mapIdx, List.getElem?_set, List.getElem?_set, List.getElem?_mapIdx, List.length_mapIdx]
  by_cases hk : k = i
  · subst hk
    by_cases hl : k < h.length <;> simp [hl]
  · simp [hk]
/-- locals -/
abbrev sm_L : Type := List (Nat × Value)
def sm_lv (ad : Nat → Nat) (l : sm_L) : sm_L := l.map (fun q => (q.1, sm_v ad q.2))
def sm_get : sm_L → Nat → Option Value
  | [], _ => none
  | q :: r, i => if q.1 = i then some q.2 else sm_get r i
def sm_put1 (l : sm_L) (i : Nat) (v : Value) : sm_L := (i, v) :: l.filter (fun q => !(q.1 == i) && !(q.1 + 1 == i && q.2.category == 2))
def sm_put2 (l : sm_L) (i : Nat) (v : Value) : sm_L := (i, v) :: l.filter (fun q => !(q.1 == i) && (!(q.1 == i + 1) && !(q.1 + 1 == i && q.2.category == 2)))
theorem sm_get_mem {l : sm_L} {i : Nat} {v : Value} (h : sm_get l i = some v) : (i, v) ∈ l := by
  induction l with
  | nil => cases h
  | cons q r ih =>
    unfold sm_get at h
    by_cases hq : q.1 = i
    · rw [if_pos hq] at h
      cases h
      subst hq
      exact List.mem_cons_self
    · rw [if_neg hq] at h
      exact List.mem_cons_of_mem _ (ih h)
theorem sm_get_at {ad : Nat → Nat} {ls : Array Slot} {nL : Nat} {l : sm_L} (hl : lv_has ls nL (sm_lv ad l)) {i : Nat} {v : Value} (h : sm_get l i = some v) : ls[i]? = some (.val (sm_v ad v)) :=
  hl.2.2 (i, sm_v ad v) (List.mem_map.mpr ⟨(i, v), sm_get_mem h, rfl⟩)
theorem sm_put1_lv (ad : Nat → Nat) (l : sm_L) (i : Nat) (v : Value) : (i, sm_v ad v) :: (sm_lv ad l).filter (fun q => !(q.1 == i) && !(q.1 + 1 == i && q.2.category == 2)) = sm_lv ad (sm_put1 l i v) := by
  unfold sm_lv sm_put1
  rw [List.map_cons, List.filter_map]
  congr 2
  apply List.filter_congr
  intro q _
  simp [sm_v_cat]
theorem sm_put2_lv (ad : Nat → Nat) (l : sm_L) (i : Nat) (v : Value) : (i, sm_v ad v) :: (sm_lv ad l).filter (fun q => !(q.1 == i) && (!(q.1 == i + 1) && !(q.1 + 1 == i && q.2.category == 2))) = sm_lv ad (sm_put2 l i v) := by
  unfold sm_lv sm_put2
  rw [List.map_cons, List.filter_map]
  congr 2
  apply List.filter_congr
  intro q _
  simp [sm_v_cat]
/-- what a step gives: the next place, locals, stack, cells -/
abbrev sm_T : Type := Nat × sm_L × List Value × List va_E
def sm_i1 {α : Type} (st : List Value) (k : Int32 → List Value → Option α) : Option α := match st with
  | .int x :: r => k x r
  | _ => none
def sm_i2 {α : Type} (st : List Value) (k : Int32 → Int32 → List Value → Option α) : Option α := match st with
  | .int y :: .int x :: r => k x y r
  | _ => none
def sm_l1 {α : Type} (st : List Value) (k : Int64 → List Value → Option α) : Option α := match st with
  | .long x :: r => k x r
  | _ => none
def sm_l2 {α : Type} (st : List Value) (k : Int64 → Int64 → List Value → Option α) : Option α := match st with
  | .long y :: .long x :: r => k x y r
  | _ => none
def sm_r1 {α : Type} (st : List Value) (k : Nat → List Value → Option α) : Option α := match st with
  | .ref a :: r => k a r
  | _ => none
def sm_ri {α : Type} (st : List Value) (k : Nat → Int32 → List Value → Option α) : Option α := match st with
  | .int i :: .ref a :: r => k a i r
  | _ => none
def sm_rii {α : Type} (st : List Value) (k : Nat → Int32 → Int32 → List Value → Option α) : Option α := match st with
  | .int x :: .int i :: .ref a :: r => k a i x r
  | _ => none
def sm_c5 {α : Type} (st : List Value) (k : Nat → Int32 → Nat → Int32 → Int32 → List Value → Option α) : Option α := match st with
  | .int n :: .int dp :: .ref a :: .int sp :: .ref a0 :: r => k a0 sp a dp n r
  | _ => none
theorem sm_i1_s {α : Type} {st : List Value} {k : Int32 → List Value → Option α} {z : α} (h : sm_i1 st k = some z) : ∃ x r, st = .int x :: r ∧ k x r = some z := by
  unfold sm_i1 at h
  split at h
  · exact ⟨_, _, rfl, h⟩
  · cases h
theorem sm_i2_s {α : Type} {st : List Value} {k : Int32 → Int32 → List Value → Option α} {z : α} (h : sm_i2 st k = some z) : ∃ x y r, st = .int y :: .int x :: r ∧ k x y r = some z := by
  unfold sm_i2 at h
  split at h
  · exact ⟨_, _, _, rfl, h⟩
  · cases h
theorem sm_l1_s {α : Type} {st : List Value} {k : Int64 → List Value → Option α} {z : α} (h : sm_l1 st k = some z) : ∃ x r, st = .long x :: r ∧ k x r = some z := by
  unfold sm_l1 at h
  split at h
  · exact ⟨_, _, rfl, h⟩
  · cases h
theorem sm_l2_s {α : Type} {st : List Value} {k : Int64 → Int64 → List Value → Option α} {z : α} (h : sm_l2 st k = some z) : ∃ x y r, st = .long y :: .long x :: r ∧ k x y r = some z := by
  unfold sm_l2 at h
  split at h
  · exact ⟨_, _, _, rfl, h⟩
  · cases h
theorem sm_r1_s {α : Type} {st : List Value} {k : Nat → List Value → Option α} {z : α} (h : sm_r1 st k = some z) : ∃ x r, st = .ref x :: r ∧ k x r = some z := by
  unfold sm_r1 at h
  split at h
  · exact ⟨_, _, rfl, h⟩
  · cases h
theorem sm_ri_s {α : Type} {st : List Value} {k : Nat → Int32 → List Value → Option α} {z : α} (h : sm_ri st k = some z) : ∃ a i r, st = .int i :: .ref a :: r ∧ k a i r = some z := by
  unfold sm_ri at h
  split at h
  · exact ⟨_, _, _, rfl, h⟩
  · cases h
theorem sm_rii_s {α : Type} {st : List Value} {k : Nat → Int32 → Int32 → List Value → Option α} {z : α} (h : sm_rii st k = some z) : ∃ a i x r, st = .int x :: .int i :: .ref a :: r ∧ k a i x r = some z := by
  unfold sm_rii at h
  split at h
  · exact ⟨_, _, _, _, rfl, h⟩
  · cases h
theorem sm_c5_s {α : Type} {st : List Value} {k : Nat → Int32 → Nat → Int32 → Int32 → List Value → Option α} {z : α} (h : sm_c5 st k = some z) : ∃ a0 sp a dp n r, st = .int n :: .int dp :: .ref a :: .int sp :: .ref a0 :: r ∧ k a0 sp a dp n r = some z := by
  unfold sm_c5 at h
  split at h
  · exact ⟨_, _, _, _, _, _, rfl, h⟩
  · cases h
/-- the cells a row of ints, of bytes, of references, an object is -/
def sm_ints (h : List va_E) (a : Nat) : Option (Nat × (Nat → Int32)) := match h[a]? with
  | some (.inl (0, n, .inl f)) => some (n, f)
  | _ => none
def sm_byts (h : List va_E) (a : Nat) : Option (Nat × (Nat → Int32)) := match h[a]? with
  | some (.inl (1, n, .inl f)) => some (n, f)
  | _ => none
def sm_refs (h : List va_E) (a : Nat) : Option (Nat × Nat × (Nat → Option Nat)) := match h[a]? with
  | some (.inl (t, n, .inr (.inr (.inr (.inr f))))) => if 2 ≤ t ∧ t < 5 then some (t, n, f) else none
  | _ => none
def sm_obj (h : List va_E) (a ci : Nat) : Option (List Value) := match h[a]? with
  | some (.inr (c, fs)) => if c = ci then some fs else none
  | _ => none
theorem sm_ints_s {h : List va_E} {a n : Nat} {f : Nat → Int32} (e : sm_ints h a = some (n, f)) : h[a]? = some (.inl (0, n, .inl f)) := by
  unfold sm_ints at e
  split at e
  · cases e; assumption
  · cases e
theorem sm_byts_s {h : List va_E} {a n : Nat} {f : Nat → Int32} (e : sm_byts h a = some (n, f)) : h[a]? = some (.inl (1, n, .inl f)) := by
  unfold sm_byts at e
  split at e
  · cases e; assumption
  · cases e
theorem sm_refs_s {h : List va_E} {a t n : Nat} {f : Nat → Option Nat} (e : sm_refs h a = some (t, n, f)) : h[a]? = some (.inl (t, n, .inr (.inr (.inr (.inr f))))) ∧ 2 ≤ t ∧ t < 5 := by
  unfold sm_refs at e
  split at e
  · rename_i t' n' f' hh
    by_cases ht : 2 ≤ t' ∧ t' < 5
    · rw [if_pos ht] at e
      cases e
      exact ⟨hh, ht⟩
    · rw [if_neg ht] at e
      cases e
  · cases e
theorem sm_obj_s {h : List va_E} {a ci : Nat} {fs : List Value} (e : sm_obj h a ci = some fs) : h[a]? = some (.inr (ci, fs)) := by
  unfold sm_obj at e
  split at e
  · rename_i c' fs' hh
    by_cases hc : c' = ci
    · rw [if_pos hc] at e
      cases e
      subst hc
      exact hh
    · rw [if_neg hc] at e
      cases e
  · cases e
/-- a jump's end -/
def sm_j (pc : Nat) (off : Int) : Option Nat := if 0 ≤ (pc : Int) + off then some ((pc : Int) + off).toNat else none
theorem sm_j_s {pc t : Nat} {off : Int} (h : sm_j pc off = some t) : (pc : Int) + off = (t : Int) := by
  unfold sm_j at h
  by_cases hh : 0 ≤ (pc : Int) + off
  · rw [if_pos hh] at h
    cases h
    omega
  · rw [if_neg hh] at h
    cases h
def sm_cmp (q : Jvm.ClassFile.Cond) (x y : Int32) : Bool := match q with
  | .eq => decide (x = y)
  | .ne => decide (¬ x = y)
  | .lt => decide (x < y)
  | .ge => decide (y ≤ x)
  | .gt => decide (y < x)
  | .le => decide (x ≤ y)
/-- the letters of the kinds, in their static row -/
def sm_kl : Nat → Int32 := fun j => ([109, 121, 111, 104, 119, 103] : List Int32).getD j 0
/-- what is known of one method's class: fields (class, slot, 0 an int, 1 a long, 2 not to be written), int and long constants, the static row, the law's script, how many locals, Math's and System's own -/
abbrev sm_K : Type := (Nat → Option (Nat × Nat × Nat)) × (Nat → Option Int32) × (Nat → Option Int64) × (Nat → Bool) × Option (Nat × (Nat → Int32)) × Nat × (Nat → Option Nat)
/-- one step; none where it can't go on, calls and returns apart -/
def sm_step (K : sm_K) (i : Instr) (n pc : Nat) (lv : sm_L) (st : List Value) (h : List va_E) : Option sm_T := match i with
  | .iconst v => if n = 1 then some (pc + 1, lv, .int (Int32.ofInt v) :: st, h) else none
  | .bipush v => if n = 2 then some (pc + 2, lv, .int (Int8.ofInt v).toInt32 :: st, h) else none
  | .sipush v => if n = 3 then some (pc + 3, lv, .int (Int16.ofInt v).toInt32 :: st, h) else none
  | .lconst v => if n = 1 then some (pc + 1, lv, .long (Int64.ofNat (v : Nat)) :: st, h) else none
  | .ldc x => if n = 2 then (K.2.1 x).bind fun v => some (pc + 2, lv, .int v :: st, h) else none
  | .ldc_w x => if n = 3 then (K.2.1 x).bind fun v => some (pc + 3, lv, .int v :: st, h) else none
  | .ldc2_w x => if n = 3 then (K.2.2.1 x).bind fun v => some (pc + 3, lv, .long v :: st, h) else none
  | .iload_n k => if n = 1 then (sm_get lv k).bind fun v => sm_i1 [v] fun x _ => some (pc + 1, lv, .int x :: st, h) else none
  | .iload k => if n = 2 then (sm_get lv k).bind fun v => sm_i1 [v] fun x _ => some (pc + 2, lv, .int x :: st, h) else none
  | .lload_n k => if n = 1 then (sm_get lv k).bind fun v => sm_l1 [v] fun x _ => some (pc + 1, lv, .long x :: st, h) else none
  | .lload k => if n = 2 then (sm_get lv k).bind fun v => sm_l1 [v] fun x _ => some (pc + 2, lv, .long x :: st, h) else none
  | .aload_n k => if n = 1 then (sm_get lv k).bind fun v => sm_r1 [v] fun x _ => some (pc + 1, lv, .ref x :: st, h) else none
  | .aload k => if n = 2 then (sm_get lv k).bind fun v => sm_r1 [v] fun x _ => some (pc + 2, lv, .ref x :: st, h) else none
  | .istore_n k => if n = 1 ∧ (k : Nat) < K.2.2.2.2.2.1 then sm_i1 st fun x r => some (pc + 1, sm_put1 lv k (.int x), r, h) else none
  | .istore k => if n = 2 ∧ k < K.2.2.2.2.2.1 then sm_i1 st fun x r => some (pc + 2, sm_put1 lv k (.int x), r, h) else none
  | .lstore_n k => if n = 1 ∧ (k : Nat) + 1 < K.2.2.2.2.2.1 then sm_l1 st fun x r => some (pc + 1, sm_put2 lv k (.long x), r, h) else none
  | .lstore k => if n = 2 ∧ k + 1 < K.2.2.2.2.2.1 then sm_l1 st fun x r => some (pc + 2, sm_put2 lv k (.long x), r, h) else none
  | .astore_n k => if n = 1 ∧ (k : Nat) < K.2.2.2.2.2.1 then sm_r1 st fun x r => some (pc + 1, sm_put1 lv k (.ref x), r, h) else none
  | .astore k => if n = 2 ∧ k < K.2.2.2.2.2.1 then sm_r1 st fun x r => some (pc + 2, sm_put1 lv k (.ref x), r, h) else none
  | .iinc k v => if n = 3 ∧ k < K.2.2.2.2.2.1 then (sm_get lv k).bind fun w => sm_i1 [w] fun x _ => some (pc + 3, sm_put1 lv k (.int (x + Int32.ofInt v)), st, h) else none
  | .iadd => if n = 1 then sm_i2 st fun x y r => some (pc + 1, lv, .int (x + y) :: r, h) else none
  | .isub => if n = 1 then sm_i2 st fun x y r => some (pc + 1, lv, .int (x - y) :: r, h) else none
  | .imul => if n = 1 then sm_i2 st fun x y r => some (pc + 1, lv, .int (x * y) :: r, h) else none
  | .iand => if n = 1 then sm_i2 st fun x y r => some (pc + 1, lv, .int (x &&& y) :: r, h) else none
  | .ior => if n = 1 then sm_i2 st fun x y r => some (pc + 1, lv, .int (x ||| y) :: r, h) else none
  | .ixor => if n = 1 then sm_i2 st fun x y r => some (pc + 1, lv, .int (x ^^^ y) :: r, h) else none
  | .idiv => if n = 1 then sm_i2 st fun x y r => if y = 0 then none else some (pc + 1, lv, .int (x / y) :: r, h) else none
  | .irem => if n = 1 then sm_i2 st fun x y r => if y = 0 then none else some (pc + 1, lv, .int (x - x / y * y) :: r, h) else none
  | .ineg => if n = 1 then sm_i1 st fun x r => some (pc + 1, lv, .int (0 - x) :: r, h) else none
  | .ishl => if n = 1 then sm_i2 st fun x y r => some (pc + 1, lv, .int (x <<< (y &&& 31)) :: r, h) else none
  | .ishr => if n = 1 then sm_i2 st fun x y r => some (pc + 1, lv, .int (x >>> (y &&& 31)) :: r, h) else none
  | .ladd => if n = 1 then sm_l2 st fun x y r => some (pc + 1, lv, .long (x + y) :: r, h) else none
  | .lmul => if n = 1 then sm_l2 st fun x y r => some (pc + 1, lv, .long (x * y) :: r, h) else none
  | .ldiv => if n = 1 then sm_l2 st fun x y r => if y = 0 then none else some (pc + 1, lv, .long (x / y) :: r, h) else none
  | .lrem => if n = 1 then sm_l2 st fun x y r => if y = 0 then none else some (pc + 1, lv, .long (x - x / y * y) :: r, h) else none
  | .lcmp => if n = 1 then sm_l2 st fun x y r => some (pc + 1, lv, .int (lg_cmp x y) :: r, h) else none
  | .i2l => if n = 1 then sm_i1 st fun x r => some (pc + 1, lv, .long x.toInt64 :: r, h) else none
  | .l2i => if n = 1 then sm_l1 st fun x r => some (pc + 1, lv, .int x.toInt32 :: r, h) else none
  | .i2b => if n = 1 then sm_i1 st fun x r => some (pc + 1, lv, .int x.toInt8.toInt32 :: r, h) else none
  | .goto off => if n = 3 then (sm_j pc off).bind fun t => some (t, lv, st, h) else none
  | .ifCond q off => if n = 3 then (sm_j pc off).bind fun t => sm_i1 st fun x r => some (if sm_cmp q x 0 = true then t else pc + 3, lv, r, h) else none
  | .if_icmp q off => if n = 3 then (sm_j pc off).bind fun t => sm_i2 st fun x y r => some (if sm_cmp q x y = true then t else pc + 3, lv, r, h) else none
  | .tableswitch dflt lo hi offs => sm_i1 st fun x r => if x.toInt < lo ∨ hi < x.toInt then (sm_j pc dflt).bind fun t => some (t, lv, r, h) else (offs[(x.toInt - lo).toNat]?).bind fun off => (sm_j pc off).bind fun t => some (t, lv, r, h)
  | .getstatic x => if n = 3 ∧ K.2.2.2.1 x = true then some (pc + 3, lv, .ref 999 :: st, h) else none
  | .getfield x => if n = 3 then sm_r1 st fun a r => (K.1 x).bind fun q => (sm_obj h a q.1).bind fun fs => (fs[q.2.1]?).bind fun v => some (pc + 3, lv, v :: r, h) else none
  | .arraylength => if n = 1 then sm_r1 st fun a r => match K.2.2.2.2.1 with
      | some q => if a = 998 then some (pc + 1, lv, .int (Int32.ofNat q.1) :: r, h) else (sm_ints h a).bind fun w => some (pc + 1, lv, .int (Int32.ofNat w.1) :: r, h)
      | none => (sm_ints h a).bind fun w => some (pc + 1, lv, .int (Int32.ofNat w.1) :: r, h) else none
  | .iaload => if n = 1 then sm_ri st fun a i r => if a = 999 then (if i < 0 ∨ 6 ≤ i.toNatClampNeg then none else some (pc + 1, lv, .int (sm_kl i.toNatClampNeg) :: r, h)) else if a = 998 then (K.2.2.2.2.1).bind fun q => (if i < 0 ∨ q.1 ≤ i.toNatClampNeg then none else some (pc + 1, lv, .int (q.2 i.toNatClampNeg) :: r, h)) else (sm_ints h a).bind fun w => (if i < 0 ∨ w.1 ≤ i.toNatClampNeg then none else some (pc + 1, lv, .int (w.2 i.toNatClampNeg) :: r, h)) else none
  | .baload => if n = 1 then sm_ri st fun a i r => (sm_byts h a).bind fun w => (if i < 0 ∨ w.1 ≤ i.toNatClampNeg then none else some (pc + 1, lv, .int (w.2 i.toNatClampNeg) :: r, h)) else none
  | .aaload => if n = 1 then sm_ri st fun a i r => (sm_refs h a).bind fun w => (if i < 0 ∨ w.2.1 ≤ i.toNatClampNeg then none else (w.2.2 i.toNatClampNeg).bind fun b => some (pc + 1, lv, .ref b :: r, h)) else none
  | .iastore => if n = 1 then sm_rii st fun a i x r => (sm_ints h a).bind fun w => (if i < 0 ∨ w.1 ≤ i.toNatClampNeg then none else some (pc + 1, lv, r, h.set a (.inl (0, w.1, .inl (upd w.2 i.toNatClampNeg x))))) else none
  | .bastore => if n = 1 then sm_rii st fun a i x r => (sm_byts h a).bind fun w => (if i < 0 ∨ w.1 ≤ i.toNatClampNeg then none else some (pc + 1, lv, r, h.set a (.inl (1, w.1, .inl (upd w.2 i.toNatClampNeg (vp_nar .byte x)))))) else none
  | .putfield x => if n = 3 then (match st with
      | .int v :: .ref a :: r => (K.1 x).bind fun q => if q.2.2 = 0 then (sm_obj h a q.1).bind fun fs => (if q.2.1 < fs.length then some (pc + 3, lv, r, h.set a (.inr (q.1, fs.set q.2.1 (.int v)))) else none) else none
      | .long v :: .ref a :: r => (K.1 x).bind fun q => if q.2.2 = 1 then (sm_obj h a q.1).bind fun fs => (if q.2.1 < fs.length then some (pc + 3, lv, r, h.set a (.inr (q.1, fs.set q.2.1 (.long v)))) else none) else none
      | _ => none) else none
  | .dup => if n = 1 then (match st with
      | v :: r => if v.category = 1 then some (pc + 1, lv, v :: v :: r, h) else none
      | _ => none) else none
  | .dup2 => if n = 1 then (match st with
      | v :: w :: r => if v.category = 1 ∧ w.category = 1 then some (pc + 1, lv, v :: w :: v :: w :: r, h) else none
      | _ => none) else none
  | .pop => if n = 1 then (match st with
      | v :: r => if v.category = 1 then some (pc + 1, lv, r, h) else none
      | _ => none) else none
  | .pop2 => if n = 1 then (match st with
      | v :: r => if v.category = 2 then some (pc + 1, lv, r, h) else none
      | _ => none) else none
  | .invokestatic x => if n = 3 then (K.2.2.2.2.2.2 x).bind fun q => match q with
      | 0 => sm_i2 st fun x y r => if (r.map fun v => v.category).sum ≤ 8 then some (pc + 3, lv, .int (if x < y then y else x) :: r, h) else none
      | 1 => sm_i2 st fun x y r => if (r.map fun v => v.category).sum ≤ 8 then some (pc + 3, lv, .int (if y < x then y else x) :: r, h) else none
      | 2 => sm_i1 st fun x r => if (r.map fun v => v.category).sum ≤ 8 then some (pc + 3, lv, .int (if 0 ≤ x then x else 0 - x) :: r, h) else none
      | 3 => sm_c5 st fun a0 sp a dp k r => (sm_ints h a0).bind fun w0 => (sm_ints h a).bind fun w => if (r.map fun v => v.category).sum ≤ 8 ∧ ¬ sp < 0 ∧ ¬ dp < 0 ∧ ¬ k < 0 ∧ sp.toNatClampNeg + k.toNatClampNeg ≤ w0.1 ∧ dp.toNatClampNeg + k.toNatClampNeg ≤ w.1 then some (pc + 3, lv, r, h.set a (.inl (0, w.1, .inl (va_cpy w0.2 w.2 sp.toNatClampNeg dp.toNatClampNeg k.toNatClampNeg)))) else none
      | _ => none else none
  | _ => none
