/-! A small machine over worlds: cells by number, values as they are, references as cell numbers. Its step, and that the machine itself goes with it. -/
/-- a value of the small machine as the machine has it: cell numbers become addresses -/
def sm_v (ad : Nat → Nat) (v : Value) : Value := match v with
  | .ref k => .ref (ad k)
  | .int x => .int x
  | .long x => .long x
  | .float x => .float x
  | .double x => .double x
  | .null => .null
  | .retAddr x => .retAddr x
theorem sm_v_cat (ad : Nat → Nat) (v : Value) : (sm_v ad v).category = v.category := by cases v <;> rfl
/-- a cell -/
def sm_e (cid : Nat → ClassId) (ad : Nat → Nat) (e : va_E) : va_E := match e with
  | .inl (t, n, .inl f) => .inl (cid t, n, .inl f)
  | .inl (t, n, .inr (.inr (.inr (.inr f)))) => .inl (cid t, n, .inr (.inr (.inr (.inr (fun j => (f j).map ad)))))
  | .inl (t, n, .inr (.inl f)) => .inl (cid t, n, .inr (.inl f))
  | .inl (t, n, .inr (.inr (.inl f))) => .inl (cid t, n, .inr (.inr (.inl f)))
  | .inl (t, n, .inr (.inr (.inr (.inl f)))) => .inl (cid t, n, .inr (.inr (.inr (.inl f))))
  | .inr (ci, fs) => .inr (ci, fs.map (sm_v ad))
/-- the world: cell number k lies at ad k -/
def sm_w (cid : Nat → ClassId) (ad : Nat → Nat) (h : List va_E) : va_W := h.mapIdx (fun k e => (ad k, sm_e cid ad e))
theorem sm_w_get {cid : Nat → ClassId} {ad : Nat → Nat} {h : List va_E} {k : Nat} {e : va_E} (he : h[k]? = some e) : (sm_w cid ad h)[k]? = some (ad k, sm_e cid ad e) := by
  unfold sm_w
  rw [List.getElem?_mapIdx, he]
  rfl
theorem sm_w_set (cid : Nat → ClassId) (ad : Nat → Nat) (h : List va_E) (k : Nat) (e : va_E) : (sm_w cid ad h).set k (ad k, sm_e cid ad e) = sm_w cid ad (h.set k e) := by
  unfold sm_w
  apply List.ext_getElem?
  intro i
  rw [List.getElem?_mapIdx, List.getElem?_set, List.getElem?_set, List.getElem?_mapIdx, List.length_mapIdx]
  by_cases hk : k = i
  · subst hk
    by_cases hl : k < h.length <;> simp [hl]
  · simp [hk]
/-- locals -/
abbrev sm_L : Type := List (Nat × Value)
def sm_lv (ad : Nat → Nat) (l : sm_L) : sm_L := l.map (fun q => (q.1, sm_v ad q.2))
def sm_get : sm_L → Nat → Option Value
  | [], _ => none
  | q :: r, i => if q.1 = i then some q.2 else sm_get r i
def sm_put1 (l : sm_L) (i : Nat) (v : Value) : sm_L := (i, v) :: l.filter (fun q => !(q.1 == i) && !(q.1 + 1 == i && q.2.category == 2))
def sm_put2 (l : sm_L) (i : Nat) (v : Value) : sm_L := (i, v) :: l.filter (fun q => !(q.1 == i) && (!(q.1 == i + 1) && !(q.1 + 1 == i && q.2.category == 2)))
theorem sm_get_mem {l : sm_L} {i : Nat} {v : Value} (h : sm_get l i = some v) : (i, v) ∈ l := by
  induction l with
  | nil => cases h
  | cons q r ih =>
    unfold sm_get at h
    by_cases hq : q.1 = i
    · rw [if_pos hq] at h
      cases h
      subst hq
      exact List.mem_cons_self
    · rw [if_neg hq] at h
      exact List.mem_cons_of_mem _ (ih h)
theorem sm_get_at {ad : Nat → Nat} {ls : Array Slot} {nL : Nat} {l : sm_L} (hl : lv_has ls nL (sm_lv ad l)) {i : Nat} {v : Value} (h : sm_get l i = some v) : ls[i]? = some (.val (sm_v ad v)) :=
  hl.2.2 (i, sm_v ad v) (List.mem_map.mpr ⟨(i, v), sm_get_mem h, rfl⟩)
theorem sm_put1_lv (ad : Nat → Nat) (l : sm_L) (i : Nat) (v : Value) : (i, sm_v ad v) :: (sm_lv ad l).filter (fun q => !(q.1 == i) && !(q.1 + 1 == i && q.2.category == 2)) = sm_lv ad (sm_put1 l i v) := by
  unfold sm_lv sm_put1
  rw [List.map_cons, List.filter_map]
  congr 2
  apply List.filter_congr
  intro q _
  simp [sm_v_cat]
theorem sm_put2_lv (ad : Nat → Nat) (l : sm_L) (i : Nat) (v : Value) : (i, sm_v ad v) :: (sm_lv ad l).filter (fun q => !(q.1 == i) && (!(q.1 == i + 1) && !(q.1 + 1 == i && q.2.category == 2))) = sm_lv ad (sm_put2 l i v) := by
  unfold sm_lv sm_put2
  rw [List.map_cons, List.filter_map]
  congr 2
  apply List.filter_congr
  intro q _
  simp [sm_v_cat]
/-- what a step gives: the next place, locals, stack, cells -/
abbrev sm_T : Type := Nat × sm_L × List Value × List va_E
def sm_i1 {α : Type} (st : List Value) (k : Int32 → List Value → Option α) : Option α := match st with
  | .int x :: r => k x r
  | _ => none
def sm_i2 {α : Type} (st : List Value) (k : Int32 → Int32 → List Value → Option α) : Option α := match st with
  | .int y :: .int x :: r => k x y r
  | _ => none
def sm_l1 {α : Type} (st : List Value) (k : Int64 → List Value → Option α) : Option α := match st with
  | .long x :: r => k x r
  | _ => none
def sm_l2 {α : Type} (st : List Value) (k : Int64 → Int64 → List Value → Option α) : Option α := match st with
  | .long y :: .long x :: r => k x y r
  | _ => none
def sm_r1 {α : Type} (st : List Value) (k : Nat → List Value → Option α) : Option α := match st with
  | .ref a :: r => k a r
  | _ => none
def sm_ri {α : Type} (st : List Value) (k : Nat → Int32 → List Value → Option α) : Option α := match st with
  | .int i :: .ref a :: r => k a i r
  | _ => none
def sm_rii {α : Type} (st : List Value) (k : Nat → Int32 → Int32 → List Value → Option α) : Option α := match st with
  | .int x :: .int i :: .ref a :: r => k a i x r
  | _ => none
def sm_c5 {α : Type} (st : List Value) (k : Nat → Int32 → Nat → Int32 → Int32 → List Value → Option α) : Option α := match st with
  | .int n :: .int dp :: .ref a :: .int sp :: .ref a0 :: r => k a0 sp a dp n r
  | _ => none
theorem sm_i1_s {α : Type} {st : List Value} {k : Int32 → List Value → Option α} {z : α} (h : sm_i1 st k = some z) : ∃ x r, st = .int x :: r ∧ k x r = some z := by
  unfold sm_i1 at h
  split at h
  · exact ⟨_, _, rfl, h⟩
  · cases h
theorem sm_i2_s {α : Type} {st : List Value} {k : Int32 → Int32 → List Value → Option α} {z : α} (h : sm_i2 st k = some z) : ∃ x y r, st = .int y :: .int x :: r ∧ k x y r = some z := by
  unfold sm_i2 at h
  split at h
  · exact ⟨_, _, _, rfl, h⟩
  · cases h
theorem sm_l1_s {α : Type} {st : List Value} {k : Int64 → List Value → Option α} {z : α} (h : sm_l1 st k = some z) : ∃ x r, st = .long x :: r ∧ k x r = some z := by
  unfold sm_l1 at h
  split at h
  · exact ⟨_, _, rfl, h⟩
  · cases h
theorem sm_l2_s {α : Type} {st : List Value} {k : Int64 → Int64 → List Value → Option α} {z : α} (h : sm_l2 st k = some z) : ∃ x y r, st = .long y :: .long x :: r ∧ k x y r = some z := by
  unfold sm_l2 at h
  split at h
  · exact ⟨_, _, _, rfl, h⟩
  · cases h
theorem sm_r1_s {α : Type} {st : List Value} {k : Nat → List Value → Option α} {z : α} (h : sm_r1 st k = some z) : ∃ x r, st = .ref x :: r ∧ k x r = some z := by
  unfold sm_r1 at h
  split at h
  · exact ⟨_, _, rfl, h⟩
  · cases h
theorem sm_ri_s {α : Type} {st : List Value} {k : Nat → Int32 → List Value → Option α} {z : α} (h : sm_ri st k = some z) : ∃ a i r, st = .int i :: .ref a :: r ∧ k a i r = some z := by
  unfold sm_ri at h
  split at h
  · exact ⟨_, _, _, rfl, h⟩
  · cases h
theorem sm_rii_s {α : Type} {st : List Value} {k : Nat → Int32 → Int32 → List Value → Option α} {z : α} (h : sm_rii st k = some z) : ∃ a i x r, st = .int x :: .int i :: .ref a :: r ∧ k a i x r = some z := by
  unfold sm_rii at h
  split at h
  · exact ⟨_, _, _, _, rfl, h⟩
  · cases h
theorem sm_c5_s {α : Type} {st : List Value} {k : Nat → Int32 → Nat → Int32 → Int32 → List Value → Option α} {z : α} (h : sm_c5 st k = some z) : ∃ a0 sp a dp n r, st = .int n :: .int dp :: .ref a :: .int sp :: .ref a0 :: r ∧ k a0 sp a dp n r = some z := by
  unfold sm_c5 at h
  split at h
  · exact ⟨_, _, _, _, _, _, rfl, h⟩
  · cases h
/-- the cells a row of ints, of bytes, of references, an object is -/
def sm_ints (h : List va_E) (a : Nat) : Option (Nat × (Nat → Int32)) := match h[a]? with
  | some (.inl (0, n, .inl f)) => some (n, f)
  | _ => none
def sm_byts (h : List va_E) (a : Nat) : Option (Nat × (Nat → Int32)) := match h[a]? with
  | some (.inl (1, n, .inl f)) => some (n, f)
  | _ => none
def sm_refs (h : List va_E) (a : Nat) : Option (Nat × Nat × (Nat → Option Nat)) := match h[a]? with
  | some (.inl (t, n, .inr (.inr (.inr (.inr f))))) => if 2 ≤ t ∧ t < 5 then some (t, n, f) else none
  | _ => none
def sm_obj (h : List va_E) (a ci : Nat) : Option (List Value) := match h[a]? with
  | some (.inr (c, fs)) => if c = ci then some fs else none
  | _ => none
theorem sm_ints_s {h : List va_E} {a n : Nat} {f : Nat → Int32} (e : sm_ints h a = some (n, f)) : h[a]? = some (.inl (0, n, .inl f)) := by
  unfold sm_ints at e
  split at e
  · cases e; assumption
  · cases e
theorem sm_byts_s {h : List va_E} {a n : Nat} {f : Nat → Int32} (e : sm_byts h a = some (n, f)) : h[a]? = some (.inl (1, n, .inl f)) := by
  unfold sm_byts at e
  split at e
  · cases e; assumption
  · cases e
theorem sm_refs_s {h : List va_E} {a t n : Nat} {f : Nat → Option Nat} (e : sm_refs h a = some (t, n, f)) : h[a]? = some (.inl (t, n, .inr (.inr (.inr (.inr f))))) ∧ 2 ≤ t ∧ t < 5 := by
  unfold sm_refs at e
  split at e
  · rename_i t' n' f' hh
    by_cases ht : 2 ≤ t' ∧ t' < 5
    · rw [if_pos ht] at e
      cases e
      exact ⟨hh, ht⟩
    · rw [if_neg ht] at e
      cases e
  · cases e
theorem sm_obj_s {h : List va_E} {a ci : Nat} {fs : List Value} (e : sm_obj h a ci = some fs) : h[a]? = some (.inr (ci, fs)) := by
  unfold sm_obj at e
  split at e
  · rename_i c' fs' hh
    by_cases hc : c' = ci
    · rw [if_pos hc] at e
      cases e
      subst hc
      exact hh
    · rw [if_neg hc] at e
      cases e
  · cases e
/-- a jump's end -/
def sm_j (pc : Nat) (off : Int) : Option Nat := if 0 ≤ (pc : Int) + off then some ((pc : Int) + off).toNat else none
theorem sm_j_s {pc t : Nat} {off : Int} (h : sm_j pc off = some t) : (pc : Int) + off = (t : Int) := by
  unfold sm_j at h
  by_cases hh : 0 ≤ (pc : Int) + off
  · rw [if_pos hh] at h
    cases h
    omega
  · rw [if_neg hh] at h
    cases h
def sm_cmp (q : Jvm.ClassFile.Cond) (x y : Int32) : Bool := match q with
  | .eq => decide (x = y)
  | .ne => decide (¬ x = y)
  | .lt => decide (x < y)
  | .ge => decide (y ≤ x)
  | .gt => decide (y < x)
  | .le => decide (x ≤ y)
/-- the letters of the kinds, in their static row -/
def sm_kl : Nat → Int32 := fun j => ([109, 121, 111, 104, 119, 103] : List Int32).getD j 0
/-- what is known of one method's class: fields (class, slot, 0 an int, 1 a long, 2 not to be written), int and long constants, the static row, the law's script, how many locals, Math's and System's own -/
abbrev sm_K : Type := (Nat → Option (Nat × Nat × Nat)) × (Nat → Option Int32) × (Nat → Option Int64) × (Nat → Bool) × Option (Nat × (Nat → Int32)) × Nat × (Nat → Option Nat)
/-- one step; none where it can't go on, calls and returns apart -/
def sm_step (K : sm_K) (i : Instr) (n pc : Nat) (lv : sm_L) (st : List Value) (h : List va_E) : Option sm_T := match i with
  | .iconst v => if n = 1 then some (pc + 1, lv, .int (Int32.ofInt v) :: st, h) else none
  | .bipush v => if n = 2 then some (pc + 2, lv, .int (Int8.ofInt v).toInt32 :: st, h) else none
  | .sipush v => if n = 3 then some (pc + 3, lv, .int (Int16.ofInt v).toInt32 :: st, h) else none
  | .lconst v => if n = 1 then some (pc + 1, lv, .long (Int64.ofNat (v : Nat)) :: st, h) else none
  | .ldc x => if n = 2 then (K.2.1 x).bind fun v => some (pc + 2, lv, .int v :: st, h) else none
  | .ldc_w x => if n = 3 then (K.2.1 x).bind fun v => some (pc + 3, lv, .int v :: st, h) else none
  | .ldc2_w x => if n = 3 then (K.2.2.1 x).bind fun v => some (pc + 3, lv, .long v :: st, h) else none
  | .iload_n k => if n = 1 then (sm_get lv k).bind fun v => sm_i1 [v] fun x _ => some (pc + 1, lv, .int x :: st, h) else none
  | .iload k => if n = 2 then (sm_get lv k).bind fun v => sm_i1 [v] fun x _ => some (pc + 2, lv, .int x :: st, h) else none
  | .lload_n k => if n = 1 then (sm_get lv k).bind fun v => sm_l1 [v] fun x _ => some (pc + 1, lv, .long x :: st, h) else none
  | .lload k => if n = 2 then (sm_get lv k).bind fun v => sm_l1 [v] fun x _ => some (pc + 2, lv, .long x :: st, h) else none
  | .aload_n k => if n = 1 then (sm_get lv k).bind fun v => sm_r1 [v] fun x _ => some (pc + 1, lv, .ref x :: st, h) else none
  | .aload k => if n = 2 then (sm_get lv k).bind fun v => sm_r1 [v] fun x _ => some (pc + 2, lv, .ref x :: st, h) else none
  | .istore_n k => if n = 1 ∧ (k : Nat) < K.2.2.2.2.2.1 then sm_i1 st fun x r => some (pc + 1, sm_put1 lv k (.int x), r, h) else none
  | .istore k => if n = 2 ∧ k < K.2.2.2.2.2.1 then sm_i1 st fun x r => some (pc + 2, sm_put1 lv k (.int x), r, h) else none
  | .lstore_n k => if n = 1 ∧ (k : Nat) + 1 < K.2.2.2.2.2.1 then sm_l1 st fun x r => some (pc + 1, sm_put2 lv k (.long x), r, h) else none
  | .lstore k => if n = 2 ∧ k + 1 < K.2.2.2.2.2.1 then sm_l1 st fun x r => some (pc + 2, sm_put2 lv k (.long x), r, h) else none
  | .astore_n k => if n = 1 ∧ (k : Nat) < K.2.2.2.2.2.1 then sm_r1 st fun x r => some (pc + 1, sm_put1 lv k (.ref x), r, h) else none
  | .astore k => if n = 2 ∧ k < K.2.2.2.2.2.1 then sm_r1 st fun x r => some (pc + 2, sm_put1 lv k (.ref x), r, h) else none
  | .iinc k v => if n = 3 ∧ k < K.2.2.2.2.2.1 then (sm_get lv k).bind fun w => sm_i1 [w] fun x _ => some (pc + 3, sm_put1 lv k (.int (x + Int32.ofInt v)), st, h) else none
  | .iadd => if n = 1 then sm_i2 st fun x y r => some (pc + 1, lv, .int (x + y) :: r, h) else none
  | .isub => if n = 1 then sm_i2 st fun x y r => some (pc + 1, lv, .int (x - y) :: r, h) else none
  | .imul => if n = 1 then sm_i2 st fun x y r => some (pc + 1, lv, .int (x * y) :: r, h) else none
  | .iand => if n = 1 then sm_i2 st fun x y r => some (pc + 1, lv, .int (x &&& y) :: r, h) else none
  | .ior => if n = 1 then sm_i2 st fun x y r => some (pc + 1, lv, .int (x ||| y) :: r, h) else none
  | .ixor => if n = 1 then sm_i2 st fun x y r => some (pc + 1, lv, .int (x ^^^ y) :: r, h) else none
  | .idiv => if n = 1 then sm_i2 st fun x y r => if y = 0 then none else some (pc + 1, lv, .int (x / y) :: r, h) else none
  | .irem => if n = 1 then sm_i2 st fun x y r => if y = 0 then none else some (pc + 1, lv, .int (x - x / y * y) :: r, h) else none
  | .ineg => if n = 1 then sm_i1 st fun x r => some (pc + 1, lv, .int (0 - x) :: r, h) else none
  | .ishl => if n = 1 then sm_i2 st fun x y r => some (pc + 1, lv, .int (x <<< (y &&& 31)) :: r, h) else none
  | .ishr => if n = 1 then sm_i2 st fun x y r => some (pc + 1, lv, .int (x >>> (y &&& 31)) :: r, h) else none
  | .ladd => if n = 1 then sm_l2 st fun x y r => some (pc + 1, lv, .long (x + y) :: r, h) else none
  | .lmul => if n = 1 then sm_l2 st fun x y r => some (pc + 1, lv, .long (x * y) :: r, h) else none
  | .ldiv => if n = 1 then sm_l2 st fun x y r => if y = 0 then none else some (pc + 1, lv, .long (x / y) :: r, h) else none
  | .lrem => if n = 1 then sm_l2 st fun x y r => if y = 0 then none else some (pc + 1, lv, .long (x - x / y * y) :: r, h) else none
  | .lcmp => if n = 1 then sm_l2 st fun x y r => some (pc + 1, lv, .int (lg_cmp x y) :: r, h) else none
  | .i2l => if n = 1 then sm_i1 st fun x r => some (pc + 1, lv, .long x.toInt64 :: r, h) else none
  | .l2i => if n = 1 then sm_l1 st fun x r => some (pc + 1, lv, .int x.toInt32 :: r, h) else none
  | .i2b => if n = 1 then sm_i1 st fun x r => some (pc + 1, lv, .int x.toInt8.toInt32 :: r, h) else none
  | .goto off => if n = 3 then (sm_j pc off).bind fun t => some (t, lv, st, h) else none
  | .ifCond q off => if n = 3 then (sm_j pc off).bind fun t => sm_i1 st fun x r => some (if sm_cmp q x 0 = true then t else pc + 3, lv, r, h) else none
  | .if_icmp q off => if n = 3 then (sm_j pc off).bind fun t => sm_i2 st fun x y r => some (if sm_cmp q x y = true then t else pc + 3, lv, r, h) else none
  | .tableswitch dflt lo hi offs => sm_i1 st fun x r => if x.toInt < lo ∨ hi < x.toInt then (sm_j pc dflt).bind fun t => some (t, lv, r, h) else (offs[(x.toInt - lo).toNat]?).bind fun off => (sm_j pc off).bind fun t => some (t, lv, r, h)
  | .getstatic x => if n = 3 ∧ K.2.2.2.1 x = true then some (pc + 3, lv, .ref 999 :: st, h) else none
  | .getfield x => if n = 3 then sm_r1 st fun a r => (K.1 x).bind fun q => (sm_obj h a q.1).bind fun fs => (fs[q.2.1]?).bind fun v => some (pc + 3, lv, v :: r, h) else none
  | .arraylength => if n = 1 then sm_r1 st fun a r => match K.2.2.2.2.1 with
      | some q => if a = 998 then some (pc + 1, lv, .int (Int32.ofNat q.1) :: r, h) else (sm_ints h a).bind fun w => some (pc + 1, lv, .int (Int32.ofNat w.1) :: r, h)
      | none => (sm_ints h a).bind fun w => some (pc + 1, lv, .int (Int32.ofNat w.1) :: r, h) else none
  | .iaload => if n = 1 then sm_ri st fun a i r => if a = 999 then (if i < 0 ∨ 6 ≤ i.toNatClampNeg then none else some (pc + 1, lv, .int (sm_kl i.toNatClampNeg) :: r, h)) else if a = 998 then (K.2.2.2.2.1).bind fun q => (if i < 0 ∨ q.1 ≤ i.toNatClampNeg then none else some (pc + 1, lv, .int (q.2 i.toNatClampNeg) :: r, h)) else (sm_ints h a).bind fun w => (if i < 0 ∨ w.1 ≤ i.toNatClampNeg then none else some (pc + 1, lv, .int (w.2 i.toNatClampNeg) :: r, h)) else none
  | .baload => if n = 1 then sm_ri st fun a i r => (sm_byts h a).bind fun w => (if i < 0 ∨ w.1 ≤ i.toNatClampNeg then none else some (pc + 1, lv, .int (w.2 i.toNatClampNeg) :: r, h)) else none
  | .aaload => if n = 1 then sm_ri st fun a i r => (sm_refs h a).bind fun w => (if i < 0 ∨ w.2.1 ≤ i.toNatClampNeg then none else (w.2.2 i.toNatClampNeg).bind fun b => some (pc + 1, lv, .ref b :: r, h)) else none
  | .iastore => if n = 1 then sm_rii st fun a i x r => (sm_ints h a).bind fun w => (if i < 0 ∨ w.1 ≤ i.toNatClampNeg then none else some (pc + 1, lv, r, h.set a (.inl (0, w.1, .inl (upd w.2 i.toNatClampNeg x))))) else none
  | .bastore => if n = 1 then sm_rii st fun a i x r => (sm_byts h a).bind fun w => (if i < 0 ∨ w.1 ≤ i.toNatClampNeg then none else some (pc + 1, lv, r, h.set a (.inl (1, w.1, .inl (upd w.2 i.toNatClampNeg (vp_nar .byte x)))))) else none
  | .putfield x => if n = 3 then (match st with
      | .int v :: .ref a :: r => (K.1 x).bind fun q => if q.2.2 = 0 then (sm_obj h a q.1).bind fun fs => (if q.2.1 < fs.length then some (pc + 3, lv, r, h.set a (.inr (q.1, fs.set q.2.1 (.int v)))) else none) else none
      | .long v :: .ref a :: r => (K.1 x).bind fun q => if q.2.2 = 1 then (sm_obj h a q.1).bind fun fs => (if q.2.1 < fs.length then some (pc + 3, lv, r, h.set a (.inr (q.1, fs.set q.2.1 (.long v)))) else none) else none
      | _ => none) else none
  | .dup => if n = 1 then (match st with
      | v :: r => if v.category = 1 then some (pc + 1, lv, v :: v :: r, h) else none
      | _ => none) else none
  | .dup2 => if n = 1 then (match st with
      | v :: w :: r => if v.category = 1 ∧ w.category = 1 then some (pc + 1, lv, v :: w :: v :: w :: r, h) else none
      | _ => none) else none
  | .pop => if n = 1 then (match st with
      | v :: r => if v.category = 1 then some (pc + 1, lv, r, h) else none
      | _ => none) else none
  | .pop2 => if n = 1 then (match st with
      | v :: r => if v.category = 2 then some (pc + 1, lv, r, h) else none
      | _ => none) else none
  | .invokestatic x => if n = 3 then (K.2.2.2.2.2.2 x).bind fun q => match q with
      | 0 => sm_i2 st fun x y r => if (r.map fun v => v.category).sum ≤ 8 then some (pc + 3, lv, .int (if x < y then y else x) :: r, h) else none
      | 1 => sm_i2 st fun x y r => if (r.map fun v => v.category).sum ≤ 8 then some (pc + 3, lv, .int (if y < x then y else x) :: r, h) else none
      | 2 => sm_i1 st fun x r => if (r.map fun v => v.category).sum ≤ 8 then some (pc + 3, lv, .int (if 0 ≤ x then x else 0 - x) :: r, h) else none
      | 3 => sm_c5 st fun a0 sp a dp k r => (sm_ints h a0).bind fun w0 => (sm_ints h a).bind fun w => if (r.map fun v => v.category).sum ≤ 8 ∧ ¬ sp < 0 ∧ ¬ dp < 0 ∧ ¬ k < 0 ∧ sp.toNatClampNeg + k.toNatClampNeg ≤ w0.1 ∧ dp.toNatClampNeg + k.toNatClampNeg ≤ w.1 then some (pc + 3, lv, r, h.set a (.inl (0, w.1, .inl (va_cpy w0.2 w.2 sp.toNatClampNeg dp.toNatClampNeg k.toNatClampNeg)))) else none
      | _ => none else none
  | _ => none
theorem sm_if {α : Type} {q : Prop} [Decidable q] {x : Option α} {z : α} (h : (if q then x else none) = some z) : q ∧ x = some z := by
  by_cases hq : q
  · rw [if_pos hq] at h
    exact ⟨hq, h⟩
  · rw [if_neg hq] at h
    cases h
theorem sm_ifn {α : Type} {q : Prop} [Decidable q] {x : Option α} {z : α} (h : (if q then none else x) = some z) : ¬ q ∧ x = some z := by
  by_cases hq : q
  · rw [if_pos hq] at h
    cases h
  · rw [if_neg hq] at h
    exact ⟨hq, h⟩
theorem sm_bd {α β : Type} {o : Option α} {f : α → Option β} {z : β} (h : o.bind f = some z) : ∃ a, o = some a ∧ f a = some z := by
  cases o with
  | none => cases h
  | some a => exact ⟨a, rfl, h⟩
abbrev sm_tys (cid : Nat → ClassId) : List (ClassId × FieldType) := [(cid 0, .int), (cid 1, .byte), (cid 2, .array .int), (cid 3, .array .byte), (cid 4, .object "MiceRegisters$Deeds")]
/-- a field's place is what the class' rows say -/
def sm_Fok (cl : List vw_C) (Ts : List Jvm.Cond) (own : String) (args : Array Value) (s : State) (F : Nat → Option (Nat × Nat × Nat)) : Prop :=
  ∀ x ci k t, F x = some (ci, k, t) → ∃ (C : String) (T : u_T) (N : Nat) (ty0 : Nat → FieldType), cl[ci]? = some (C, T, N) ∧ k < N ∧ (∀ w ∈ u_ws C T N, w ∈ Ts) ∧ (Jvm.Cond.fieldLink own x (T k).1 (T k).2.1 (T k).2.2.1).before args s = true ∧
    (∀ k, k < N → parseFieldDescriptor (T k).2.2.1 = some (ty0 k)) ∧ (∀ a, a < N → ∀ b, b < N → a ≠ b → (T a).2.1 ≠ (T b).2.1) ∧ (t = 0 → (T k).2.2.2 = false ∧ parseFieldDescriptor (T k).2.2.1 = some .int) ∧ (t = 1 → (T k).2.2.2 = false ∧ parseFieldDescriptor (T k).2.2.1 = some .long)
/-- Math's and System's own -/
def sm_Nok (own : String) (args : Array Value) (s : State) (F : Nat → Option Nat) : Prop :=
  (∀ x, F x = some 0 → (Jvm.Cond.methodLink own x Lib.Math.max.name).before args s = true ∧ (Jvm.Cond.static Lib.Math.max.name).before args s = true ∧ (Jvm.Cond.initialized "java/lang/Math").before args s = true ∧ (Jvm.Cond.code Lib.Math.max.name Lib.Math.max.code 2 (some .int)).before args s = true) ∧
  (∀ x, F x = some 1 → (Jvm.Cond.methodLink own x Lib.Math.min.name).before args s = true ∧ (Jvm.Cond.static Lib.Math.min.name).before args s = true ∧ (Jvm.Cond.initialized "java/lang/Math").before args s = true ∧ (Jvm.Cond.code Lib.Math.min.name Lib.Math.min.code 2 (some .int)).before args s = true) ∧
  (∀ x, F x = some 2 → (Jvm.Cond.methodLink own x Lib.Math.abs.name).before args s = true ∧ (Jvm.Cond.static Lib.Math.abs.name).before args s = true ∧ (Jvm.Cond.initialized "java/lang/Math").before args s = true ∧ (Jvm.Cond.code Lib.Math.abs.name Lib.Math.abs.code 1 (some .int)).before args s = true) ∧
  (∀ x, F x = some 3 → (Jvm.Cond.methodLink own x arraycopyName).before args s = true ∧ (Jvm.Cond.native arraycopyName).before args s = true ∧ (Jvm.Cond.static arraycopyName).before args s = true ∧ (Jvm.Cond.initialized "java/lang/System").before args s = true)
/-- the three calls of a nest mate's own -/
def sm_NS : List (String × Nat × MethodName × String) := [("MiceRegisters$Register", 78, ⟨"MiceRegisters", "liking", "(IIII)I"⟩, "MiceRegisters"), ("MiceRegisters$Register", 65, ⟨"MiceRegisters", "eatenInAYear", "(II)I"⟩, "MiceRegisters"), ("MiceRegisters$Register", 85, ⟨"MiceRegisters", "isOfKind", "(II)Z"⟩, "MiceRegisters")]
def sm_Nst (U : State) : Prop := ∀ q ∈ sm_NS, va_Nw (.methodLinkNest q.1 q.2.1 q.2.2.1 q.2.2.2) U
theorem sm_Nst.same {u U : State} (h : u.vm = U.vm) (hN : sm_Nst u) : sm_Nst U := fun q hq => va_Nw.same rfl h (hN q hq)
theorem sm_Nst.warm {u U : State} (h : u.WarmedH U.vm) (hN : sm_Nst u) : sm_Nst U := fun q hq => va_Nw.warmM h (hN q hq)
/-- all that a method's walk takes as given at its entry -/
def sm_Env (p : Program) (R : Room) (s : State) (m : MethodId) (args : Array Value) (c : Code) (cc : ByteArray) (own : String) (D : va_G) (cl : List vw_C) (cid : Nat → ClassId) (ad : Nat → Nat) (Ts : List Jvm.Cond) (K : sm_K) (A : Nat → Prop) : Prop :=
  p.tables.exec = Jvm.exec ∧ c.code = cc ∧ s.vm.findClass own = some m.cls ∧ c.maxLocals = K.2.2.2.2.2.1 ∧ va_K D cl (sm_tys cid) s ∧ (∀ w ∈ Ts, w.before args s = true) ∧ sm_Fok cl Ts own args s K.1 ∧
  (∀ x v, K.2.1 x = some v → (Jvm.Cond.constant own x v).before args s = true) ∧ (∀ x v, K.2.2.1 x = some v → (Jvm.Cond.constantLong own x v).before args s = true) ∧
  (∀ x, K.2.2.2.1 x = true → (Jvm.Cond.fieldLink own x "MiceRegisters" "KIND_LETTERS" "[I").before args s = true) ∧
  va_Z "MiceRegisters" "KIND_LETTERS" "[I" (.ref (ad 999)) A s s.heap ∧ va_T .int (ad 999) 6 (fun j => .int (sm_kl j)) A s s.heap ∧
  (∀ q, K.2.2.2.2.1 = some q → va_X (ad 998) q.1 q.2 s s.heap ∧ ad 998 < s.heap.size ∧ ¬ A (ad 998)) ∧ sm_Nok own args s K.2.2.2.2.2.2 ∧ 1 ≤ R.frames ∧ 100 ≤ R.locals ∧ sm_Nst s
section SM
variable {p : Program} {l : Launch} {e : Env} {R : Room} {s : State} {m : MethodId} {args : Array Value} {below : List Frame} {meth : Method} {c : Code} {H : Heap} {locs : List Loc} {cells slots : Nat} {Q : State → Prop}
variable {cc : ByteArray} {pc : Nat} {ls : Array Slot} {D : va_G} {cl : List vw_C} {A : Nat → Prop} {tys : List (ClassId × FieldType)} {ws : va_W} {H0 : Heap}
theorem sm_aald {rest : List Value} {a : Nat} (hexec : p.tables.exec = Jvm.exec) (hb : c.code = cc) (hK : va_K D cl tys s) (hP : va_P D cl ws H) (q0 t0 : Nat) {cA : ClassId} {ty : FieldType} (hty : ty.isReference = true) {n : Nat} {f : Nat → Option Nat} (ha : ws[q0]? = some (a, .inl (cA, n, .inr (.inr (.inr (.inr f)))))) (ht : tys[t0]? = some (cA, ty)) {i : Int32} (hin : vp_in i n) (hdg : decode cc pc = .ok (.aaload, 1))
    (kk : W p l e R s m args below meth c H locs cells slots Q (F0 m (pc + 1) ls (va_rf (f i.toNatClampNeg) :: rest))) : W p l e R s m args below meth c H locs cells slots Q (F0 m pc ls (.int i :: .ref a :: rest)) := by
  have hlt : i.toNatClampNeg < n := Nat.not_le.mp fun q => hin (Or.inr q)
  exact W.aald (v := va_rf (f i.toNatClampNeg)) (ty := ty) hexec hb (hP q0 _ ha) ((hK.2 t0 _ ht).1 n (fun j => va_rf (f j))) hty (fun q => by cases q) (by show ¬ (i < 0 ∨ (arrV _ _ _).slots.size ≤ _); rw [arrV_size]; exact hin) (by show (arrV _ _ _).slots[_]? = _; rw [arrV_read _ _ hlt]) rfl rfl hdg kk
theorem sm_cat_map (ad : Nat → Nat) (r : List Value) : ((r.map (sm_v ad)).map fun v => v.category).sum = (r.map fun v => v.category).sum := by
  rw [List.map_map]
  congr 1
  apply List.map_congr_left
  intro v _
  exact sm_v_cat ad v
set_option maxHeartbeats 4000000 in
theorem sm_sim {own : String} {cid : Nat → ClassId} {ad : Nat → Nat} {Ts : List Jvm.Cond} {K : sm_K} (E : sm_Env p R s m args c cc own D cl cid ad Ts K A) (hcl : cells ≤ R.cells ∧ slots ≤ R.slots)
    {i : Instr} {n : Nat} {lv lv' : sm_L} {st st' : List Value} {h h' : List va_E} {pc' : Nat} (hd : decode cc pc = .ok (i, n)) (hs : sm_step K i n pc lv st h = some (pc', lv', st', h'))
    (hl : lv_has ls K.2.2.2.2.2.1 (sm_lv ad lv)) (hP : va_P D cl (sm_w cid ad h) H) (hD : va_D A (sm_w cid ad h)) (hS : va_S A s.heap H locs)
    (kk : ∀ (ls' : Array Slot) (H' : Heap) (locs' : List Loc), lv_has ls' K.2.2.2.2.2.1 (sm_lv ad lv') → va_P D cl (sm_w cid ad h') H' → va_D A (sm_w cid ad h') → va_S A s.heap H' locs' → W p l e R s m args below meth c H' locs' cells slots Q (F0 m pc' ls' (st'.map (sm_v ad)))) :
    W p l e R s m args below meth c H locs cells slots Q (F0 m pc ls (st.map (sm_v ad))) := by
  obtain ⟨hx, hb, hown, hml, hK, hts, hF, hcI, hcL, hstat, hZ, hT, hX, hN, hRf, hRl, -⟩ := E
  have hmls : c.maxLocals = ls.size := by rw [hml]; exact hl.1.symm
  cases i with
  | iconst v =>
    have hs9 := sm_if hs
    clear hs
    obtain ⟨rfl, hs⟩ := hs9
    cases hs
    exact lv_iconst hx hb hd rfl (kk ls H locs hl hP hD hS)
  | bipush v =>
    have hs9 := sm_if hs
    clear hs
    obtain ⟨rfl, hs⟩ := hs9
    cases hs
    exact lv_bipush hx hb hd rfl (kk ls H locs hl hP hD hS)
  | sipush v =>
    have hs9 := sm_if hs
    clear hs
    obtain ⟨rfl, hs⟩ := hs9
    cases hs
    exact lv_sipush hx hb hd rfl (kk ls H locs hl hP hD hS)
  | lconst v =>
    have hs9 := sm_if hs
    clear hs
    obtain ⟨rfl, hs⟩ := hs9
    cases hs
    exact lv_lconst hx hb hd rfl (kk ls H locs hl hP hD hS)
  | ldc x =>
    have hs9 := sm_if hs
    clear hs
    obtain ⟨rfl, hs⟩ := hs9
    have hs9 := sm_bd hs
    clear hs
    obtain ⟨v, hv, hs⟩ := hs9
    cases hs
    exact lv_ldc hx hb hown (hcI _ _ hv) hd (kk ls H locs hl hP hD hS)
  | ldc_w x =>
    have hs9 := sm_if hs
    clear hs
    obtain ⟨rfl, hs⟩ := hs9
    have hs9 := sm_bd hs
    clear hs
    obtain ⟨v, hv, hs⟩ := hs9
    cases hs
    exact lv_ldcw hx hb hown (hcI _ _ hv) hd (kk ls H locs hl hP hD hS)
  | ldc2_w x =>
    have hs9 := sm_if hs
    clear hs
    obtain ⟨rfl, hs⟩ := hs9
    have hs9 := sm_bd hs
    clear hs
    obtain ⟨v, hv, hs⟩ := hs9
    cases hs
    exact lv_ldc2 hx hb hown (hcL _ _ hv) hd (kk ls H locs hl hP hD hS)
  | iload_n k =>
    have hs9 := sm_if hs
    clear hs
    obtain ⟨rfl, hs⟩ := hs9
    have hs9 := sm_bd hs
    clear hs
    obtain ⟨v, hv, hs⟩ := hs9
    have hs9 := sm_i1_s hs
    clear hs
    obtain ⟨x, r, he, hs⟩ := hs9
    cases he
    cases hs
    exact lv_iload_n hx hb hd rfl (sm_get_at hl hv) (kk ls H locs hl hP hD hS)
  | iload k =>
    have hs9 := sm_if hs
    clear hs
    obtain ⟨rfl, hs⟩ := hs9
    have hs9 := sm_bd hs
    clear hs
    obtain ⟨v, hv, hs⟩ := hs9
    have hs9 := sm_i1_s hs
    clear hs
    obtain ⟨x, r, he, hs⟩ := hs9
    cases he
    cases hs
    exact lv_iload hx hb hd (sm_get_at hl hv) (kk ls H locs hl hP hD hS)
  | lload_n k =>
    have hs9 := sm_if hs
    clear hs
    obtain ⟨rfl, hs⟩ := hs9
    have hs9 := sm_bd hs
    clear hs
    obtain ⟨v, hv, hs⟩ := hs9
    have hs9 := sm_l1_s hs
    clear hs
    obtain ⟨x, r, he, hs⟩ := hs9
    cases he
    cases hs
    exact lv_lload_n hx hb hd rfl (sm_get_at hl hv) (kk ls H locs hl hP hD hS)
  | lload k =>
    have hs9 := sm_if hs
    clear hs
    obtain ⟨rfl, hs⟩ := hs9
    have hs9 := sm_bd hs
    clear hs
    obtain ⟨v, hv, hs⟩ := hs9
    have hs9 := sm_l1_s hs
    clear hs
    obtain ⟨x, r, he, hs⟩ := hs9
    cases he
    cases hs
    exact lv_lload hx hb hd (sm_get_at hl hv) (kk ls H locs hl hP hD hS)
  | aload_n k =>
    have hs9 := sm_if hs
    clear hs
    obtain ⟨rfl, hs⟩ := hs9
    have hs9 := sm_bd hs
    clear hs
    obtain ⟨v, hv, hs⟩ := hs9
    have hs9 := sm_r1_s hs
    clear hs
    obtain ⟨x, r, he, hs⟩ := hs9
    cases he
    cases hs
    exact lv_aload_n hx hb hd rfl (sm_get_at hl hv) (kk ls H locs hl hP hD hS)
  | aload k =>
    have hs9 := sm_if hs
    clear hs
    obtain ⟨rfl, hs⟩ := hs9
    have hs9 := sm_bd hs
    clear hs
    obtain ⟨v, hv, hs⟩ := hs9
    have hs9 := sm_r1_s hs
    clear hs
    obtain ⟨x, r, he, hs⟩ := hs9
    cases he
    cases hs
    exact lv_aload hx hb hd (sm_get_at hl hv) (kk ls H locs hl hP hD hS)
  | istore_n k =>
    have hs9 := sm_if hs
    clear hs
    obtain ⟨⟨rfl, hk⟩, hs⟩ := hs9
    have hs9 := sm_i1_s hs
    clear hs
    obtain ⟨x, r, rfl, hs⟩ := hs9
    cases hs
    exact lv_istore_n hx hb hd rfl hl hk (sm_put1_lv ad lv k (.int x)) (fun ls' hl' => kk ls' H locs hl' hP hD hS)
  | istore k =>
    have hs9 := sm_if hs
    clear hs
    obtain ⟨⟨rfl, hk⟩, hs⟩ := hs9
    have hs9 := sm_i1_s hs
    clear hs
    obtain ⟨x, r, rfl, hs⟩ := hs9
    cases hs
    exact lv_istore hx hb hd hl hk (sm_put1_lv ad lv k (.int x)) (fun ls' hl' => kk ls' H locs hl' hP hD hS)
  | lstore_n k =>
    have hs9 := sm_if hs
    clear hs
    obtain ⟨⟨rfl, hk⟩, hs⟩ := hs9
    have hs9 := sm_l1_s hs
    clear hs
    obtain ⟨x, r, rfl, hs⟩ := hs9
    cases hs
    exact lv_lstore_n hx hb hd rfl hl hk (sm_put2_lv ad lv k (.long x)) (fun ls' hl' => kk ls' H locs hl' hP hD hS)
  | lstore k =>
    have hs9 := sm_if hs
    clear hs
    obtain ⟨⟨rfl, hk⟩, hs⟩ := hs9
    have hs9 := sm_l1_s hs
    clear hs
    obtain ⟨x, r, rfl, hs⟩ := hs9
    cases hs
    exact lv_lstore hx hb hd hl hk (sm_put2_lv ad lv k (.long x)) (fun ls' hl' => kk ls' H locs hl' hP hD hS)
  | astore_n k =>
    have hs9 := sm_if hs
    clear hs
    obtain ⟨⟨rfl, hk⟩, hs⟩ := hs9
    have hs9 := sm_r1_s hs
    clear hs
    obtain ⟨x, r, rfl, hs⟩ := hs9
    cases hs
    exact lv_astore_n hx hb hd rfl hl hk (sm_put1_lv ad lv k (.ref x)) (fun ls' hl' => kk ls' H locs hl' hP hD hS)
  | astore k =>
    have hs9 := sm_if hs
    clear hs
    obtain ⟨⟨rfl, hk⟩, hs⟩ := hs9
    have hs9 := sm_r1_s hs
    clear hs
    obtain ⟨x, r, rfl, hs⟩ := hs9
    cases hs
    exact lv_astore hx hb hd hl hk (sm_put1_lv ad lv k (.ref x)) (fun ls' hl' => kk ls' H locs hl' hP hD hS)
  | iinc k v =>
    have hs9 := sm_if hs
    clear hs
    obtain ⟨⟨rfl, hk⟩, hs⟩ := hs9
    have hs9 := sm_bd hs
    clear hs
    obtain ⟨w, hv, hs⟩ := hs9
    have hs9 := sm_i1_s hs
    clear hs
    obtain ⟨x, r, he, hs⟩ := hs9
    cases he
    cases hs
    obtain ⟨j, hj⟩ := List.getElem?_of_mem (List.mem_map.mpr ⟨_, sm_get_mem hv, rfl⟩ : (k, sm_v ad (.int x)) ∈ sm_lv ad lv)
    exact lv_iinc hx hb hd hl (k := j) hj rfl hk (sm_put1_lv ad lv k (.int (x + Int32.ofInt v))) (fun ls' hl' => kk ls' H locs hl' hP hD hS)
  | iadd =>
    have hs9 := sm_if hs
    clear hs
    obtain ⟨rfl, hs⟩ := hs9
    have hs9 := sm_i2_s hs
    clear hs
    obtain ⟨x, y, r, rfl, hs⟩ := hs9
    cases hs
    exact lv_iadd hx hb hd (kk ls H locs hl hP hD hS)
  | isub =>
    have hs9 := sm_if hs
    clear hs
    obtain ⟨rfl, hs⟩ := hs9
    have hs9 := sm_i2_s hs
    clear hs
    obtain ⟨x, y, r, rfl, hs⟩ := hs9
    cases hs
    exact lv_isub hx hb hd (kk ls H locs hl hP hD hS)
  | imul =>
    have hs9 := sm_if hs
    clear hs
    obtain ⟨rfl, hs⟩ := hs9
    have hs9 := sm_i2_s hs
    clear hs
    obtain ⟨x, y, r, rfl, hs⟩ := hs9
    cases hs
    exact lv_imul hx hb hd (kk ls H locs hl hP hD hS)
  | iand =>
    have hs9 := sm_if hs
    clear hs
    obtain ⟨rfl, hs⟩ := hs9
    have hs9 := sm_i2_s hs
    clear hs
    obtain ⟨x, y, r, rfl, hs⟩ := hs9
    cases hs
    exact lv_iand hx hb hd (kk ls H locs hl hP hD hS)
  | ior =>
    have hs9 := sm_if hs
    clear hs
    obtain ⟨rfl, hs⟩ := hs9
    have hs9 := sm_i2_s hs
    clear hs
    obtain ⟨x, y, r, rfl, hs⟩ := hs9
    cases hs
    exact lv_ior hx hb hd (kk ls H locs hl hP hD hS)
  | ishl =>
    have hs9 := sm_if hs
    clear hs
    obtain ⟨rfl, hs⟩ := hs9
    have hs9 := sm_i2_s hs
    clear hs
    obtain ⟨x, y, r, rfl, hs⟩ := hs9
    cases hs
    exact lv_ishl hx hb hd (kk ls H locs hl hP hD hS)
  | ishr =>
    have hs9 := sm_if hs
    clear hs
    obtain ⟨rfl, hs⟩ := hs9
    have hs9 := sm_i2_s hs
    clear hs
    obtain ⟨x, y, r, rfl, hs⟩ := hs9
    cases hs
    exact lv_ishr hx hb hd (kk ls H locs hl hP hD hS)
  | ixor =>
    have hs9 := sm_if hs
    clear hs
    obtain ⟨rfl, hs⟩ := hs9
    have hs9 := sm_i2_s hs
    clear hs
    obtain ⟨x, y, r, rfl, hs⟩ := hs9
    cases hs
    exact lv_ixor hx hb hd (kk ls H locs hl hP hD hS)
  | idiv =>
    have hs9 := sm_if hs
    clear hs
    obtain ⟨rfl, hs⟩ := hs9
    have hs9 := sm_i2_s hs
    clear hs
    obtain ⟨x, y, r, rfl, hs⟩ := hs9
    have hs9 := sm_ifn hs
    clear hs
    obtain ⟨hy, hs⟩ := hs9
    cases hs
    exact lv_idiv hx hb hd hy (kk ls H locs hl hP hD hS)
  | irem =>
    have hs9 := sm_if hs
    clear hs
    obtain ⟨rfl, hs⟩ := hs9
    have hs9 := sm_i2_s hs
    clear hs
    obtain ⟨x, y, r, rfl, hs⟩ := hs9
    have hs9 := sm_ifn hs
    clear hs
    obtain ⟨hy, hs⟩ := hs9
    cases hs
    exact lv_irem hx hb hd hy (kk ls H locs hl hP hD hS)
  | ineg =>
    have hs9 := sm_if hs
    clear hs
    obtain ⟨rfl, hs⟩ := hs9
    have hs9 := sm_i1_s hs
    clear hs
    obtain ⟨x, r, rfl, hs⟩ := hs9
    cases hs
    exact lv_ineg hx hb hd (kk ls H locs hl hP hD hS)
  | ladd =>
    have hs9 := sm_if hs
    clear hs
    obtain ⟨rfl, hs⟩ := hs9
    have hs9 := sm_l2_s hs
    clear hs
    obtain ⟨x, y, r, rfl, hs⟩ := hs9
    cases hs
    exact lv_ladd hx hb hd (kk ls H locs hl hP hD hS)
  | lmul =>
    have hs9 := sm_if hs
    clear hs
    obtain ⟨rfl, hs⟩ := hs9
    have hs9 := sm_l2_s hs
    clear hs
    obtain ⟨x, y, r, rfl, hs⟩ := hs9
    cases hs
    exact lv_lmul hx hb hd (kk ls H locs hl hP hD hS)
  | ldiv =>
    have hs9 := sm_if hs
    clear hs
    obtain ⟨rfl, hs⟩ := hs9
    have hs9 := sm_l2_s hs
    clear hs
    obtain ⟨x, y, r, rfl, hs⟩ := hs9
    have hs9 := sm_ifn hs
    clear hs
    obtain ⟨hy, hs⟩ := hs9
    cases hs
    exact lv_ldiv hx hb hd hy (kk ls H locs hl hP hD hS)
  | lrem =>
    have hs9 := sm_if hs
    clear hs
    obtain ⟨rfl, hs⟩ := hs9
    have hs9 := sm_l2_s hs
    clear hs
    obtain ⟨x, y, r, rfl, hs⟩ := hs9
    have hs9 := sm_ifn hs
    clear hs
    obtain ⟨hy, hs⟩ := hs9
    cases hs
    exact lv_lrem hx hb hd hy (kk ls H locs hl hP hD hS)
  | lcmp =>
    have hs9 := sm_if hs
    clear hs
    obtain ⟨rfl, hs⟩ := hs9
    have hs9 := sm_l2_s hs
    clear hs
    obtain ⟨x, y, r, rfl, hs⟩ := hs9
    cases hs
    exact W.lcmp hx hb hd (kk ls H locs hl hP hD hS)
  | i2l =>
    have hs9 := sm_if hs
    clear hs
    obtain ⟨rfl, hs⟩ := hs9
    have hs9 := sm_i1_s hs
    clear hs
    obtain ⟨x, r, rfl, hs⟩ := hs9
    cases hs
    exact lv_i2l hx hb hd rfl (kk ls H locs hl hP hD hS)
  | l2i =>
    have hs9 := sm_if hs
    clear hs
    obtain ⟨rfl, hs⟩ := hs9
    have hs9 := sm_l1_s hs
    clear hs
    obtain ⟨x, r, rfl, hs⟩ := hs9
    cases hs
    exact lv_l2i hx hb hd rfl (kk ls H locs hl hP hD hS)
  | i2b =>
    have hs9 := sm_if hs
    clear hs
    obtain ⟨rfl, hs⟩ := hs9
    have hs9 := sm_i1_s hs
    clear hs
    obtain ⟨x, r, rfl, hs⟩ := hs9
    cases hs
    exact lv_i2b hx hb hd rfl (kk ls H locs hl hP hD hS)
  | goto off =>
    have hs9 := sm_if hs
    clear hs
    obtain ⟨rfl, hs⟩ := hs9
    have hs9 := sm_bd hs
    clear hs
    obtain ⟨t, ht, hs⟩ := hs9
    cases hs
    exact lv_goto hx hb hd (sm_j_s ht) (kk ls H locs hl hP hD hS)
  | ifCond q off =>
    have hs9 := sm_if hs
    clear hs
    obtain ⟨rfl, hs⟩ := hs9
    have hs9 := sm_bd hs
    clear hs
    obtain ⟨t, ht, hs⟩ := hs9
    have hs9 := sm_i1_s hs
    clear hs
    obtain ⟨x, r, rfl, hs⟩ := hs9
    cases hs
    have ht := sm_j_s ht
    have kw := kk ls H locs hl hP hD hS
    have kt : sm_cmp q x 0 = true → W p l e R s m args below meth c H locs cells slots Q (F0 m t ls (st'.map (sm_v ad))) := fun z => by rw [if_pos z] at kw; exact kw
    have kf : ¬ sm_cmp q x 0 = true → W p l e R s m args below meth c H locs cells slots Q (F0 m (pc + 3) ls (st'.map (sm_v ad))) := fun z => by rw [if_neg z] at kw; exact kw
    cases q with
    | eq => exact lv_if_eq hx hb hd ht (fun z => kt (decide_eq_true z)) (fun z => kf (fun y => z (of_decide_eq_true y)))
    | ne => exact lv_if_ne hx hb hd ht (fun z => kt (decide_eq_true z)) (fun z => kf (fun y => (of_decide_eq_true y) z))
    | lt => exact lv_if_lt hx hb hd ht (fun z => kt (decide_eq_true z)) (fun z => kf (fun y => z (of_decide_eq_true y)))
    | ge => exact lv_if_ge hx hb hd ht (fun z => kt (decide_eq_true z)) (fun z => kf (fun y => z (of_decide_eq_true y)))
    | gt => exact lv_if_gt hx hb hd ht (fun z => kt (decide_eq_true z)) (fun z => kf (fun y => z (of_decide_eq_true y)))
    | le => exact lv_if_le hx hb hd ht (fun z => kt (decide_eq_true z)) (fun z => kf (fun y => z (of_decide_eq_true y)))
  | if_icmp q off =>
    have hs9 := sm_if hs
    clear hs
    obtain ⟨rfl, hs⟩ := hs9
    have hs9 := sm_bd hs
    clear hs
    obtain ⟨t, ht, hs⟩ := hs9
    have hs9 := sm_i2_s hs
    clear hs
    obtain ⟨x, y, r, rfl, hs⟩ := hs9
    cases hs
    have ht := sm_j_s ht
    have kw := kk ls H locs hl hP hD hS
    have kt : sm_cmp q x y = true → W p l e R s m args below meth c H locs cells slots Q (F0 m t ls (st'.map (sm_v ad))) := fun z => by rw [if_pos z] at kw; exact kw
    have kf : ¬ sm_cmp q x y = true → W p l e R s m args below meth c H locs cells slots Q (F0 m (pc + 3) ls (st'.map (sm_v ad))) := fun z => by rw [if_neg z] at kw; exact kw
    cases q with
    | eq => exact lv_icmp_eq hx hb hd ht (fun z => kt (decide_eq_true z)) (fun z => kf (fun y => z (of_decide_eq_true y)))
    | ne => exact lv_icmp_ne hx hb hd ht (fun z => kt (decide_eq_true z)) (fun z => kf (fun y => (of_decide_eq_true y) z))
    | lt => exact lv_icmp_lt hx hb hd ht (fun z => kt (decide_eq_true z)) (fun z => kf (fun y => z (of_decide_eq_true y)))
    | ge => exact lv_icmp_ge hx hb hd ht (fun z => kt (decide_eq_true z)) (fun z => kf (fun y => z (of_decide_eq_true y)))
    | gt => exact lv_icmp_gt hx hb hd ht (fun z => kt (decide_eq_true z)) (fun z => kf (fun y => z (of_decide_eq_true y)))
    | le => exact lv_icmp_le hx hb hd ht (fun z => kt (decide_eq_true z)) (fun z => kf (fun y => z (of_decide_eq_true y)))
  | tableswitch dflt lo hi offs =>
    have hs9 := sm_i1_s hs
    clear hs
    obtain ⟨x, r, rfl, hs⟩ := hs9
    by_cases ho : x.toInt < lo ∨ hi < x.toInt
    · rw [if_pos ho] at hs
      have hs9 := sm_bd hs
      clear hs
      obtain ⟨t, ht, hs⟩ := hs9
      cases hs
      exact lv_tableOut hx hb hd ho (sm_j_s ht) (kk ls H locs hl hP hD hS)
    · rw [if_neg ho] at hs
      have hs9 := sm_bd hs
      clear hs
      obtain ⟨off, hoff, hs⟩ := hs9
      have hs9 := sm_bd hs
      clear hs
      obtain ⟨t, ht, hs⟩ := hs9
      cases hs
      exact lv_tableIn hx hb hd (fun z => ho (Or.inl z)) (fun z => ho (Or.inr z)) hoff (sm_j_s ht) (kk ls H locs hl hP hD hS)
  | getstatic x =>
    have hs9 := sm_if hs
    clear hs
    obtain ⟨⟨rfl, hq⟩, hs⟩ := hs9
    cases hs
    exact va_gets hx hb hZ hS hown (hstat x hq) (fun _ z => z) hd (kk ls H locs hl hP hD hS)
  | getfield x =>
    have hs9 := sm_if hs
    clear hs
    obtain ⟨rfl, hs⟩ := hs9
    have hs9 := sm_r1_s hs
    clear hs
    obtain ⟨a, r, rfl, hs⟩ := hs9
    have hs9 := sm_bd hs
    clear hs
    obtain ⟨q, hq, hs⟩ := hs9
    have hs9 := sm_bd hs
    clear hs
    obtain ⟨fs, hfs, hs⟩ := hs9
    have hs9 := sm_bd hs
    clear hs
    obtain ⟨v, hv, hs⟩ := hs9
    cases hs
    obtain ⟨ci, k, t⟩ := q
    obtain ⟨C, T, N, ty0, h1, h2, h3, h4, -⟩ := hF x ci k t hq
    exact va_get (v := sm_v ad v) (ci := ci) (C := C) (T := T) (N := N) hx hb hts h3 hown hK hP a (sm_w_get (sm_obj_s hfs)) h1 k h2 h4 (fun _ z => z) (by rw [List.getElem?_map, hv]; rfl) hd (kk ls H locs hl hP hD hS)
  | arraylength =>
    have hs9 := sm_if hs
    clear hs
    obtain ⟨rfl, hs⟩ := hs9
    have hs9 := sm_r1_s hs
    clear hs
    obtain ⟨a, r, rfl, hs⟩ := hs9
    have norm : ∀ (z : (sm_ints h a).bind (fun w => some (pc + 1, lv, Value.int (Int32.ofNat w.1) :: r, h)) = some (pc', lv', st', h')), W p l e R s m args below meth c H locs cells slots Q (F0 m pc ls ((Value.ref a :: r).map (sm_v ad))) := by
      intro hs
      have hs9 := sm_bd hs
      clear hs
      obtain ⟨⟨n, f⟩, hw, hs⟩ := hs9
      cases hs
      exact va_alen (ty := .int) hx hb hK hP a 0 (sm_w_get (sm_ints_s hw)) rfl rfl hd (kk ls H locs hl hP hD hS)
    revert hX
    cases hk : K.2.2.2.2.1 with
    | none =>
      intro _
      rw [hk] at hs
      exact norm hs
    | some q =>
      intro hX
      rw [hk] at hs
      by_cases ha : a = 998
      · subst ha
        cases hs
        obtain ⟨h1, h2, h3⟩ := hX q rfl
        exact va_slen hx hb h1 h2 h3 hS hd (kk ls H locs hl hP hD hS)
      · exact norm (by simpa [ha] using hs)
  | iaload =>
    have hs9 := sm_if hs
    clear hs
    obtain ⟨rfl, hs⟩ := hs9
    have hs9 := sm_ri_s hs
    clear hs
    obtain ⟨a, i, r, rfl, hs⟩ := hs9
    by_cases h9 : a = 999
    · rw [if_pos h9] at hs
      subst h9
      have hs9 := sm_ifn hs
      clear hs
      obtain ⟨hi, hs⟩ := hs9
      cases hs
      exact va_ti hx hb hT hS hi rfl hd (kk ls H locs hl hP hD hS)
    · rw [if_neg h9] at hs
      by_cases h8 : a = 998
      · rw [if_pos h8] at hs
        subst h8
        have hs9 := sm_bd hs
        clear hs
        obtain ⟨q, hq, hs⟩ := hs9
        have hs9 := sm_ifn hs
        clear hs
        obtain ⟨hi, hs⟩ := hs9
        cases hs
        obtain ⟨h1, h2, h3⟩ := hX q hq
        exact va_sld hx hb h1 h2 h3 hS hi hd (kk ls H locs hl hP hD hS)
      · rw [if_neg h8] at hs
        have hs9 := sm_bd hs
        clear hs
        obtain ⟨⟨n, f⟩, hw, hs⟩ := hs9
        have hs9 := sm_ifn hs
        clear hs
        obtain ⟨hi, hs⟩ := hs9
        cases hs
        exact va_iald hx hb hK hP a 0 (sm_w_get (sm_ints_s hw)) rfl hi hd (kk ls H locs hl hP hD hS)
  | baload =>
    have hs9 := sm_if hs
    clear hs
    obtain ⟨rfl, hs⟩ := hs9
    have hs9 := sm_ri_s hs
    clear hs
    obtain ⟨a, i, r, rfl, hs⟩ := hs9
    have hs9 := sm_bd hs
    clear hs
    obtain ⟨⟨n, f⟩, hw, hs⟩ := hs9
    have hs9 := sm_ifn hs
    clear hs
    obtain ⟨hi, hs⟩ := hs9
    cases hs
    exact va_bald hx hb hK hP a 1 (sm_w_get (sm_byts_s hw)) rfl hi hd (kk ls H locs hl hP hD hS)
  | aaload =>
    have hs9 := sm_if hs
    clear hs
    obtain ⟨rfl, hs⟩ := hs9
    have hs9 := sm_ri_s hs
    clear hs
    obtain ⟨a, i, r, rfl, hs⟩ := hs9
    have hs9 := sm_bd hs
    clear hs
    obtain ⟨⟨t, n, f⟩, hw, hs⟩ := hs9
    have hs9 := sm_ifn hs
    clear hs
    obtain ⟨hi, hs⟩ := hs9
    have hs9 := sm_bd hs
    clear hs
    obtain ⟨b, hb1, hs⟩ := hs9
    cases hs
    obtain ⟨hw, ht2, ht5⟩ := sm_refs_s hw
    have hkk := kk ls H locs hl hP hD hS
    have hkk : W p l e R s m args below meth c H locs cells slots Q (F0 m (pc + 1) ls (va_rf ((f i.toNatClampNeg).map ad) :: r.map (sm_v ad))) := by
      dsimp only at hb1
      rw [hb1]
      exact hkk
    rcases (show t = 2 ∨ t = 3 ∨ t = 4 by omega) with rfl | rfl | rfl
    · exact sm_aald hx hb hK hP a 2 (ty := .array .int) rfl (sm_w_get hw) rfl hi hd hkk
    · exact sm_aald hx hb hK hP a 3 (ty := .array .byte) rfl (sm_w_get hw) rfl hi hd hkk
    · exact sm_aald hx hb hK hP a 4 (ty := .object "MiceRegisters$Deeds") rfl (sm_w_get hw) rfl hi hd hkk
  | iastore =>
    have hs9 := sm_if hs
    clear hs
    obtain ⟨rfl, hs⟩ := hs9
    have hs9 := sm_rii_s hs
    clear hs
    obtain ⟨a, i, x, r, rfl, hs⟩ := hs9
    have hs9 := sm_bd hs
    clear hs
    obtain ⟨⟨n, f⟩, hw, hs⟩ := hs9
    have hs9 := sm_ifn hs
    clear hs
    obtain ⟨hi, hs⟩ := hs9
    cases hs
    refine va_iast hx hb hK hP hD hS a 0 (sm_w_get (sm_ints_s hw)) rfl hi hd (fun H1 locs1 hP1 hD1 hS1 => ?_)
    have e := sm_w_set cid ad h a (.inl (0, n, .inl (upd f i.toNatClampNeg x)))
    exact kk ls H1 locs1 hl (e ▸ hP1) (e ▸ hD1) hS1
  | bastore =>
    have hs9 := sm_if hs
    clear hs
    obtain ⟨rfl, hs⟩ := hs9
    have hs9 := sm_rii_s hs
    clear hs
    obtain ⟨a, i, x, r, rfl, hs⟩ := hs9
    have hs9 := sm_bd hs
    clear hs
    obtain ⟨⟨n, f⟩, hw, hs⟩ := hs9
    have hs9 := sm_ifn hs
    clear hs
    obtain ⟨hi, hs⟩ := hs9
    cases hs
    refine va_bast hx hb hK hP hD hS a 1 (sm_w_get (sm_byts_s hw)) rfl hi hd (fun H1 locs1 hP1 hD1 hS1 => ?_)
    have e := sm_w_set cid ad h a (.inl (1, n, .inl (upd f i.toNatClampNeg (vp_nar .byte x))))
    exact kk ls H1 locs1 hl (e ▸ hP1) (e ▸ hD1) hS1
  | dup =>
    have hs9 := sm_if hs
    clear hs
    obtain ⟨rfl, hs⟩ := hs9
    cases st with
    | nil => cases hs
    | cons v r =>
      have hs9 := sm_if hs
      clear hs
      obtain ⟨hv, hs⟩ := hs9
      cases hs
      exact lv_dup hx hb hd (by rw [sm_v_cat]; exact hv) (kk ls H locs hl hP hD hS)
  | dup2 =>
    have hs9 := sm_if hs
    clear hs
    obtain ⟨rfl, hs⟩ := hs9
    cases st with
    | nil => cases hs
    | cons v r =>
      cases r with
      | nil => cases hs
      | cons w r =>
        have hs9 := sm_if hs
        clear hs
        obtain ⟨hv, hs⟩ := hs9
        cases hs
        exact lv_dup2_11 hx hb hd (by rw [sm_v_cat]; exact hv.1) (by rw [sm_v_cat]; exact hv.2) (kk ls H locs hl hP hD hS)
  | pop =>
    have hs9 := sm_if hs
    clear hs
    obtain ⟨rfl, hs⟩ := hs9
    cases st with
    | nil => cases hs
    | cons v r =>
      have hs9 := sm_if hs
      clear hs
      obtain ⟨hv, hs⟩ := hs9
      cases hs
      exact lv_pop hx hb hd (by rw [sm_v_cat]; exact hv) (kk ls H locs hl hP hD hS)
  | pop2 =>
    have hs9 := sm_if hs
    clear hs
    obtain ⟨rfl, hs⟩ := hs9
    cases st with
    | nil => cases hs
    | cons v r =>
      have hs9 := sm_if hs
      clear hs
      obtain ⟨hv, hs⟩ := hs9
      cases hs
      exact lv_pop2_2 hx hb hd (by rw [sm_v_cat]; exact hv) (kk ls H locs hl hP hD hS)
  | putfield x =>
    have hs9 := sm_if hs
    clear hs
    obtain ⟨rfl, hs⟩ := hs9
    split at hs
    · rename_i v a r
      have hs9 := sm_bd hs
      clear hs
      obtain ⟨q, hq, hs⟩ := hs9
      have hs9 := sm_if hs
      clear hs
      obtain ⟨ht, hs⟩ := hs9
      have hs9 := sm_bd hs
      clear hs
      obtain ⟨fs, hfs, hs⟩ := hs9
      have hs9 := sm_if hs
      clear hs
      obtain ⟨hlen, hs⟩ := hs9
      cases hs
      obtain ⟨ci, k, t⟩ := q
      obtain ⟨C, T, N, ty0, h1, h2, h3, h4, h5, h6, h7, -⟩ := hF x ci k t hq
      refine va_put (v := .int v) (ty := .int) (ci := ci) (C := C) (T := T) (N := N) hx hb hts h3 ty0 h5 h6 hown hK hP hD hS a (sm_w_get (sm_obj_s hfs)) h1 k h2 h4 (fun _ z => z) (h7 ht).1 (h7 ht).2 rfl rfl (by rw [List.length_map]; exact hlen) hd (fun H1 locs1 hP1 hD1 hS1 => ?_)
      have e := sm_w_set cid ad h a (.inr (ci, fs.set k (.int v)))
      have e2 : sm_e cid ad (.inr (ci, fs.set k (.int v))) = .inr (ci, (fs.map (sm_v ad)).set k (.int v)) := by
        show Sum.inr (ci, (fs.set k (.int v)).map (sm_v ad)) = _
        rw [List.map_set]
        rfl
      rw [e2] at e
      exact kk ls H1 locs1 hl (e ▸ hP1) (e ▸ hD1) hS1
    · rename_i v a r
      have hs9 := sm_bd hs
      clear hs
      obtain ⟨q, hq, hs⟩ := hs9
      have hs9 := sm_if hs
      clear hs
      obtain ⟨ht, hs⟩ := hs9
      have hs9 := sm_bd hs
      clear hs
      obtain ⟨fs, hfs, hs⟩ := hs9
      have hs9 := sm_if hs
      clear hs
      obtain ⟨hlen, hs⟩ := hs9
      cases hs
      obtain ⟨ci, k, t⟩ := q
      obtain ⟨C, T, N, ty0, h1, h2, h3, h4, h5, h6, -, h7⟩ := hF x ci k t hq
      refine va_put (v := .long v) (ty := .long) (ci := ci) (C := C) (T := T) (N := N) hx hb hts h3 ty0 h5 h6 hown hK hP hD hS a (sm_w_get (sm_obj_s hfs)) h1 k h2 h4 (fun _ z => z) (h7 ht).1 (h7 ht).2 rfl rfl (by rw [List.length_map]; exact hlen) hd (fun H1 locs1 hP1 hD1 hS1 => ?_)
      have e := sm_w_set cid ad h a (.inr (ci, fs.set k (.long v)))
      have e2 : sm_e cid ad (.inr (ci, fs.set k (.long v))) = .inr (ci, (fs.map (sm_v ad)).set k (.long v)) := by
        show Sum.inr (ci, (fs.set k (.long v)).map (sm_v ad)) = _
        rw [List.map_set]
        rfl
      rw [e2] at e
      exact kk ls H1 locs1 hl (e ▸ hP1) (e ▸ hD1) hS1
    · cases hs
  | invokestatic x =>
    have hs9 := sm_if hs
    clear hs
    obtain ⟨rfl, hs⟩ := hs9
    have hs9 := sm_bd hs
    clear hs
    obtain ⟨q, hq, hs⟩ := hs9
    obtain ⟨n0, n1, n2, n3⟩ := hN
    split at hs
    · have hs9 := sm_i2_s hs
      clear hs
      obtain ⟨x1, y, r, rfl, hs⟩ := hs9
      have hs9 := sm_if hs
      clear hs
      obtain ⟨hr, hs⟩ := hs9
      cases hs
      obtain ⟨a1, a2, a3, a4⟩ := n0 x hq
      exact va_mmax hx hb hmls hown a1 a2 a3 a4 hRf (by rw [sm_cat_map]; omega) hcl.1 hcl.2 hd (kk ls H locs hl hP hD hS)
    · have hs9 := sm_i2_s hs
      clear hs
      obtain ⟨x1, y, r, rfl, hs⟩ := hs9
      have hs9 := sm_if hs
      clear hs
      obtain ⟨hr, hs⟩ := hs9
      cases hs
      obtain ⟨a1, a2, a3, a4⟩ := n1 x hq
      exact va_mmin hx hb hmls hown a1 a2 a3 a4 hRf (by rw [sm_cat_map]; omega) hcl.1 hcl.2 hd (kk ls H locs hl hP hD hS)
    · have hs9 := sm_i1_s hs
      clear hs
      obtain ⟨x1, r, rfl, hs⟩ := hs9
      have hs9 := sm_if hs
      clear hs
      obtain ⟨hr, hs⟩ := hs9
      cases hs
      obtain ⟨a1, a2, a3, a4⟩ := n2 x hq
      exact va_mabs hx hb hmls hown a1 a2 a3 a4 hRf (by rw [sm_cat_map]; omega) hcl.1 hcl.2 hd (kk ls H locs hl hP hD hS)
    · have hs9 := sm_c5_s hs
      clear hs
      obtain ⟨a0, sp, a, dp, k, r, rfl, hs⟩ := hs9
      have hs9 := sm_bd hs
      clear hs
      obtain ⟨⟨n, f⟩, hw0, hs⟩ := hs9
      have hs9 := sm_bd hs
      clear hs
      obtain ⟨⟨n', g⟩, hw, hs⟩ := hs9
      have hs9 := sm_if hs
      clear hs
      obtain ⟨⟨hr, g1, g2, g3, g4, g5⟩, hs⟩ := hs9
      cases hs
      obtain ⟨a1, a2, a3, a4⟩ := n3 x hq
      refine va_copyi hx hb hmls hown a1 a2 a3 a4 hK hP hD hS a0 a 0 0 (sm_w_get (sm_ints_s hw0)) (sm_w_get (sm_ints_s hw)) rfl rfl rfl g1 g2 g3 g4 g5 (fun _ _ => rfl) hRf ?_ hd (fun H1 locs1 hP1 hD1 hS1 => ?_)
      · rw [sm_cat_map]
        exact Nat.le_trans (Nat.add_le_add_right hr _) (Nat.le_trans (by decide) hRl)
      · have e := sm_w_set cid ad h a (.inl (0, n', .inl (va_cpy f g sp.toNatClampNeg dp.toNatClampNeg k.toNatClampNeg)))
        exact kk ls H1 locs1 hl (e ▸ hP1) (e ▸ hD1) hS1
    · cases hs
  | _ => cases hs
end SM
/-! Whole runs of a method of the small machine, calls among them; and that the machine goes with them. -/
abbrev sm_X : Type := Nat → List Value → List va_E → Option Value → List va_E → Prop
def sm_ret (ret : Option FieldType) (i : Instr) (n : Nat) (st : List Value) (o : Option Value) : Prop :=
  n = 1 ∧ ((i = .ireturn ∧ ∃ v, st = [.int v] ∧ o = some (.int v) ∧ (ret = some .int ∨ ret = some .boolean ∧ (v = 0 ∨ v = 1))) ∨ (i = .lreturn ∧ ∃ v, st = [.long v] ∧ o = some (.long v) ∧ ret = some .long) ∨ (i = .return_ ∧ st = [] ∧ o = none ∧ ret = none))
/-- a call: which kind (0 by a receiver, 1 static, 2 static in a nest mate), which method, how many parameters, the receiver's class -/
def sm_cal (ca : Nat → Option (Nat × Nat × Nat × Nat)) (i : Instr) (n : Nat) (st : List Value) (h : List va_E) (k : Nat) (vs r : List Value) : Prop :=
  n = 3 ∧ (r.map fun v => v.category).sum ≤ 8 ∧ ((∃ x ci b As, i = .invokevirtual x ∧ ca x = some (0, k, As.length, ci) ∧ st = As.reverse ++ .ref b :: r ∧ vs = .ref b :: As ∧ ∃ fs, sm_obj h b ci = some fs) ∨
    (∃ x ci, i = .invokestatic x ∧ ca x = some (1, k, vs.length, ci) ∧ st = vs.reverse ++ r) ∨ (∃ x ci, i = .invokestatic x ∧ ca x = some (2, k, vs.length, ci) ∧ st = vs.reverse ++ r))
/-- a method's own: where each instruction is, what its class knows, its calls, what it returns -/
abbrev sm_P : Type := (Nat → Option (Instr × Nat)) × sm_K × (Nat → Option (Nat × Nat × Nat × Nat)) × Option FieldType
def sm_rn (B : sm_P) (X : sm_X) : Nat → Nat → sm_L → List Value → List va_E → Option Value → List va_E → Prop
  | 0, _, _, _, _, _, _ => False
  | f + 1, pc, lv, st, h, o, h' => ∃ i n, B.1 pc = some (i, n) ∧ ((sm_ret B.2.2.2 i n st o ∧ h' = h) ∨ (∃ t : sm_T, sm_step B.2.1 i n pc lv st h = some t ∧ sm_rn B X f t.1 t.2.1 t.2.2.1 t.2.2.2 o h') ∨
      (∃ k vs r o1 h1, sm_cal B.2.2.1 i n st h k vs r ∧ X k vs h o1 h1 ∧ sm_rn B X f (pc + 3) lv (o1.toList ++ r) h1 o h'))
/-- what a method's walk needs of a state, its cells being h -/
def sm_In (D : va_G) (cl : List vw_C) (cid : Nat → ClassId) (ad : Nat → Nat) (h : List va_E) (sz : Nat) (U : State) : Prop :=
  U.heap.size = sz ∧ va_P D cl (sm_w cid ad h) U.heap ∧ va_K D cl (sm_tys cid) U ∧ va_D (fun _ => True) (sm_w cid ad h) ∧ va_Z "MiceRegisters" "KIND_LETTERS" "[I" (.ref (ad 999)) (va_A (sm_w cid ad h) sz) U U.heap ∧ va_T .int (ad 999) 6 (fun j => .int (sm_kl j)) (va_A (sm_w cid ad h) sz) U U.heap ∧ sm_Nst U
def sm_Out (D : va_G) (cl : List vw_C) (cid : Nat → ClassId) (ad : Nat → Nat) (h : List va_E) (sz : Nat) (o : Option Value) (h' : List va_E) : Array Value → State → Outcome → State → Prop := fun _ st oc t =>
  (oc = .returned (o.map (sm_v ad)) ∧ va_P D cl (sm_w cid ad h') t.heap ∧ va_D (va_A (sm_w cid ad h) sz) (sm_w cid ad h')) ∧ va_F (va_A (sm_w cid ad h) sz) st t
/-- the contract of one run -/
def sm_C (l : Launch) (D : va_G) (cl : List vw_C) (cid : Nat → ClassId) (ad : Nat → Nat) (y : MethodName) (ws : List Jvm.Cond) (rm : Room) (vs : List Value) (h : List va_E) (o : Option Value) (h' : List va_E) : Prop :=
  ∀ sz : Nat, Met l y ws rm (va_Pc (vs.map (sm_v ad)) (sm_In D cl cid ad h sz)) (sm_Out D cl cid ad h sz o h') 0 0 (va_A (sm_w cid ad h) sz)
theorem sm_In.blind {D : va_G} {cl : List vw_C} {cid : Nat → ClassId} {ad : Nat → Nat} {h : List va_E} {sz : Nat} {vs : List Value} : FrameBlind (va_Pc (vs.map (sm_v ad)) (sm_In D cl cid ad h sz)) := by
  intro a U g mk q
  obtain ⟨q0, q1, qP, qK, qD, qZ, qT, qN⟩ := q
  exact ⟨q0, q1, qP, va_K.moved (u := U) (U := U.calling g mk a) (Vm.Alike.refl U.vm) qK, qD, va_Z.moved (u := U) (U := U.calling g mk a) (Vm.Alike.refl U.vm) qZ, va_T.moved (u := U) (U := U.calling g mk a) (Vm.Alike.refl U.vm) qT, sm_Nst.same (u := U) (U := U.calling g mk a) rfl qN⟩
section SMR
variable {p : Program} {l : Launch} {e : Env} {R : Room} {s : State} {m : MethodId} {args : Array Value} {below : List Frame} {meth : Method} {c : Code} {H : Heap} {locs : List Loc} {cells slots : Nat} {Q : State → Prop}
variable {cc : ByteArray} {pc : Nat} {ls : Array Slot} {D : va_G} {cl : List vw_C} {A : Nat → Prop} {cid : Nat → ClassId} {ad : Nat → Nat}
/-- the cells of the world, and all new ones, are among those that may be written -/
theorem sm_sub {h : List va_E} (hD : va_D A (sm_w cid ad h)) (hS : va_S A s.heap H locs) (hA : ∀ q : Nat, s.heap.size ≤ q → A q) : ∀ q, va_A (sm_w cid ad h) H.size q → A q := by
  intro q hq
  rcases hq with ⟨k, e, hk⟩ | hq
  · exact hD.2 k _ hk
  · exact hA q (Nat.le_trans hS.1 hq)
theorem sm_pre {h : List va_E} {vs : List Value} (hK : va_K D cl (sm_tys cid) s) (hP : va_P D cl (sm_w cid ad h) H) (hD : va_D A (sm_w cid ad h)) (hS : va_S A s.heap H locs) (hA : ∀ q : Nat, s.heap.size ≤ q → A q)
    (hZ : va_Z "MiceRegisters" "KIND_LETTERS" "[I" (.ref (ad 999)) A s s.heap) (hT : va_T .int (ad 999) 6 (fun j => .int (sm_kl j)) A s s.heap) (hN : sm_Nst s) (U : State) (hU : U.heap = H) (hW : s.WarmedH U.vm) : va_Pc (vs.map (sm_v ad)) (sm_In D cl cid ad h H.size) (vs.map (sm_v ad)).toArray U := by
  have hF := sm_sub (cid := cid) (ad := ad) hD hS hA
  refine ⟨rfl, by rw [hU], by rw [hU]; exact hP, va_K.moved hW.alike hK, hD.weaken (fun _ _ _ _ => trivial), ?_, ?_, sm_Nst.warm hW hN⟩
  · exact va_Z.narrow (va_Z.kept (va_Z.moved hW.alike hZ) (fun a h1 h2 => by rw [hU]; exact hS.2.1 a h1 h2)) hF
  · exact va_T.narrow (va_T.kept (va_T.moved hW.alike hT) (fun a h1 h2 => by rw [hU]; exact hS.2.1 a h1 h2)) hF
/-- behind a call -/
theorem sm_back {h h1 : List va_E} {o1 : Option Value} {st0 rest : List Value} {a : Array Value} (hr : va_Run p l e R s m args below meth c H locs cells slots 0 0 (F0 m pc ls st0) rest (sm_Out D cl cid ad h H.size o1 h1 a) (va_A (sm_w cid ad h) H.size)) (hD : va_D A (sm_w cid ad h)) (hS : va_S A s.heap H locs) (hA : ∀ q : Nat, s.heap.size ≤ q → A q)
    (kk : ∀ (H1 : Heap) (locs1 : List Loc), va_P D cl (sm_w cid ad h1) H1 → va_D A (sm_w cid ad h1) → va_S A s.heap H1 locs1 → W p l e R s m args below meth c H1 locs1 cells slots Q (F0 m (pc + 3) ls (((o1.map (sm_v ad)).toList ++ rest)))) : W p l e R s m args below meth c H locs cells slots Q (F0 m pc ls st0) := by
  have hF := sm_sub (cid := cid) (ad := ad) hD hS hA
  intro T hT X
  obtain ⟨v, st₀, t, T', L, h0, X', hL, e1, e2, ⟨⟨hv, hp, hd⟩, hz, hk⟩, st⟩ := hr T hT X
  cases hv
  rw [h0] at hz hk
  obtain ⟨t2, a1, b1⟩ := kk T'.heap (locs ++ L) (by rw [e1]; exact hp) (hd.weaken (fun _ q _ hq => hF q.1 hq))
    ⟨Nat.le_trans hS.1 (by rw [e1]; exact hz), fun q h1 h2 => by rw [e1, hk q (Nat.lt_of_lt_of_le h1 hS.1) (fun z => h2 (hF q z))]; exact hS.2.1 q h1 h2, fun q hq => by
      rcases List.mem_append.mp hq with h | h
      · exact hS.2.2 q h
      · exact hF _ (hL q h)⟩ T' rfl X'
  exact ⟨t2, st t2 a1, b1⟩
/-- what is known of a method's calls: their words and rooms -/
def sm_Cok (R : Room) (s : State) (args : Array Value) (cl : List vw_C) (own : String) (Y : Nat → MethodName) (CC : Nat → ByteArray) (ML : Nat → Nat) (RT : Nat → Option FieldType) (WS : Nat → List Jvm.Cond) (rm : Room) (ca : Nat → Option (Nat × Nat × Nat × Nat)) : Prop :=
  (∀ x k np ci, ca x = some (0, k, np, ci) → ∃ q : vw_C, cl[ci]? = some q ∧ CallW R s args own q.1 x (Y k) (CC k) (ML k) (RT k) (WS k) rm 0 0 np) ∧
  (∀ x k np ci, ca x = some (1, k, np, ci) → CallB R s args own x (Y k) (CC k) (ML k) (RT k) (WS k) rm 0 0 np ∧ (Jvm.Cond.static (Y k)).before args s = true) ∧
  (∀ x k np ci, ca x = some (2, k, np, ci) → ∃ host, va_CN R s args own x (Y k) host (CC k) (ML k) (RT k) (WS k) rm 0 0 np ∧ (Jvm.Cond.static (Y k)).before args s = true ∧ True)
set_option maxHeartbeats 4000000 in
theorem sm_sims {own : String} {Ts : List Jvm.Cond} {B : sm_P} {X : sm_X} {Y : Nat → MethodName} {CC : Nat → ByteArray} {ML : Nat → Nat} {RT : Nat → Option FieldType} {WS : Nat → List Jvm.Cond} {rm : Room}
    (E : sm_Env p R s m args c cc own D cl cid ad Ts B.2.1 A) (hcl : cells ≤ R.cells ∧ slots ≤ R.slots) (hA : ∀ q : Nat, s.heap.size ≤ q → A q) (hB : ∀ pc i n, B.1 pc = some (i, n) → decode cc pc = .ok (i, n))
    (hca : sm_Cok R s args cl own Y CC ML RT WS rm B.2.2.1) (hX : ∀ k vs h o h', X k vs h o h' → sm_C l D cl cid ad (Y k) (WS k) rm vs h o h') {o : Option Value} {h' : List va_E}
    (fin : ∀ (pc : Nat) (i : Instr) (n : Nat) (st : List Value) (ls : Array Slot) (H : Heap) (locs : List Loc), decode cc pc = .ok (i, n) → sm_ret B.2.2.2 i n st o → va_P D cl (sm_w cid ad h') H → va_D A (sm_w cid ad h') → va_S A s.heap H locs → W p l e R s m args below meth c H locs cells slots Q (F0 m pc ls (st.map (sm_v ad)))) :
    ∀ (f pc : Nat) (lv : sm_L) (st : List Value) (h : List va_E) (ls : Array Slot) (H : Heap) (locs : List Loc), sm_rn B X f pc lv st h o h' → lv_has ls B.2.1.2.2.2.2.2.1 (sm_lv ad lv) → va_P D cl (sm_w cid ad h) H → va_D A (sm_w cid ad h) → va_S A s.heap H locs → W p l e R s m args below meth c H locs cells slots Q (F0 m pc ls (st.map (sm_v ad))) := by
  intro f
  induction f with
  | zero => intro pc lv st h ls H locs hr; exact hr.elim
  | succ f ih =>
    intro pc lv st h ls H locs hr hl hP hD hS
    obtain ⟨i, n, hi, hr⟩ := hr
    have hd := hB pc i n hi
    rcases hr with ⟨hr, rfl⟩ | ⟨⟨pc', lv', st', h1⟩, hs, hr⟩ | ⟨k, vs, r, o1, h1, ⟨hn, hcat, hk⟩, hx, hr⟩
    · exact fin pc i n st ls H locs hd hr hP hD hS
    · exact sm_sim E hcl hd hs hl hP hD hS (fun ls' H' locs' hl' hP' hD' hS' => ih pc' lv' st' h1 ls' H' locs' hr hl' hP' hD' hS')
    · subst hn
      obtain ⟨hx0, hb0, hown, hml, hK, hts, -, -, -, -, hZ, hT, -, -, -, -, hN⟩ := id E
      have hS0 : CallFix p m c cc B.2.1.2.2.2.2.2.1 s args Ts own := ⟨hx0, hb0, hml, hown, hts⟩
      have hM := hX k vs h o1 h1 hx H.size
      have hcat' : ((r.map (sm_v ad)).map fun v => v.category).sum ≤ 8 := by rw [sm_cat_map]; exact hcat
      have go : ∀ (H1 : Heap) (locs1 : List Loc), va_P D cl (sm_w cid ad h1) H1 → va_D A (sm_w cid ad h1) → va_S A s.heap H1 locs1 → W p l e R s m args below meth c H1 locs1 cells slots Q (F0 m (pc + 3) ls ((o1.map (sm_v ad)).toList ++ r.map (sm_v ad))) := by
        intro H1 locs1 hP1 hD1 hS1
        have w := ih (pc + 3) lv (o1.toList ++ r) h1 ls H1 locs1 hr hl hP1 hD1 hS1
        have e : (o1.toList ++ r).map (sm_v ad) = (o1.map (sm_v ad)).toList ++ r.map (sm_v ad) := by cases o1 <;> simp
        rw [e] at w
        exact w
      rcases hk with ⟨x, ci, b, As, rfl, hc, rfl, rfl, fs, hfs⟩ | ⟨x, ci, rfl, hc, rfl⟩ | ⟨x, ci, rfl, hc, rfl⟩
      · obtain ⟨q, hq, cw⟩ := hca.1 _ _ _ _ hc
        have hrun := va_runV (As := As.map (sm_v ad)) (rest := r.map (sm_v ad)) (b := ad b) (g := F0 m pc ls ((As.reverse ++ .ref b :: r).map (sm_v ad))) (H := H) (locs := locs) (cells := cells) (slots := slots) (below := below) (meth := meth) (e := e) hS0 hM cw ⟨sm_In.blind, va_recv hK hP hq (sm_w_get (sm_obj_s hfs)), fun U hU hW => sm_pre hK hP hD hS hA hZ hT hN U hU hW⟩ rfl (by simp) hl.1 (by simp [sm_v]) (by simpa [JFrame.monitorRoom] using hcat') hd ⟨hcl.1, hcl.2⟩
        exact sm_back hrun hD hS hA go
      · obtain ⟨cw1, cw2⟩ := hca.2.1 _ _ _ _ hc
        have hrun := va_runS (As := vs.map (sm_v ad)) (rest := r.map (sm_v ad)) (g := F0 m pc ls ((vs.reverse ++ r).map (sm_v ad))) (H := H) (locs := locs) (cells := cells) (slots := slots) (below := below) (meth := meth) (e := e) hS0 hM ⟨cw1, cw2⟩ ⟨sm_In.blind, fun U hU hW => sm_pre hK hP hD hS hA hZ hT hN U hU hW⟩ rfl (by simp) hl.1 (by simp) (by simpa [JFrame.monitorRoom] using hcat') hd ⟨hcl.1, hcl.2⟩
        exact sm_back hrun hD hS hA go
      · obtain ⟨host, cw⟩ := hca.2.2 _ _ _ _ hc
        have hrun := va_runSN (As := vs.map (sm_v ad)) (rest := r.map (sm_v ad)) (g := F0 m pc ls ((vs.reverse ++ r).map (sm_v ad))) (H := H) (locs := locs) (cells := cells) (slots := slots) (below := below) (meth := meth) (e := e) hS0 hM cw ⟨sm_In.blind, fun U hU hW => sm_pre hK hP hD hS hA hZ hT hN U hU hW⟩ rfl (by simp) hl.1 (by simp) (by simpa [JFrame.monitorRoom] using hcat') hd ⟨hcl.1, hcl.2⟩
        exact sm_back hrun hD hS hA go
end SMR
/-! A method's contract out of its runs; all methods, by how deep their calls go. -/
theorem sm_args_lv (ad : Nat → Nat) : ∀ (n : Nat) (vs : List Value), sm_lv ad (lv_args n vs) = lv_args n (vs.map (sm_v ad))
  | _, [] => rfl
  | n, v :: vs => by
    have h := sm_args_lv ad (n + v.category) vs
    cases v <;> exact congrArg (List.cons _) h
theorem sm_sl_len (ad : Nat → Nat) : ∀ vs : List Value, (lg_sl (vs.map (sm_v ad))).length = (lg_sl vs).length
  | [] => rfl
  | v :: vs => by
    have h := sm_sl_len ad vs
    unfold lg_sl at h ⊢
    rw [List.map_cons, List.flatMap_cons, List.flatMap_cons, List.length_append, List.length_append, h]
    cases v <;> rfl
def sm_rm (d : Nat) : Room := { frames := d, cells := 0, slots := 0, locals := 100 * d }
/-- what is to be known of a method and its class, whatever the state: own class, its rows of words Tb -/
def sm_Own (cl : List vw_C) (Tb : List Jvm.Cond) (own : String) (Y : Nat → MethodName) (CC : Nat → ByteArray) (ML : Nat → Nat) (RT : Nat → Option FieldType) (B : sm_P) : Prop :=
  (∀ x ci k t, B.2.1.1 x = some (ci, k, t) → ∃ (C : String) (T : u_T) (N : Nat) (ty0 : Nat → FieldType), cl[ci]? = some (C, T, N) ∧ k < N ∧ (∀ w ∈ u_ws C T N, w ∈ Tb) ∧ (Jvm.Cond.fieldLink own x (T k).1 (T k).2.1 (T k).2.2.1) ∈ Tb ∧
    (∀ k, k < N → parseFieldDescriptor (T k).2.2.1 = some (ty0 k)) ∧ (∀ a, a < N → ∀ b, b < N → a ≠ b → (T a).2.1 ≠ (T b).2.1) ∧ (t = 0 → (T k).2.2.2 = false ∧ parseFieldDescriptor (T k).2.2.1 = some .int) ∧ (t = 1 → (T k).2.2.2 = false ∧ parseFieldDescriptor (T k).2.2.1 = some .long)) ∧
  (∀ x v, B.2.1.2.1 x = some v → Jvm.Cond.constant own x v ∈ Tb) ∧ (∀ x v, B.2.1.2.2.1 x = some v → Jvm.Cond.constantLong own x v ∈ Tb) ∧ (∀ x, B.2.1.2.2.2.1 x = true → Jvm.Cond.fieldLink own x "MiceRegisters" "KIND_LETTERS" "[I" ∈ Tb) ∧
  ((∀ x, B.2.1.2.2.2.2.2.2 x = some 0 → Jvm.Cond.methodLink own x Lib.Math.max.name ∈ Tb) ∧ (∀ x, B.2.1.2.2.2.2.2.2 x = some 1 → Jvm.Cond.methodLink own x Lib.Math.min.name ∈ Tb) ∧ (∀ x, B.2.1.2.2.2.2.2.2 x = some 2 → Jvm.Cond.methodLink own x Lib.Math.abs.name ∈ Tb) ∧ (∀ x, B.2.1.2.2.2.2.2.2 x = some 3 → Jvm.Cond.methodLink own x arraycopyName ∈ Tb)) ∧
  (∀ w ∈ ([.static Lib.Math.max.name, .static Lib.Math.min.name, .static Lib.Math.abs.name, .initialized "java/lang/Math", .code Lib.Math.max.name Lib.Math.max.code 2 (some .int), .code Lib.Math.min.name Lib.Math.min.code 2 (some .int), .code Lib.Math.abs.name Lib.Math.abs.code 1 (some .int), .native arraycopyName, .static arraycopyName, .initialized "java/lang/System"] : List Jvm.Cond), w ∈ Tb) ∧
  (∀ x k np ci, B.2.2.1 x = some (0, k, np, ci) → ∃ q : vw_C, cl[ci]? = some q ∧ (Y k).cls = q.1 ∧ Jvm.Cond.methodLink own x (Y k) ∈ Tb ∧ Jvm.Cond.instanceMethod (Y k) ∈ Tb ∧ Jvm.Cond.selects q.1 (Y k) (Y k) ∈ Tb ∧ Jvm.Cond.initialized q.1 ∈ Tb ∧ Jvm.Cond.code (Y k) (CC k) (ML k) (RT k) ∈ Tb ∧ ((Y k).cls ≠ "java/lang/invoke/MethodHandle" ∧ (Y k).cls ≠ "java/lang/invoke/VarHandle" ∧ (parseMethodDescriptor (Y k).desc).map (fun d => d.parameters.length) = some np) ∧ ML k ≤ 81) ∧
  (∀ x k np ci, B.2.2.1 x = some (1, k, np, ci) → (Y k).cls = own ∧ Jvm.Cond.methodLink own x (Y k) ∈ Tb ∧ Jvm.Cond.static (Y k) ∈ Tb ∧ Jvm.Cond.initialized own ∈ Tb ∧ Jvm.Cond.code (Y k) (CC k) (ML k) (RT k) ∈ Tb ∧ ((Y k).cls ≠ "java/lang/invoke/MethodHandle" ∧ (Y k).cls ≠ "java/lang/invoke/VarHandle" ∧ (parseMethodDescriptor (Y k).desc).map (fun d => d.parameters.length) = some np) ∧ ML k ≤ 81) ∧
  (∀ x k np ci, B.2.2.1 x = some (2, k, np, ci) → ∃ host, (own, x, Y k, host) ∈ sm_NS ∧ Jvm.Cond.static (Y k) ∈ Tb ∧ Jvm.Cond.initialized (Y k).cls ∈ Tb ∧ Jvm.Cond.code (Y k) (CC k) (ML k) (RT k) ∈ Tb ∧ ((Y k).cls ≠ "java/lang/invoke/MethodHandle" ∧ (Y k).cls ≠ "java/lang/invoke/VarHandle" ∧ (parseMethodDescriptor (Y k).desc).map (fun d => d.parameters.length) = some np) ∧ ML k ≤ 81)
section SMM
variable {p : Program} {l : Launch} {e : Env} {R : Room} {s : State} {m : MethodId} {args : Array Value} {below : List Frame} {meth : Method} {c : Code}
variable {cc : ByteArray} {D : va_G} {cl : List vw_C} {A : Nat → Prop} {cid : Nat → ClassId} {ad : Nat → Nat} {Tb Ts : List Jvm.Cond} {own : String} {Y : Nat → MethodName} {CC : Nat → ByteArray} {ML : Nat → Nat} {RT : Nat → Option FieldType} {B : sm_P}
theorem sm_env (O : sm_Own cl Tb own Y CC ML RT B) (hsub : ∀ w ∈ Tb, w ∈ Ts) (hts : ∀ w ∈ Ts, w.before args s = true) (hx : p.tables.exec = Jvm.exec) (hb : c.code = cc) (hown : s.vm.findClass own = some m.cls) (hml : c.maxLocals = B.2.1.2.2.2.2.2.1) (hK : va_K D cl (sm_tys cid) s)
    (hZ : va_Z "MiceRegisters" "KIND_LETTERS" "[I" (.ref (ad 999)) A s s.heap) (hT : va_T .int (ad 999) 6 (fun j => .int (sm_kl j)) A s s.heap) (hX : ∀ q, B.2.1.2.2.2.2.1 = some q → va_X (ad 998) q.1 q.2 s s.heap ∧ ad 998 < s.heap.size ∧ ¬ A (ad 998)) (hR : 1 ≤ R.frames ∧ 100 ≤ R.locals) (hN : sm_Nst s) : sm_Env p R s m args c cc own D cl cid ad Ts B.2.1 A := by
  obtain ⟨o1, o2, o3, o4, ⟨n0, n1, n2, n3⟩, o6, -⟩ := O
  have ok : ∀ w ∈ Tb, w.before args s = true := fun w hw => hts w (hsub w hw)
  have o6 : ∀ w, w ∈ ([.static Lib.Math.max.name, .static Lib.Math.min.name, .static Lib.Math.abs.name, .initialized "java/lang/Math", .code Lib.Math.max.name Lib.Math.max.code 2 (some .int), .code Lib.Math.min.name Lib.Math.min.code 2 (some .int), .code Lib.Math.abs.name Lib.Math.abs.code 1 (some .int), .native arraycopyName, .static arraycopyName, .initialized "java/lang/System"] : List Jvm.Cond) → w.before args s = true := fun w hw => ok w (o6 w hw)
  refine ⟨hx, hb, hown, hml, hK, hts, ?_, fun x v h => ok _ (o2 x v h), fun x v h => ok _ (o3 x v h), fun x h => ok _ (o4 x h), hZ, hT, hX, ⟨fun x h => ⟨ok _ (n0 x h), o6 _ (by simp), o6 _ (by simp), o6 _ (by simp)⟩, fun x h => ⟨ok _ (n1 x h), o6 _ (by simp), o6 _ (by simp), o6 _ (by simp)⟩, fun x h => ⟨ok _ (n2 x h), o6 _ (by simp), o6 _ (by simp), o6 _ (by simp)⟩, fun x h => ⟨ok _ (n3 x h), o6 _ (by simp), o6 _ (by simp), o6 _ (by simp)⟩⟩, hR.1, hR.2, hN⟩
  intro x ci k t h
  obtain ⟨C, T, N, ty0, h1, h2, h3, h4, h5⟩ := o1 x ci k t h
  exact ⟨C, T, N, ty0, h1, h2, fun w hw => hsub w (h3 w hw), ok _ h4, h5⟩
/-- a method's words: its own code, and the table -/
abbrev sm_ws (Tb : List Jvm.Cond) (Y : Nat → MethodName) (CC : Nat → ByteArray) (ML : Nat → Nat) (RT : Nat → Option FieldType) (k : Nat) : List Jvm.Cond := .code (Y k) (CC k) (ML k) (RT k) :: Tb
theorem sm_good (hg : Tb.all goodWord = true) (hsub : ∀ w ∈ Tb, w ∈ Ts) {ws : List Jvm.Cond} (h : ∀ w ∈ ws, w ∈ Tb) : GoodIn Ts ws := fun w hw => ⟨hsub w (h w hw), good_of_word (List.all_eq_true.mp hg w (h w hw))⟩
theorem sm_cok (O : sm_Own cl Tb own Y CC ML RT B) (hg : Tb.all goodWord = true) (hsub : ∀ w ∈ Tb, w ∈ Ts) (hts : ∀ w ∈ Ts, w.before args s = true) (hN : sm_Nst s) {d : Nat} (hR : d + 1 ≤ R.frames ∧ 100 * d + 100 ≤ R.locals) : sm_Cok R s args cl own Y CC ML RT (sm_ws Tb Y CC ML RT) (sm_rm d) B.2.2.1 := by
  obtain ⟨-, -, -, -, -, -, v0, v1, v2⟩ := O
  refine ⟨fun x k np ci h => ?_, fun x k np ci h => ?_, fun x k np ci h => ?_⟩
  · obtain ⟨q, h1, h2, h3, h4, h5, h6, h7, h8, h9⟩ := v0 x k np ci h
    refine ⟨q, h1, cwV np hts (sm_good hg hsub ?_) rfl rfl rfl ⟨h2, h8⟩ ⟨hR.1, ?_⟩⟩
    · intro w hw
      simp only [wsV, List.cons_append, List.nil_append, List.mem_cons] at hw
      rcases hw with rfl | rfl | rfl | rfl | rfl | hw <;> assumption
    · show 8 + (ML k + 11) + 100 * d ≤ R.locals
      omega
  · obtain ⟨h2, h3, h4, h6, h7, h8, h9⟩ := v1 x k np ci h
    refine cwS np hts (sm_good hg hsub ?_) rfl rfl rfl ⟨h2, h8⟩ ⟨hR.1, ?_⟩
    · intro w hw
      simp only [wsS, List.cons_append, List.nil_append, List.mem_cons] at hw
      rcases hw with rfl | rfl | rfl | rfl | hw <;> assumption
    · show 8 + (ML k + 11) + 100 * d ≤ R.locals
      omega
  · obtain ⟨host, h3, h4, h6, h7, h8, h9⟩ := v2 x k np ci h
    refine ⟨host, va_cnB np hts (sm_good hg hsub ?_) rfl rfl rfl (hN _ h3) (hts _ (hsub _ h6)) h8 ⟨hR.1, ?_⟩, hts _ (hsub _ h4), trivial⟩
    · intro w hw
      simp only [List.mem_cons] at hw
      rcases hw with rfl | hw <;> assumption
    · show 8 + (ML k + 11) + 100 * d ≤ R.locals
      omega
set_option maxHeartbeats 4000000 in
theorem sm_met {X : sm_X} {k d f : Nat} {vs : List Value} {h h' : List va_E} {o : Option Value} (hy : plainName (Y k).cls = true) (O : sm_Own cl Tb (Y k).cls Y CC ML RT B) (hg : Tb.all goodWord = true) (hB : ∀ pc i n, B.1 pc = some (i, n) → decode (CC k) pc = .ok (i, n)) (hnL : B.2.1.2.2.2.2.2.1 = ML k) (hsc : B.2.1.2.2.2.2.1 = none) (hrt : B.2.2.2 = RT k)
    (hX : ∀ k vs h o h', X k vs h o h' → sm_C l D cl cid ad (Y k) (sm_ws Tb Y CC ML RT k) (sm_rm d) vs h o h') (hlen : (lg_sl vs).length ≤ ML k) (hr : sm_rn B X f 0 (lv_args 0 vs) [] h o h') : sm_C l D cl cid ad (Y k) (sm_ws Tb Y CC ML RT k) (sm_rm (d + 1)) vs h o h' := by
  intro sz
  refine Met.ofW (cc := CC k) (maxL := ML k) (ret := RT k) hy rfl ?_
  intro p e s m args below meth c s₁ Bd hml hv
  obtain ⟨rfl, hsz, hP, hK, hD0, hZ, hT, hN⟩ := hv
  have hx := Bd.exec
  have hb := Bd.bytes
  have hrr := Bd.returns
  have hts := atoms_spec (ws := sm_ws Tb Y CC ML RT k) Bd.pre
  have hown : s.vm.findClass (Y k).cls = some m.cls := findClass_of_methodNamed Bd.named
  have hlocks := Bd.notSynchronized
  subst hsz
  have hD := hD0.self (sz := s.heap.size)
  generalize hAe : va_A (sm_w cid ad h) s.heap.size = A at hD hZ hT ⊢
  have hA : ∀ q : Nat, s.heap.size ≤ q → A q := fun q h => by rw [← hAe]; exact Or.inr h
  have hS : va_S A s.heap s.heap [] := va_S.rf
  have hl := lv_entry (vs.map (sm_v ad)) (n := ML k) (by rw [sm_sl_len]; exact hlen)
  rw [lg_entry_eq]
  generalize (lg_sl (vs.map (sm_v ad)) ++ List.replicate (ML k - (lg_sl (vs.map (sm_v ad))).length) Slot.unset).toArray = ls at hl ⊢
  rw [← sm_args_lv] at hl
  have E := sm_env (p := p) (R := (headSpec (sm_ws Tb Y CC ML RT k) (sm_rm (d + 1))).room) (A := A) (cid := cid) (ad := ad) (D := D) O (Ts := sm_ws Tb Y CC ML RT k) (fun w hw => List.mem_cons_of_mem _ hw) hts hx hb hown (by rw [hnL]; exact hml) hK hZ hT (fun q hq => by rw [hsc] at hq; cases hq) ⟨by show 1 ≤ d + 1; omega, by show 100 ≤ 100 * (d + 1); omega⟩ hN
  refine sm_sims (B := B) (X := X) (f := f) (o := o) (h' := h') E ⟨Nat.le_refl _, Nat.le_refl _⟩ hA hB (sm_cok O hg (fun w hw => List.mem_cons_of_mem _ hw) hts hN (d := d) ⟨by show d + 1 ≤ d + 1; omega, by show 100 * d + 100 ≤ 100 * (d + 1); omega⟩) hX ?_ 0 (lv_args 0 vs) [] h ls s.heap [] hr (by rw [hnL]; exact hl) hP hD hS
  intro pc i n st ls H locs hd hret hP hD hS
  obtain ⟨rfl, hret⟩ := hret
  rcases hret with ⟨rfl, v, rfl, rfl, hv⟩ | ⟨rfl, v, rfl, rfl, hv⟩ | ⟨rfl, rfl, rfl, hv⟩
  · rcases hv with hv | ⟨hv, h01⟩
    · rw [hrt] at hv
      exact W.iret hx hb (hrr.trans hv) (fun t ht hW => by unfold sm_Out; rw [hAe]; exact ⟨⟨rfl, by rw [ht]; exact hP, hD⟩, hS.F ht⟩) hS.2.2 hd
    · rw [hrt] at hv
      exact W.zret (ty := .boolean) hx hb (hrr.trans hv) (by rcases h01 with rfl | rfl <;> rfl) (fun t ht hW => by unfold sm_Out; rw [hAe]; exact ⟨⟨rfl, by rw [ht]; exact hP, hD⟩, hS.F ht⟩) hS.2.2 hd
  · rw [hrt] at hv
    exact W.lret hx hb (hrr.trans hv) (fun t ht hW => by unfold sm_Out; rw [hAe]; exact ⟨⟨rfl, by rw [ht]; exact hP, hD⟩, hS.F ht⟩) hS.2.2 hd
  · rw [hrt] at hv
    exact W.vret hx hb (hrr.trans hv) (fun t ht hW => by unfold sm_Out; rw [hAe]; exact ⟨⟨rfl, by rw [ht]; exact hP, hD⟩, hS.F ht⟩) hS.2.2 hd
end SMM
/-- runs of methods, calls d deep at most -/
def sm_Ex (NM : Nat) (ML : Nat → Nat) (B : Nat → sm_P) : Nat → sm_X
  | 0 => fun _ _ _ _ _ => False
  | d + 1 => fun k vs h o h' => k < NM ∧ (lg_sl vs).length ≤ ML k ∧ ∃ f, sm_rn (B k) (sm_Ex NM ML B d) f 0 (lv_args 0 vs) [] h o h'
theorem sm_all {l : Launch} {D : va_G} {cl : List vw_C} {cid : Nat → ClassId} {ad : Nat → Nat} {Tb : List Jvm.Cond} {Y : Nat → MethodName} {CC : Nat → ByteArray} {ML : Nat → Nat} {RT : Nat → Option FieldType} {NM : Nat} {B : Nat → sm_P} (hg : Tb.all goodWord = true)
    (hM : ∀ k, k < NM → plainName (Y k).cls = true ∧ sm_Own cl Tb (Y k).cls Y CC ML RT (B k) ∧ (∀ pc i n, (B k).1 pc = some (i, n) → decode (CC k) pc = .ok (i, n)) ∧ (B k).2.1.2.2.2.2.2.1 = ML k ∧ (B k).2.1.2.2.2.2.1 = none ∧ (B k).2.2.2 = RT k) :
    ∀ (d k : Nat) (vs : List Value) (h : List va_E) (o : Option Value) (h' : List va_E), sm_Ex NM ML B d k vs h o h' → sm_C l D cl cid ad (Y k) (sm_ws Tb Y CC ML RT k) (sm_rm d) vs h o h' := by
  intro d
  induction d with
  | zero => intro k vs h o h' hx; exact hx.elim
  | succ d ih =>
    intro k vs h o h' hx
    obtain ⟨hk, hlen, f, hr⟩ := hx
    obtain ⟨h1, h2, h3, h4, h5, h6⟩ := hM k hk
    exact sm_met h1 h2 hg h3 h4 h5 h6 ih hlen hr
