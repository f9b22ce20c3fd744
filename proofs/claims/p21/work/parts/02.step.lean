theorem sm_if {α : Type} {q : Prop} [Decidable q] {x : Option α} {z : α} (h : (if q then x else none) = some z) : q ∧ x = some z := by
  by_cases hq : q
  · rw [if_pos hq] at h
    exact ⟨hq, h⟩
  · rw [if_neg hq] at h
    cases h
theorem sm_ifn {α : Type} {q : Prop} [Decidable q] {x : Option α} {z : α} (h : (if q then none else x) = some z) : ¬ q ∧ x = some z := by
  by_cases hq : q
  · rw [if_pos hq] at h
    cases h
  · rw [if_neg hq] at h
    exact ⟨hq, h⟩
theorem sm_bd {α β : Type} {o : Option α} {f : α → Option β} {z : β} (h : o.bind f = some z) : ∃ a, o = some a ∧ f a = some z := by
  cases o with
  | none => cases h
  | some a => exact ⟨a, rfl, h⟩
abbrev sm_tys (cid : Nat → ClassId) : List (ClassId × FieldType) := [(cid 0, .int), (cid 1, .byte), (cid 2, .array .int), (cid 3, .array .byte), (cid 4, .object "MiceRegisters$Deeds")]
/-- a field's place is what the class' rows say -/
def sm_Fok (cl : List vw_C) (Ts : List Jvm.Cond) (own : String) (args : Array Value) (s : State) (F : Nat → Option (Nat × Nat × Nat)) : Prop :=
  ∀ x ci k t, F x = some (ci, k, t) → ∃ (C : String) (T : u_T) (N : Nat) (ty0 : Nat → FieldType), cl[ci]? = some (C, T, N) ∧ k < N ∧ (∀ w ∈ u_ws C T N, w ∈ Ts) ∧ (Jvm.Cond.fieldLink own x (T k).1 (T k).2.1 (T k).2.2.1).before args s = true ∧
    (∀ k, k < N → parseFieldDescriptor (T k).2.2.1 = some (ty0 k)) ∧ (∀ a, a < N → ∀ b, b < N → a ≠ b → (T a).2.1 ≠ (T b).2.1) ∧ (t = 0 → (T k).2.2.2 = false ∧ parseFieldDescriptor (T k).2.2.1 = some .int) ∧ (t = 1 → (T k).2.2.2 = false ∧ parseFieldDescriptor (T k).2.2.1 = some .long)
/-- Math's and System's own -/
def sm_Nok (own : String) (args : Array Value) (s : State) (F : Nat → Option Nat) : Prop :=
  (∀ x, F x = some 0 → (Jvm.Cond.methodLink own x Lib.Math.max.name).before args s = true ∧ (Jvm.Cond.static Lib.Math.max.name).before args s = true ∧ (Jvm.Cond.initialized "java/lang/Math").before args s = true ∧ (Jvm.Cond.code Lib.Math.max.name Lib.Math.max.code 2 (some .int)).before args s = true) ∧
  (∀ x, F x = some 1 → (Jvm.Cond.methodLink own x Lib.Math.min.name).before args s = true ∧ (Jvm.Cond.static Lib.Math.min.name).before args s = true ∧ (Jvm.Cond.initialized "java/lang/Math").before args s = true ∧ (Jvm.Cond.code Lib.Math.min.name Lib.Math.min.code 2 (some .int)).before args s = true) ∧
  (∀ x, F x = some 2 → (Jvm.Cond.methodLink own x Lib.Math.abs.name).before args s = true ∧ (Jvm.Cond.static Lib.Math.abs.name).before args s = true ∧ (Jvm.Cond.initialized "java/lang/Math").before args s = true ∧ (Jvm.Cond.code Lib.Math.abs.name Lib.Math.abs.code 1 (some .int)).before args s = true) ∧
  (∀ x, F x = some 3 → (Jvm.Cond.methodLink own x arraycopyName).before args s = true ∧ (Jvm.Cond.native arraycopyName).before args s = true ∧ (Jvm.Cond.static arraycopyName).before args s = true ∧ (Jvm.Cond.initialized "java/lang/System").before args s = true)
/-- the three calls of a nest mate's own -/
def sm_NS : List (String × Nat × MethodName × String) := [("MiceRegisters$Register", 78, ⟨"MiceRegisters", "liking", "(IIII)I"⟩, "MiceRegisters"), ("MiceRegisters$Register", 65, ⟨"MiceRegisters", "eatenInAYear", "(II)I"⟩, "MiceRegisters"), ("MiceRegisters$Register", 85, ⟨"MiceRegisters", "isOfKind", "(II)Z"⟩, "MiceRegisters")]
def sm_Nst (U : State) : Prop := ∀ q ∈ sm_NS, va_Nw (.methodLinkNest q.1 q.2.1 q.2.2.1 q.2.2.2) U
theorem sm_Nst.same {u U : State} (h : u.vm = U.vm) (hN : sm_Nst u) : sm_Nst U := fun q hq => va_Nw.same rfl h (hN q hq)
theorem sm_Nst.warm {u U : State} (h : u.WarmedH U.vm) (hN : sm_Nst u) : sm_Nst U := fun q hq => va_Nw.warmM h (hN q hq)
/-- all that a method's walk takes as given at its entry -/
def sm_Env (p : Program) (R : Room) (s : State) (m : MethodId) (args : Array Value) (c : Code) (cc : ByteArray) (own : String) (D : va_G) (cl : List vw_C) (cid : Nat → ClassId) (ad : Nat → Nat) (Ts : List Jvm.Cond) (K : sm_K) (A : Nat → Prop) : Prop :=
  p.tables.exec = Jvm.exec ∧ c.code = cc ∧ s.vm.findClass own = some m.cls ∧ c.maxLocals = K.2.2.2.2.2.1 ∧ va_K D cl (sm_tys cid) s ∧ (∀ w ∈ Ts, w.before args s = true) ∧ sm_Fok cl Ts own args s K.1 ∧
  (∀ x v, K.2.1 x = some v → (Jvm.Cond.constant own x v).before args s = true) ∧ (∀ x v, K.2.2.1 x = some v → (Jvm.Cond.constantLong own x v).before args s = true) ∧
  (∀ x, K.2.2.2.1 x = true → (Jvm.Cond.fieldLink own x "MiceRegisters" "KIND_LETTERS" "[I").before args s = true) ∧
  va_Z "MiceRegisters" "KIND_LETTERS" "[I" (.ref (ad 999)) A s s.heap ∧ va_T .int (ad 999) 6 (fun j => .int (sm_kl j)) A s s.heap ∧
  (∀ q, K.2.2.2.2.1 = some q → va_X (ad 998) q.1 q.2 s s.heap ∧ ad 998 < s.heap.size ∧ ¬ A (ad 998)) ∧ sm_Nok own args s K.2.2.2.2.2.2 ∧ 1 ≤ R.frames ∧ 100 ≤ R.locals ∧ sm_Nst s
section SM
variable {p : Program} {l : Launch} {e : Env} {R : Room} {s : State} {m : MethodId} {args : Array Value} {below : List Frame} {meth : Method} {c : Code} {H : Heap} {locs : List Loc} {cells slots : Nat} {Q : State → Prop}
variable {cc : ByteArray} {pc : Nat} {ls : Array Slot} {D : va_G} {cl : List vw_C} {A : Nat → Prop} {tys : List (ClassId × FieldType)} {ws : va_W} {H0 : Heap}
theorem sm_aald {rest : List Value} {a : Nat} (hexec : p.tables.exec = Jvm.exec) (hb : c.code = cc) (hK : va_K D cl tys s) (hP : va_P D cl ws H) (q0 t0 : Nat) {cA : ClassId} {ty : FieldType} (hty : ty.isReference = true) {n : Nat} {f : Nat → Option Nat} (ha : ws[q0]? = some (a, .inl (cA, n, .inr (.inr (.inr (.inr f)))))) (ht : tys[t0]? = some (cA, ty)) {i : Int32} (hin : vp_in i n) (hdg : decode cc pc = .ok (.aaload, 1))
    (kk : W p l e R s m args below meth c H locs cells slots Q (F0 m (pc + 1) ls (va_rf (f i.toNatClampNeg) :: rest))) : W p l e R s m args below meth c H locs cells slots Q (F0 m pc ls (.int i :: .ref a :: rest)) := by
  have hlt : i.toNatClampNeg < n := Nat.not_le.mp fun q => hin (Or.inr q)
  exact W.aald (v := va_rf (f i.toNatClampNeg)) (ty := ty) hexec hb (hP q0 _ ha) ((hK.2 t0 _ ht).1 n (fun j => va_rf (f j))) hty (fun q => by cases q) (by show ¬ (i < 0 ∨ (arrV _ _ _).slots.size ≤ _); rw [arrV_size]; exact hin) (by show (arrV _ _ _).slots[_]? = _; rw [arrV_read _ _ hlt]) rfl rfl hdg kk
theorem sm_cat_map (ad : Nat → Nat) (r : List Value) : ((r.map (sm_v ad)).map fun v => v.category).sum = (r.map fun v => v.category).sum := by
  rw [List.map_map]
  congr 1
  apply List.map_congr_left
  intro v _
  exact sm_v_cat ad v
set_option maxHeartbeats 4000000 in
theorem sm_sim {own : String} {cid : Nat → ClassId} {ad : Nat → Nat} {Ts : List Jvm.Cond} {K : sm_K} (E : sm_Env p R s m args c cc own D cl cid ad Ts K A) (hcl : cells ≤ R.cells ∧ slots ≤ R.slots)
    {i : Instr} {n : Nat} {lv lv' : sm_L} {st st' : List Value} {h h' : List va_E} {pc' : Nat} (hd : decode cc pc = .ok (i, n)) (hs : sm_step K i n pc lv st h = some (pc', lv', st', h'))
    (hl : lv_has ls K.2.2.2.2.2.1 (sm_lv ad lv)) (hP : va_P D cl (sm_w cid ad h) H) (hD : va_D A (sm_w cid ad h)) (hS : va_S A s.heap H locs)
    (kk : ∀ (ls' : Array Slot) (H' : Heap) (locs' : List Loc), lv_has ls' K.2.2.2.2.2.1 (sm_lv ad lv') → va_P D cl (sm_w cid ad h') H' → va_D A (sm_w cid ad h') → va_S A s.heap H' locs' → W p l e R s m args below meth c H' locs' cells slots Q (F0 m pc' ls' (st'.map (sm_v ad)))) :
    W p l e R s m args below meth c H locs cells slots Q (F0 m pc ls (st.map (sm_v ad))) := by
  obtain ⟨hx, hb, hown, hml, hK, hts, hF, hcI, hcL, hstat, hZ, hT, hX, hN, hRf, hRl, -⟩ := E
  have hmls : c.maxLocals = ls.size := by rw [hml]; exact hl.1.symm
  cases i with
  | iconst v =>
    have hs9 := sm_if hs
    clear hs
    obtain ⟨rfl, hs⟩ := hs9
    cases hs
    exact lv_iconst hx hb hd rfl (kk ls H locs hl hP hD hS)
  | bipush v =>
    have hs9 := sm_if hs
    clear hs
    obtain ⟨rfl, hs⟩ := hs9
    cases hs
    exact lv_bipush hx hb hd rfl (kk ls H locs hl hP hD hS)
  | sipush v =>
    have hs9 := sm_if hs
    clear hs
    obtain ⟨rfl, hs⟩ := hs9
    cases hs
    exact lv_sipush hx hb hd rfl (kk ls H locs hl hP hD hS)
  | lconst v =>
    have hs9 := sm_if hs
    clear hs
    obtain ⟨rfl, hs⟩ := hs9
    cases hs
    exact lv_lconst hx hb hd rfl (kk ls H locs hl hP hD hS)
  | ldc x =>
    have hs9 := sm_if hs
    clear hs
    obtain ⟨rfl, hs⟩ := hs9
    have hs9 := sm_bd hs
    clear hs
    obtain ⟨v, hv, hs⟩ := hs9
    cases hs
    exact lv_ldc hx hb hown (hcI _ _ hv) hd (kk ls H locs hl hP hD hS)
  | ldc_w x =>
    have hs9 := sm_if hs
    clear hs
    obtain ⟨rfl, hs⟩ := hs9
    have hs9 := sm_bd hs
    clear hs
    obtain ⟨v, hv, hs⟩ := hs9
    cases hs
    exact lv_ldcw hx hb hown (hcI _ _ hv) hd (kk ls H locs hl hP hD hS)
  | ldc2_w x =>
    have hs9 := sm_if hs
    clear hs
    obtain ⟨rfl, hs⟩ := hs9
    have hs9 := sm_bd hs
    clear hs
    obtain ⟨v, hv, hs⟩ := hs9
    cases hs
    exact lv_ldc2 hx hb hown (hcL _ _ hv) hd (kk ls H locs hl hP hD hS)
  | iload_n k =>
    have hs9 := sm_if hs
    clear hs
    obtain ⟨rfl, hs⟩ := hs9
    have hs9 := sm_bd hs
    clear hs
    obtain ⟨v, hv, hs⟩ := hs9
    have hs9 := sm_i1_s hs
    clear hs
    obtain ⟨x, r, he, hs⟩ := hs9
    cases he
    cases hs
    exact lv_iload_n hx hb hd rfl (sm_get_at hl hv) (kk ls H locs hl hP hD hS)
  | iload k =>
    have hs9 := sm_if hs
    clear hs
    obtain ⟨rfl, hs⟩ := hs9
    have hs9 := sm_bd hs
    clear hs
    obtain ⟨v, hv, hs⟩ := hs9
    have hs9 := sm_i1_s hs
    clear hs
    obtain ⟨x, r, he, hs⟩ := hs9
    cases he
    cases hs
    exact lv_iload hx hb hd (sm_get_at hl hv) (kk ls H locs hl hP hD hS)
  | lload_n k =>
    have hs9 := sm_if hs
    clear hs
    obtain ⟨rfl, hs⟩ := hs9
    have hs9 := sm_bd hs
    clear hs
    obtain ⟨v, hv, hs⟩ := hs9
    have hs9 := sm_l1_s hs
    clear hs
    obtain ⟨x, r, he, hs⟩ := hs9
    cases he
    cases hs
    exact lv_lload_n hx hb hd rfl (sm_get_at hl hv) (kk ls H locs hl hP hD hS)
  | lload k =>
    have hs9 := sm_if hs
    clear hs
    obtain ⟨rfl, hs⟩ := hs9
    have hs9 := sm_bd hs
    clear hs
    obtain ⟨v, hv, hs⟩ := hs9
    have hs9 := sm_l1_s hs
    clear hs
    obtain ⟨x, r, he, hs⟩ := hs9
    cases he
    cases hs
    exact lv_lload hx hb hd (sm_get_at hl hv) (kk ls H locs hl hP hD hS)
  | aload_n k =>
    have hs9 := sm_if hs
    clear hs
    obtain ⟨rfl, hs⟩ := hs9
    have hs9 := sm_bd hs
    clear hs
    obtain ⟨v, hv, hs⟩ := hs9
    have hs9 := sm_r1_s hs
    clear hs
    obtain ⟨x, r, he, hs⟩ := hs9
    cases he
    cases hs
    exact lv_aload_n hx hb hd rfl (sm_get_at hl hv) (kk ls H locs hl hP hD hS)
  | aload k =>
    have hs9 := sm_if hs
    clear hs
    obtain ⟨rfl, hs⟩ := hs9
    have hs9 := sm_bd hs
    clear hs
    obtain ⟨v, hv, hs⟩ := hs9
    have hs9 := sm_r1_s hs
    clear hs
    obtain ⟨x, r, he, hs⟩ := hs9
    cases he
    cases hs
    exact lv_aload hx hb hd (sm_get_at hl hv) (kk ls H locs hl hP hD hS)
  | istore_n k =>
    have hs9 := sm_if hs
    clear hs
    obtain ⟨⟨rfl, hk⟩, hs⟩ := hs9
    have hs9 := sm_i1_s hs
    clear hs
    obtain ⟨x, r, rfl, hs⟩ := hs9
    cases hs
    exact lv_istore_n hx hb hd rfl hl hk (sm_put1_lv ad lv k (.int x)) (fun ls' hl' => kk ls' H locs hl' hP hD hS)
  | istore k =>
    have hs9 := sm_if hs
    clear hs
    obtain ⟨⟨rfl, hk⟩, hs⟩ := hs9
    have hs9 := sm_i1_s hs
    clear hs
    obtain ⟨x, r, rfl, hs⟩ := hs9
    cases hs
    exact lv_istore hx hb hd hl hk (sm_put1_lv ad lv k (.int x)) (fun ls' hl' => kk ls' H locs hl' hP hD hS)
  | lstore_n k =>
    have hs9 := sm_if hs
    clear hs
    obtain ⟨⟨rfl, hk⟩, hs⟩ := hs9
    have hs9 := sm_l1_s hs
    clear hs
    obtain ⟨x, r, rfl, hs⟩ := hs9
    cases hs
    exact lv_lstore_n hx hb hd rfl hl hk (sm_put2_lv ad lv k (.long x)) (fun ls' hl' => kk ls' H locs hl' hP hD hS)
  | lstore k =>
    have hs9 := sm_if hs
    clear hs
    obtain ⟨⟨rfl, hk⟩, hs⟩ := hs9
    have hs9 := sm_l1_s hs
    clear hs
    obtain ⟨x, r, rfl, hs⟩ := hs9
    cases hs
    exact lv_lstore hx hb hd hl hk (sm_put2_lv ad lv k (.long x)) (fun ls' hl' => kk ls' H locs hl' hP hD hS)
  | astore_n k =>
    have hs9 := sm_if hs
    clear hs
    obtain ⟨⟨rfl, hk⟩, hs⟩ := hs9
    have hs9 := sm_r1_s hs
    clear hs
    obtain ⟨x, r, rfl, hs⟩ := hs9
    cases hs
    exact lv_astore_n hx hb hd rfl hl hk (sm_put1_lv ad lv k (.ref x)) (fun ls' hl' => kk ls' H locs hl' hP hD hS)
  | astore k =>
    have hs9 := sm_if hs
    clear hs
    obtain ⟨⟨rfl, hk⟩, hs⟩ := hs9
    have hs9 := sm_r1_s hs
    clear hs
    obtain ⟨x, r, rfl, hs⟩ := hs9
    cases hs
    exact lv_astore hx hb hd hl hk (sm_put1_lv ad lv k (.ref x)) (fun ls' hl' => kk ls' H locs hl' hP hD hS)
  | iinc k v =>
    have hs9 := sm_if hs
    clear hs
    obtain ⟨⟨rfl, hk⟩, hs⟩ := hs9
    have hs9 := sm_bd hs
    clear hs
    obtain ⟨w, hv, hs⟩ := hs9
    have hs9 := sm_i1_s hs
    clear hs
    obtain ⟨x, r, he, hs⟩ := hs9
    cases he
    cases hs
    obtain ⟨j, hj⟩ := List.getElem?_of_mem (List.mem_map.mpr ⟨_, sm_get_mem hv, rfl⟩ : (k, sm_v ad (.int x)) ∈ sm_lv ad lv)
    exact lv_iinc hx hb hd hl (k := j) hj rfl hk (sm_put1_lv ad lv k (.int (x + Int32.ofInt v))) (fun ls' hl' => kk ls' H locs hl' hP hD hS)
  | iadd =>
    have hs9 := sm_if hs
    clear hs
    obtain ⟨rfl, hs⟩ := hs9
    have hs9 := sm_i2_s hs
    clear hs
    obtain ⟨x, y, r, rfl, hs⟩ := hs9
    cases hs
    exact lv_iadd hx hb hd (kk ls H locs hl hP hD hS)
  | isub =>
    have hs9 := sm_if hs
    clear hs
    obtain ⟨rfl, hs⟩ := hs9
    have hs9 := sm_i2_s hs
    clear hs
    obtain ⟨x, y, r, rfl, hs⟩ := hs9
    cases hs
    exact lv_isub hx hb hd (kk ls H locs hl hP hD hS)
  | imul =>
    have hs9 := sm_if hs
    clear hs
    obtain ⟨rfl, hs⟩ := hs9
    have hs9 := sm_i2_s hs
    clear hs
    obtain ⟨x, y, r, rfl, hs⟩ := hs9
    cases hs
    exact lv_imul hx hb hd (kk ls H locs hl hP hD hS)
  | iand =>
    have hs9 := sm_if hs
    clear hs
    obtain ⟨rfl, hs⟩ := hs9
    have hs9 := sm_i2_s hs
    clear hs
    obtain ⟨x, y, r, rfl, hs⟩ := hs9
    cases hs
    exact lv_iand hx hb hd (kk ls H locs hl hP hD hS)
  | ior =>
    have hs9 := sm_if hs
    clear hs
    obtain ⟨rfl, hs⟩ := hs9
    have hs9 := sm_i2_s hs
    clear hs
    obtain ⟨x, y, r, rfl, hs⟩ := hs9
    cases hs
    exact lv_ior hx hb hd (kk ls H locs hl hP hD hS)
  | ishl =>
    have hs9 := sm_if hs
    clear hs
    obtain ⟨rfl, hs⟩ := hs9
    have hs9 := sm_i2_s hs
    clear hs
    obtain ⟨x, y, r, rfl, hs⟩ := hs9
    cases hs
    exact lv_ishl hx hb hd (kk ls H locs hl hP hD hS)
  | ishr =>
    have hs9 := sm_if hs
    clear hs
    obtain ⟨rfl, hs⟩ := hs9
    have hs9 := sm_i2_s hs
    clear hs
    obtain ⟨x, y, r, rfl, hs⟩ := hs9
    cases hs
    exact lv_ishr hx hb hd (kk ls H locs hl hP hD hS)
  | ixor =>
    have hs9 := sm_if hs
    clear hs
    obtain ⟨rfl, hs⟩ := hs9
    have hs9 := sm_i2_s hs
    clear hs
    obtain ⟨x, y, r, rfl, hs⟩ := hs9
    cases hs
    exact lv_ixor hx hb hd (kk ls H locs hl hP hD hS)
  | idiv =>
    have hs9 := sm_if hs
    clear hs
    obtain ⟨rfl, hs⟩ := hs9
    have hs9 := sm_i2_s hs
    clear hs
    obtain ⟨x, y, r, rfl, hs⟩ := hs9
    have hs9 := sm_ifn hs
    clear hs
    obtain ⟨hy, hs⟩ := hs9
    cases hs
    exact lv_idiv hx hb hd hy (kk ls H locs hl hP hD hS)
  | irem =>
    have hs9 := sm_if hs
    clear hs
    obtain ⟨rfl, hs⟩ := hs9
    have hs9 := sm_i2_s hs
    clear hs
    obtain ⟨x, y, r, rfl, hs⟩ := hs9
    have hs9 := sm_ifn hs
    clear hs
    obtain ⟨hy, hs⟩ := hs9
    cases hs
    exact lv_irem hx hb hd hy (kk ls H locs hl hP hD hS)
  | ineg =>
    have hs9 := sm_if hs
    clear hs
    obtain ⟨rfl, hs⟩ := hs9
    have hs9 := sm_i1_s hs
    clear hs
    obtain ⟨x, r, rfl, hs⟩ := hs9
    cases hs
    exact lv_ineg hx hb hd (kk ls H locs hl hP hD hS)
  | ladd =>
    have hs9 := sm_if hs
    clear hs
    obtain ⟨rfl, hs⟩ := hs9
    have hs9 := sm_l2_s hs
    clear hs
    obtain ⟨x, y, r, rfl, hs⟩ := hs9
    cases hs
    exact lv_ladd hx hb hd (kk ls H locs hl hP hD hS)
  | lmul =>
    have hs9 := sm_if hs
    clear hs
    obtain ⟨rfl, hs⟩ := hs9
    have hs9 := sm_l2_s hs
    clear hs
    obtain ⟨x, y, r, rfl, hs⟩ := hs9
    cases hs
    exact lv_lmul hx hb hd (kk ls H locs hl hP hD hS)
  | ldiv =>
    have hs9 := sm_if hs
    clear hs
    obtain ⟨rfl, hs⟩ := hs9
    have hs9 := sm_l2_s hs
    clear hs
    obtain ⟨x, y, r, rfl, hs⟩ := hs9
    have hs9 := sm_ifn hs
    clear hs
    obtain ⟨hy, hs⟩ := hs9
    cases hs
    exact lv_ldiv hx hb hd hy (kk ls H locs hl hP hD hS)
  | lrem =>
    have hs9 := sm_if hs
    clear hs
    obtain ⟨rfl, hs⟩ := hs9
    have hs9 := sm_l2_s hs
    clear hs
    obtain ⟨x, y, r, rfl, hs⟩ := hs9
    have hs9 := sm_ifn hs
    clear hs
    obtain ⟨hy, hs⟩ := hs9
    cases hs
    exact lv_lrem hx hb hd hy (kk ls H locs hl hP hD hS)
  | lcmp =>
    have hs9 := sm_if hs
    clear hs
    obtain ⟨rfl, hs⟩ := hs9
    have hs9 := sm_l2_s hs
    clear hs
    obtain ⟨x, y, r, rfl, hs⟩ := hs9
    cases hs
    exact W.lcmp hx hb hd (kk ls H locs hl hP hD hS)
  | i2l =>
    have hs9 := sm_if hs
    clear hs
    obtain ⟨rfl, hs⟩ := hs9
    have hs9 := sm_i1_s hs
    clear hs
    obtain ⟨x, r, rfl, hs⟩ := hs9
    cases hs
    exact lv_i2l hx hb hd rfl (kk ls H locs hl hP hD hS)
  | l2i =>
    have hs9 := sm_if hs
    clear hs
    obtain ⟨rfl, hs⟩ := hs9
    have hs9 := sm_l1_s hs
    clear hs
    obtain ⟨x, r, rfl, hs⟩ := hs9
    cases hs
    exact lv_l2i hx hb hd rfl (kk ls H locs hl hP hD hS)
  | i2b =>
    have hs9 := sm_if hs
    clear hs
    obtain ⟨rfl, hs⟩ := hs9
    have hs9 := sm_i1_s hs
    clear hs
    obtain ⟨x, r, rfl, hs⟩ := hs9
    cases hs
    exact lv_i2b hx hb hd rfl (kk ls H locs hl hP hD hS)
  | goto off =>
    have hs9 := sm_if hs
    clear hs
    obtain ⟨rfl, hs⟩ := hs9
    have hs9 := sm_bd hs
    clear hs
    obtain ⟨t, ht, hs⟩ := hs9
    cases hs
    exact lv_goto hx hb hd (sm_j_s ht) (kk ls H locs hl hP hD hS)
  | ifCond q off =>
    have hs9 := sm_if hs
    clear hs
    obtain ⟨rfl, hs⟩ := hs9
    have hs9 := sm_bd hs
    clear hs
    obtain ⟨t, ht, hs⟩ := hs9
    have hs9 := sm_i1_s hs
    clear hs
    obtain ⟨x, r, rfl, hs⟩ := hs9
    cases hs
    have ht := sm_j_s ht
    have kw := kk ls H locs hl hP hD hS
    have kt : sm_cmp q x 0 = true → W p l e R s m args below meth c H locs cells slots Q (F0 m t ls (st'.map (sm_v ad))) := fun z => by rw [if_pos z] at kw; exact kw
    have kf : ¬ sm_cmp q x 0 = true → W p l e R s m args below meth c H locs cells slots Q (F0 m (pc + 3) ls (st'.map (sm_v ad))) := fun z => by rw [if_neg z] at kw; exact kw
    cases q with
    | eq => exact lv_if_eq hx hb hd ht (fun z => kt (decide_eq_true z)) (fun z => kf (fun y => z (of_decide_eq_true y)))
    | ne => exact lv_if_ne hx hb hd ht (fun z => kt (decide_eq_true z)) (fun z => kf (fun y => (of_decide_eq_true y) z))
    | lt => exact lv_if_lt hx hb hd ht (fun z => kt (decide_eq_true z)) (fun z => kf (fun y => z (of_decide_eq_true y)))
    | ge => exact lv_if_ge hx hb hd ht (fun z => kt (decide_eq_true z)) (fun z => kf (fun y => z (of_decide_eq_true y)))
    | gt => exact lv_if_gt hx hb hd ht (fun z => kt (decide_eq_true z)) (fun z => kf (fun y => z (of_decide_eq_true y)))
    | le => exact lv_if_le hx hb hd ht (fun z => kt (decide_eq_true z)) (fun z => kf (fun y => z (of_decide_eq_true y)))
  | if_icmp q off =>
    have hs9 := sm_if hs
    clear hs
    obtain ⟨rfl, hs⟩ := hs9
    have hs9 := sm_bd hs
    clear hs
    obtain ⟨t, ht, hs⟩ := hs9
    have hs9 := sm_i2_s hs
    clear hs
    obtain ⟨x, y, r, rfl, hs⟩ := hs9
    cases hs
    have ht := sm_j_s ht
    have kw := kk ls H locs hl hP hD hS
    have kt : sm_cmp q x y = true → W p l e R s m args below meth c H locs cells slots Q (F0 m t ls (st'.map (sm_v ad))) := fun z => by rw [if_pos z] at kw; exact kw
    have kf : ¬ sm_cmp q x y = true → W p l e R s m args below meth c H locs cells slots Q (F0 m (pc + 3) ls (st'.map (sm_v ad))) := fun z => by rw [if_neg z] at kw; exact kw
    cases q with
    | eq => exact lv_icmp_eq hx hb hd ht (fun z => kt (decide_eq_true z)) (fun z => kf (fun y => z (of_decide_eq_true y)))
    | ne => exact lv_icmp_ne hx hb hd ht (fun z => kt (decide_eq_true z)) (fun z => kf (fun y => (of_decide_eq_true y) z))
    | lt => exact lv_icmp_lt hx hb hd ht (fun z => kt (decide_eq_true z)) (fun z => kf (fun y => z (of_decide_eq_true y)))
    | ge => exact lv_icmp_ge hx hb hd ht (fun z => kt (decide_eq_true z)) (fun z => kf (fun y => z (of_decide_eq_true y)))
    | gt => exact lv_icmp_gt hx hb hd ht (fun z => kt (decide_eq_true z)) (fun z => kf (fun y => z (of_decide_eq_true y)))
    | le => exact lv_icmp_le hx hb hd ht (fun z => kt (decide_eq_true z)) (fun z => kf (fun y => z (of_decide_eq_true y)))
  | tableswitch dflt lo hi offs =>
    have hs9 := sm_i1_s hs
    clear hs
    obtain ⟨x, r, rfl, hs⟩ := hs9
    by_cases ho : x.toInt < lo ∨ hi < x.toInt
    · rw [if_pos ho] at hs
      have hs9 := sm_bd hs
      clear hs
      obtain ⟨t, ht, hs⟩ := hs9
      cases hs
      exact lv_tableOut hx hb hd ho (sm_j_s ht) (kk ls H locs hl hP hD hS)
    · rw [if_neg ho] at hs
      have hs9 := sm_bd hs
      clear hs
      obtain ⟨off, hoff, hs⟩ := hs9
      have hs9 := sm_bd hs
      clear hs
      obtain ⟨t, ht, hs⟩ := hs9
      cases hs
      exact lv_tableIn hx hb hd (fun z => ho (Or.inl z)) (fun z => ho (Or.inr z)) hoff (sm_j_s ht) (kk ls H locs hl hP hD hS)
  | getstatic x =>
    have hs9 := sm_if hs
    clear hs
    obtain ⟨⟨rfl, hq⟩, hs⟩ := hs9
    cases hs
    exact va_gets hx hb hZ hS hown (hstat x hq) (fun _ z => z) hd (kk ls H locs hl hP hD hS)
  | getfield x =>
    have hs9 := sm_if hs
    clear hs
    obtain ⟨rfl, hs⟩ := hs9
    have hs9 := sm_r1_s hs
    clear hs
    obtain ⟨a, r, rfl, hs⟩ := hs9
    have hs9 := sm_bd hs
    clear hs
    obtain ⟨q, hq, hs⟩ := hs9
    have hs9 := sm_bd hs
    clear hs
    obtain ⟨fs, hfs, hs⟩ := hs9
    have hs9 := sm_bd hs
    clear hs
    obtain ⟨v, hv, hs⟩ := hs9
    cases hs
    obtain ⟨ci, k, t⟩ := q
    obtain ⟨C, T, N, ty0, h1, h2, h3, h4, -⟩ := hF x ci k t hq
    exact va_get (v := sm_v ad v) (ci := ci) (C := C) (T := T) (N := N) hx hb hts h3 hown hK hP a (sm_w_get (sm_obj_s hfs)) h1 k h2 h4 (fun _ z => z) (by rw [List.getElem?_map, hv]; rfl) hd (kk ls H locs hl hP hD hS)
  | arraylength =>
    have hs9 := sm_if hs
    clear hs
    obtain ⟨rfl, hs⟩ := hs9
    have hs9 := sm_r1_s hs
    clear hs
    obtain ⟨a, r, rfl, hs⟩ := hs9
    have norm : ∀ (z : (sm_ints h a).bind (fun w => some (pc + 1, lv, Value.int (Int32.ofNat w.1) :: r, h)) = some (pc', lv', st', h')), W p l e R s m args below meth c H locs cells slots Q (F0 m pc ls ((Value.ref a :: r).map (sm_v ad))) := by
      intro hs
      have hs9 := sm_bd hs
      clear hs
      obtain ⟨⟨n, f⟩, hw, hs⟩ := hs9
      cases hs
      exact va_alen (ty := .int) hx hb hK hP a 0 (sm_w_get (sm_ints_s hw)) rfl rfl hd (kk ls H locs hl hP hD hS)
    revert hX
    cases hk : K.2.2.2.2.1 with
    | none =>
      intro _
      rw [hk] at hs
      exact norm hs
    | some q =>
      intro hX
      rw [hk] at hs
      by_cases ha : a = 998
      · subst ha
        cases hs
        obtain ⟨h1, h2, h3⟩ := hX q rfl
        exact va_slen hx hb h1 h2 h3 hS hd (kk ls H locs hl hP hD hS)
      · exact norm (by simpa [ha] using hs)
  | iaload =>
    have hs9 := sm_if hs
    clear hs
    obtain ⟨rfl, hs⟩ := hs9
    have hs9 := sm_ri_s hs
    clear hs
    obtain ⟨a, i, r, rfl, hs⟩ := hs9
    by_cases h9 : a = 999
    · rw [if_pos h9] at hs
      subst h9
      have hs9 := sm_ifn hs
      clear hs
      obtain ⟨hi, hs⟩ := hs9
      cases hs
      exact va_ti hx hb hT hS hi rfl hd (kk ls H locs hl hP hD hS)
    · rw [if_neg h9] at hs
      by_cases h8 : a = 998
      · rw [if_pos h8] at hs
        subst h8
        have hs9 := sm_bd hs
        clear hs
        obtain ⟨q, hq, hs⟩ := hs9
        have hs9 := sm_ifn hs
        clear hs
        obtain ⟨hi, hs⟩ := hs9
        cases hs
        obtain ⟨h1, h2, h3⟩ := hX q hq
        exact va_sld hx hb h1 h2 h3 hS hi hd (kk ls H locs hl hP hD hS)
      · rw [if_neg h8] at hs
        have hs9 := sm_bd hs
        clear hs
        obtain ⟨⟨n, f⟩, hw, hs⟩ := hs9
        have hs9 := sm_ifn hs
        clear hs
        obtain ⟨hi, hs⟩ := hs9
        cases hs
        exact va_iald hx hb hK hP a 0 (sm_w_get (sm_ints_s hw)) rfl hi hd (kk ls H locs hl hP hD hS)
  | baload =>
    have hs9 := sm_if hs
    clear hs
    obtain ⟨rfl, hs⟩ := hs9
    have hs9 := sm_ri_s hs
    clear hs
    obtain ⟨a, i, r, rfl, hs⟩ := hs9
    have hs9 := sm_bd hs
    clear hs
    obtain ⟨⟨n, f⟩, hw, hs⟩ := hs9
    have hs9 := sm_ifn hs
    clear hs
    obtain ⟨hi, hs⟩ := hs9
    cases hs
    exact va_bald hx hb hK hP a 1 (sm_w_get (sm_byts_s hw)) rfl hi hd (kk ls H locs hl hP hD hS)
  | aaload =>
    have hs9 := sm_if hs
    clear hs
    obtain ⟨rfl, hs⟩ := hs9
    have hs9 := sm_ri_s hs
    clear hs
    obtain ⟨a, i, r, rfl, hs⟩ := hs9
    have hs9 := sm_bd hs
    clear hs
    obtain ⟨⟨t, n, f⟩, hw, hs⟩ := hs9
    have hs9 := sm_ifn hs
    clear hs
    obtain ⟨hi, hs⟩ := hs9
    have hs9 := sm_bd hs
    clear hs
    obtain ⟨b, hb1, hs⟩ := hs9
    cases hs
    obtain ⟨hw, ht2, ht5⟩ := sm_refs_s hw
    have hkk := kk ls H locs hl hP hD hS
    have hkk : W p l e R s m args below meth c H locs cells slots Q (F0 m (pc + 1) ls (va_rf ((f i.toNatClampNeg).map ad) :: r.map (sm_v ad))) := by
      dsimp only at hb1
      rw [hb1]
      exact hkk
    rcases (show t = 2 ∨ t = 3 ∨ t = 4 by omega) with rfl | rfl | rfl
    · exact sm_aald hx hb hK hP a 2 (ty := .array .int) rfl (sm_w_get hw) rfl hi hd hkk
    · exact sm_aald hx hb hK hP a 3 (ty := .array .byte) rfl (sm_w_get hw) rfl hi hd hkk
    · exact sm_aald hx hb hK hP a 4 (ty := .object "MiceRegisters$Deeds") rfl (sm_w_get hw) rfl hi hd hkk
  | iastore =>
    have hs9 := sm_if hs
    clear hs
    obtain ⟨rfl, hs⟩ := hs9
    have hs9 := sm_rii_s hs
    clear hs
    obtain ⟨a, i, x, r, rfl, hs⟩ := hs9
    have hs9 := sm_bd hs
    clear hs
    obtain ⟨⟨n, f⟩, hw, hs⟩ := hs9
    have hs9 := sm_ifn hs
    clear hs
    obtain ⟨hi, hs⟩ := hs9
    cases hs
    refine va_iast hx hb hK hP hD hS a 0 (sm_w_get (sm_ints_s hw)) rfl hi hd (fun H1 locs1 hP1 hD1 hS1 => ?_)
    have e := sm_w_set cid ad h a (.inl (0, n, .inl (upd f i.toNatClampNeg x)))
    exact kk ls H1 locs1 hl (e ▸ hP1) (e ▸ hD1) hS1
  | bastore =>
    have hs9 := sm_if hs
    clear hs
    obtain ⟨rfl, hs⟩ := hs9
    have hs9 := sm_rii_s hs
    clear hs
    obtain ⟨a, i, x, r, rfl, hs⟩ := hs9
    have hs9 := sm_bd hs
    clear hs
    obtain ⟨⟨n, f⟩, hw, hs⟩ := hs9
    have hs9 := sm_ifn hs
    clear hs
    obtain ⟨hi, hs⟩ := hs9
    cases hs
    refine va_bast hx hb hK hP hD hS a 1 (sm_w_get (sm_byts_s hw)) rfl hi hd (fun H1 locs1 hP1 hD1 hS1 => ?_)
    have e := sm_w_set cid ad h a (.inl (1, n, .inl (upd f i.toNatClampNeg (vp_nar .byte x))))
    exact kk ls H1 locs1 hl (e ▸ hP1) (e ▸ hD1) hS1
  | dup =>
    have hs9 := sm_if hs
    clear hs
    obtain ⟨rfl, hs⟩ := hs9
    cases st with
    | nil => cases hs
    | cons v r =>
      have hs9 := sm_if hs
      clear hs
      obtain ⟨hv, hs⟩ := hs9
      cases hs
      exact lv_dup hx hb hd (by rw [sm_v_cat]; exact hv) (kk ls H locs hl hP hD hS)
  | dup2 =>
    have hs9 := sm_if hs
    clear hs
    obtain ⟨rfl, hs⟩ := hs9
    cases st with
    | nil => cases hs
    | cons v r =>
      cases r with
      | nil => cases hs
      | cons w r =>
        have hs9 := sm_if hs
        clear hs
        obtain ⟨hv, hs⟩ := hs9
        cases hs
        exact lv_dup2_11 hx hb hd (by rw [sm_v_cat]; exact hv.1) (by rw [sm_v_cat]; exact hv.2) (kk ls H locs hl hP hD hS)
  | pop =>
    have hs9 := sm_if hs
    clear hs
    obtain ⟨rfl, hs⟩ := hs9
    cases st with
    | nil => cases hs
    | cons v r =>
      have hs9 := sm_if hs
      clear hs
      obtain ⟨hv, hs⟩ := hs9
      cases hs
      exact lv_pop hx hb hd (by rw [sm_v_cat]; exact hv) (kk ls H locs hl hP hD hS)
  | pop2 =>
    have hs9 := sm_if hs
    clear hs
    obtain ⟨rfl, hs⟩ := hs9
    cases st with
    | nil => cases hs
    | cons v r =>
      have hs9 := sm_if hs
      clear hs
      obtain ⟨hv, hs⟩ := hs9
      cases hs
      exact lv_pop2_2 hx hb hd (by rw [sm_v_cat]; exact hv) (kk ls H locs hl hP hD hS)
  | putfield x =>
    have hs9 := sm_if hs
    clear hs
    obtain ⟨rfl, hs⟩ := hs9
    split at hs
    · rename_i v a r
      have hs9 := sm_bd hs
      clear hs
      obtain ⟨q, hq, hs⟩ := hs9
      have hs9 := sm_if hs
      clear hs
      obtain ⟨ht, hs⟩ := hs9
      have hs9 := sm_bd hs
      clear hs
      obtain ⟨fs, hfs, hs⟩ := hs9
      have hs9 := sm_if hs
      clear hs
      obtain ⟨hlen, hs⟩ := hs9
      cases hs
      obtain ⟨ci, k, t⟩ := q
      obtain ⟨C, T, N, ty0, h1, h2, h3, h4, h5, h6, h7, -⟩ := hF x ci k t hq
      refine va_put (v := .int v) (ty := .int) (ci := ci) (C := C) (T := T) (N := N) hx hb hts h3 ty0 h5 h6 hown hK hP hD hS a (sm_w_get (sm_obj_s hfs)) h1 k h2 h4 (fun _ z => z) (h7 ht).1 (h7 ht).2 rfl rfl (by rw [List.length_map]; exact hlen) hd (fun H1 locs1 hP1 hD1 hS1 => ?_)
      have e := sm_w_set cid ad h a (.inr (ci, fs.set k (.int v)))
      have e2 : sm_e cid ad (.inr (ci, fs.set k (.int v))) = .inr (ci, (fs.map (sm_v ad)).set k (.int v)) := by
        show Sum.inr (ci, (fs.set k (.int v)).map (sm_v ad)) = _
        rw [List.map_set]
        rfl
      rw [e2] at e
      exact kk ls H1 locs1 hl (e ▸ hP1) (e ▸ hD1) hS1
    · rename_i v a r
      have hs9 := sm_bd hs
      clear hs
      obtain ⟨q, hq, hs⟩ := hs9
      have hs9 := sm_if hs
      clear hs
      obtain ⟨ht, hs⟩ := hs9
      have hs9 := sm_bd hs
      clear hs
      obtain ⟨fs, hfs, hs⟩ := hs9
      have hs9 := sm_if hs
      clear hs
      obtain ⟨hlen, hs⟩ := hs9
      cases hs
      obtain ⟨ci, k, t⟩ := q
      obtain ⟨C, T, N, ty0, h1, h2, h3, h4, h5, h6, -, h7⟩ := hF x ci k t hq
      refine va_put (v := .long v) (ty := .long) (ci := ci) (C := C) (T := T) (N := N) hx hb hts h3 ty0 h5 h6 hown hK hP hD hS a (sm_w_get (sm_obj_s hfs)) h1 k h2 h4 (fun _ z => z) (h7 ht).1 (h7 ht).2 rfl rfl (by rw [List.length_map]; exact hlen) hd (fun H1 locs1 hP1 hD1 hS1 => ?_)
      have e := sm_w_set cid ad h a (.inr (ci, fs.set k (.long v)))
      have e2 : sm_e cid ad (.inr (ci, fs.set k (.long v))) = .inr (ci, (fs.map (sm_v ad)).set k (.long v)) := by
        show Sum.inr (ci, (fs.set k (.long v)).map (sm_v ad)) = _
        rw [List.map_set]
        rfl
      rw [e2] at e
      exact kk ls H1 locs1 hl (e ▸ hP1) (e ▸ hD1) hS1
    · cases hs
  | invokestatic x =>
    have hs9 := sm_if hs
    clear hs
    obtain ⟨rfl, hs⟩ := hs9
    have hs9 := sm_bd hs
    clear hs
    obtain ⟨q, hq, hs⟩ := hs9
    obtain ⟨n0, n1, n2, n3⟩ := hN
    split at hs
    · have hs9 := sm_i2_s hs
      clear hs
      obtain ⟨x1, y, r, rfl, hs⟩ := hs9
      have hs9 := sm_if hs
      clear hs
      obtain ⟨hr, hs⟩ := hs9
      cases hs
      obtain ⟨a1, a2, a3, a4⟩ := n0 x hq
      exact va_mmax hx hb hmls hown a1 a2 a3 a4 hRf (by rw [sm_cat_map]; omega) hcl.1 hcl.2 hd (kk ls H locs hl hP hD hS)
    · have hs9 := sm_i2_s hs
      clear hs
      obtain ⟨x1, y, r, rfl, hs⟩ := hs9
      have hs9 := sm_if hs
      clear hs
      obtain ⟨hr, hs⟩ := hs9
      cases hs
      obtain ⟨a1, a2, a3, a4⟩ := n1 x hq
      exact va_mmin hx hb hmls hown a1 a2 a3 a4 hRf (by rw [sm_cat_map]; omega) hcl.1 hcl.2 hd (kk ls H locs hl hP hD hS)
    · have hs9 := sm_i1_s hs
      clear hs
      obtain ⟨x1, r, rfl, hs⟩ := hs9
      have hs9 := sm_if hs
      clear hs
      obtain ⟨hr, hs⟩ := hs9
      cases hs
      obtain ⟨a1, a2, a3, a4⟩ := n2 x hq
      exact va_mabs hx hb hmls hown a1 a2 a3 a4 hRf (by rw [sm_cat_map]; omega) hcl.1 hcl.2 hd (kk ls H locs hl hP hD hS)
    · have hs9 := sm_c5_s hs
      clear hs
      obtain ⟨a0, sp, a, dp, k, r, rfl, hs⟩ := hs9
      have hs9 := sm_bd hs
      clear hs
      obtain ⟨⟨n, f⟩, hw0, hs⟩ := hs9
      have hs9 := sm_bd hs
      clear hs
      obtain ⟨⟨n', g⟩, hw, hs⟩ := hs9
      have hs9 := sm_if hs
      clear hs
      obtain ⟨⟨hr, g1, g2, g3, g4, g5⟩, hs⟩ := hs9
      cases hs
      obtain ⟨a1, a2, a3, a4⟩ := n3 x hq
      refine va_copyi hx hb hmls hown a1 a2 a3 a4 hK hP hD hS a0 a 0 0 (sm_w_get (sm_ints_s hw0)) (sm_w_get (sm_ints_s hw)) rfl rfl rfl g1 g2 g3 g4 g5 (fun _ _ => rfl) hRf ?_ hd (fun H1 locs1 hP1 hD1 hS1 => ?_)
      · rw [sm_cat_map]
        exact Nat.le_trans (Nat.add_le_add_right hr _) (Nat.le_trans (by decide) hRl)
      · have e := sm_w_set cid ad h a (.inl (0, n', .inl (va_cpy f g sp.toNatClampNeg dp.toNatClampNeg k.toNatClampNeg)))
        exact kk ls H1 locs1 hl (e ▸ hP1) (e ▸ hD1) hS1
    · cases hs
  | _ => cases hs
end SM
