/-! new T[n][m] over the machine: the row that the kit prints for it rests on a shelf that no round reaches; so by hand, out of what is reached. -/
def mu_o (c : ClassId) (N b i : Nat) : Cell := arrV c N (fun j => if j < i then .ref (b + j) else .null)
/-- the outer row and i inner ones laid -/
def mu_s (s : State) (c cc : ClassId) (N M : Nat) (v : Value) : Nat → State
  | 0 => s.pushCell (mu_o c N (s.heap.size + 1) 0)
  | i + 1 => ((mu_s s c cc N M v i).pushCell (arrV cc M (fun _ => v))).setCell s.heap.size (mu_o c N (s.heap.size + 1) (i + 1))
theorem mu_put (c : ClassId) (N b i : Nat) : (mu_o c N b i).setSlot i (.ref (b + i)) = mu_o c N b (i + 1) := by
  unfold mu_o
  rw [arrV_store]
  refine congrArg (arrV c N) (funext fun j => ?_)
  by_cases e : j = i
  · subst e
    simp [updV]
  · by_cases h : j < i
    · simp [updV, e, h, Nat.lt_succ_of_lt h]
    · simp [updV, e, h, show ¬ j < i + 1 by omega]
theorem mu_f (s : State) (c cc : ClassId) (N M : Nat) (v : Value) : ∀ i, (mu_s s c cc N M v i).heap.size = s.heap.size + 1 + i ∧ (mu_s s c cc N M v i).heap[s.heap.size]? = some (mu_o c N (s.heap.size + 1) i) ∧ (mu_s s c cc N M v i).vm = s.vm ∧ (mu_s s c cc N M v i).slotsUsed = s.slotsUsed + N + i * M ∧
    (∀ a, a < s.heap.size → (mu_s s c cc N M v i).heap[a]? = s.heap[a]?) ∧ ∀ j, j < i → (mu_s s c cc N M v i).heap[s.heap.size + 1 + j]? = some (arrV cc M (fun _ => v))
  | 0 => ⟨by simp [mu_s], by simp [mu_s], rfl, by simp [mu_s, mu_o, arrV_size], fun a ha => State.heap_pushCell_of_lt _ _ ha, fun j hj => absurd hj (Nat.not_lt_zero _)⟩
  | i + 1 => by
    obtain ⟨f1, f2, f3, f4, f5, f6⟩ := mu_f s c cc N M v i
    have lt0 : s.heap.size < (mu_s s c cc N M v i).heap.size := by omega
    have g2 : ((mu_s s c cc N M v i).pushCell (arrV cc M (fun _ => v))).heap[s.heap.size]? = some (mu_o c N (s.heap.size + 1) i) := by
      rw [State.heap_pushCell_of_lt (h := lt0)]
      exact f2
    refine ⟨?_, State.heap_setCell_self g2, by simp [mu_s, f3], ?_, fun a ha => ?_, fun j hj => ?_⟩
    · simp [mu_s, State.setCell, f1]
      omega
    · simp [mu_s, f4, arrV_size, Nat.succ_mul]
      omega
    · show (((mu_s s c cc N M v i).pushCell (arrV cc M (fun _ => v))).setCell s.heap.size _).heap[a]? = _
      have lt1 : a < (mu_s s c cc N M v i).heap.size := by omega
      rw [State.heap_setCell_other (Nat.ne_of_gt ha), State.heap_pushCell_of_lt (h := lt1)]
      exact f5 a ha
    · show (((mu_s s c cc N M v i).pushCell (arrV cc M (fun _ => v))).setCell s.heap.size _).heap[s.heap.size + 1 + j]? = _
      rw [State.heap_setCell_other (show s.heap.size ≠ s.heap.size + 1 + j by omega)]
      by_cases hji : j < i
      · have lt1 : s.heap.size + 1 + j < (mu_s s c cc N M v i).heap.size := by omega
        rw [State.heap_pushCell_of_lt (h := lt1)]
        exact f6 j hji
      · rw [show s.heap.size + 1 + j = (mu_s s c cc N M v i).heap.size by omega]
        exact State.heap_pushCell_size _ _
theorem mu_top (s : State) (f : JFrame) (c cc : ClassId) (N M : Nat) (v : Value) : ∀ i, mu_s (s.setTop f) c cc N M v i = (mu_s s c cc N M v i).setTop f
  | 0 => rfl
  | i + 1 => by simp only [mu_s, mu_top s f c cc N M v i, State.heap_setTop, State.pushCell_setTop, State.setCell_setTop]
section MUW
variable {E : CtlPost} {e : Env} {d : Bool} {acts : List Action} {s : State}
theorem mu_new {c cc : ClassId} {k : Class} {ty : FieldType} {n : Nat} {v : Value} (hk : s.vm.classes[c]? = some k) (hkd : k.kind = .array cc ty) (h1 : ¬ n > e.platform.arrayLengthLimit) (h2 : ¬ n * componentBytes ty > e.platform.maxHeapBytes) (h3 : fits ty v = true) (h4 : v.isDefault = true) (h5 : s.heap.size < e.platform.maxCells) (h6 : s.slotsUsed + n ≤ e.platform.maxSlots) {Q : Addr → Pre} (hq : Q s.heap.size d acts (s.pushCell (arrV c n (fun _ => v)))) : wp (Jvm.newArray c n v) Q E e d acts s := by
  have hf : ∀ i w, (Array.replicate n v)[i]? = some w → s.fitsSlot c .none i w = true := by
    intro i w hw
    rw [Array.getElem?_replicate] at hw
    by_cases hi : i < n
    · rw [if_pos hi] at hw
      cases hw
      simp [State.fitsSlot, State.slotType?, hk, hkd, h3]
    · rw [if_neg hi] at hw
      cases hw
  have ha : allocActs (Array.replicate n v) s.heap.size acts = acts := by
    have al : ((Array.replicate n v).all (·.isDefault)) = true := by
      rw [Array.all_replicate]
      split <;> simp [h4]
    unfold allocActs
    rw [if_pos al]
  rw [← arrV_new] at hq
  simp only [Jvm.newArray, Jvm.arrayFits, wp_bind', W.ask, W.ite, h1, if_false, wp_pure', W.theClass, hk, hkd, h2, W.alloc, W.stop, Option.some.injEq, exists_eq_left', Array.size_replicate, ha]
  rw [if_neg (by omega)]
  exact ⟨h5, h6, hf, hq⟩
theorem mu_ref {t : FieldType} (h : t.isReference = true) (v : Value) (hv : v = .null ∨ ∃ a, v = .ref a) : fits t v = true := by
  rcases hv with rfl | ⟨a, rfl⟩ <;> cases t <;> first | rfl | (cases h; done)
theorem mu_1 {c cc : ClassId} {k : Class} {ty : FieldType} {n : Int32} (hk : s.vm.classes[c]? = some k) (hkd : k.kind = .array cc ty) (hn : ¬ n < 0) (h1 : ¬ n.toNatClampNeg > e.platform.arrayLengthLimit) (h2 : ¬ n.toNatClampNeg * componentBytes ty > e.platform.maxHeapBytes) (h3 : fits ty (defaultValue ty) = true) (h4 : (defaultValue ty).isDefault = true) (h5 : s.heap.size < e.platform.maxCells) (h6 : s.slotsUsed + n.toNatClampNeg ≤ e.platform.maxSlots) {Q : Addr → Pre} (hq : Q s.heap.size d acts (s.pushCell (arrV c n.toNatClampNeg (fun _ => defaultValue ty)))) : wp (multianewarray.make c [n]) Q E e d acts s := by
  rw [multianewarray.make]
  simp only [wp_bind', W.ite, hn, if_false, wp_pure', W.theClass, hk, hkd, Option.some.injEq, exists_eq_left']
  exact mu_new hk hkd h1 h2 h3 h4 h5 h6 hq
theorem mu_2 {c cc c3 : ClassId} {k kc : Class} {t0 ty : FieldType} {n m : Int32} (hk : s.vm.classes[c]? = some k) (hkd : k.kind = .array cc t0) (hr : t0.isReference = true) (hkc : s.vm.classes[cc]? = some kc) (hkcd : kc.kind = .array c3 ty) (hn : ¬ n < 0) (hm : ¬ m < 0)
    (h1 : ¬ n.toNatClampNeg > e.platform.arrayLengthLimit) (h2 : ¬ n.toNatClampNeg * componentBytes t0 > e.platform.maxHeapBytes) (h3 : ¬ m.toNatClampNeg > e.platform.arrayLengthLimit) (h4 : ¬ m.toNatClampNeg * componentBytes ty > e.platform.maxHeapBytes) (h5 : fits ty (defaultValue ty) = true) (h6 : (defaultValue ty).isDefault = true) (h7 : s.heap.size + 1 + n.toNatClampNeg ≤ e.platform.maxCells) (h8 : s.slotsUsed + n.toNatClampNeg + n.toNatClampNeg * m.toNatClampNeg ≤ e.platform.maxSlots)
    {Q : Addr → Pre} (hq : ∀ d' acts', Q s.heap.size d' acts' (mu_s s c cc n.toNatClampNeg m.toNatClampNeg (defaultValue ty) n.toNatClampNeg)) : wp (multianewarray.make c [n, m]) Q E e d acts s := by
  have hnone : ([m].find? (· < 0)) = none := by simp [hm]
  generalize hN : n.toNatClampNeg = N at *
  generalize hM : m.toNatClampNeg = M at *
  rw [multianewarray.make]
  simp only [wp_bind', W.ite, hn, if_false, wp_pure', W.theClass, hk, hkd, Option.some.injEq, exists_eq_left', hN]
  have z := Nat.zero_le (N * M)
  refine mu_new hk hkd h1 h2 (mu_ref hr _ (Or.inl rfl)) rfl (by omega) (by omega) ?_
  simp only [hnone]
  rw [ite_self, wp_bind', Std.Legacy.Range.forIn_eq_forIn_range', show ([:N] : Std.Legacy.Range).size = N by simp [Std.Legacy.Range.size]]
  refine wp_forIn_inv (fun r t => ∃ i, i ≤ N ∧ r = List.range' i (N - i) ∧ t = mu_s s c cc N M (defaultValue ty) i) _ _ ⟨0, Nat.zero_le _, rfl, rfl⟩ ?_ ?_
  · intro x r t d' a' Q' hI hx
    obtain ⟨i, hi, hl, rfl⟩ := hI
    by_cases hlt : i < N
    · rw [show N - i = (N - (i + 1)) + 1 by omega, List.range'_succ] at hl
      obtain ⟨rfl, hr'⟩ := List.cons.inj hl
      obtain ⟨f1, f2, f3, f4, f5, f6⟩ := mu_f s c cc N M (defaultValue ty) x
      have mul : x * M + M ≤ N * M := by
        have := Nat.mul_le_mul_right M (show x + 1 ≤ N from hlt)
        rw [Nat.succ_mul] at this
        exact this
      have lt0 : s.heap.size < (mu_s s c cc N M (defaultValue ty) x).heap.size := by omega
      simp only [wp_bind']
      refine mu_1 (k := kc) (cc := c3) (by rw [f3]; exact hkc) hkcd hm (by rw [hM]; exact h3) (by rw [hM]; exact h4) h5 h6 (by rw [f1]; omega) (by rw [f4, hM]; omega) ?_
      rw [hM]
      simp only [wp_bind', W.writeLoc, wp_pure']
      refine ⟨mu_o c N (s.heap.size + 1) x, by rw [State.heap_pushCell_of_lt (h := lt0)]; exact f2, by simp [mu_o, arrV], by rw [mu_o, arrV_size]; exact hlt, ?_, hx _ _ _ ⟨x + 1, hlt, hr', ?_⟩⟩
      · simp [mu_o, arrV, State.fitsSlot, State.slotType?, f3, hk, hkd, mu_ref hr _ (Or.inr ⟨_, rfl⟩)]
      · rw [f1, mu_put]
        rfl
    · rw [show N - i = 0 by omega] at hl
      cases hl
  · intro t d' a' hI
    obtain ⟨i, hi, hl, rfl⟩ := hI
    by_cases hlt : i < N
    · rw [show N - i = (N - (i + 1)) + 1 by omega, List.range'_succ] at hl
      cases hl
    · rw [show i = N by omega]
      simp only [wp_pure']
      exact hq _ _
end MUW
section MUS
variable {p : Program} {l : Launch} {e : Env} {R : Room} {s : State} {m : MethodId} {args : Array Value} {below : List Frame} {meth : Method} {c : Code} {T : State} {locs : List Loc} {cells slots : Nat}
theorem mu_st (X : Stand p l e R s m args below meth c T locs cells slots) (c1 c2 : ClassId) (N M : Nat) (v : Value) : ∀ i, ∃ L : List Loc, (∀ q ∈ L, q.base = T.heap.size) ∧ Stand p l e R s m args below meth c (mu_s T c1 c2 N M v i) (locs ++ L) (cells + 1 + i) (slots + N + i * M)
  | 0 => ⟨[], fun _ h => absurd h List.not_mem_nil, by
    have h := X.pushed (mu_o c1 N (T.heap.size + 1) 0)
    rw [show (mu_o c1 N (T.heap.size + 1) 0).slots.size = N from arrV_size _ _ _] at h
    simpa [mu_s] using h⟩
  | i + 1 => by
    obtain ⟨L, hL, Y⟩ := mu_st X c1 c2 N M v i
    obtain ⟨f1, f2, -⟩ := mu_f T c1 c2 N M v i
    have g2 : ((mu_s T c1 c2 N M v i).pushCell (arrV c2 M (fun _ => v))).heap[T.heap.size]? = some (mu_o c1 N (T.heap.size + 1) i) := by
      have lt1 : T.heap.size < (mu_s T c1 c2 N M v i).heap.size := by omega
      rw [State.heap_pushCell_of_lt (h := lt1)]
      exact f2
    have h := (Y.pushed (arrV c2 M (fun _ => v))).stored g2 i (.ref (T.heap.size + 1 + i))
    rw [arrV_size, mu_put, List.append_assoc] at h
    refine ⟨L ++ [⟨T.heap.size, i⟩], fun q hq => ?_, ?_⟩
    · rcases List.mem_append.mp hq with hq | hq
      · exact hL q hq
      · rw [List.mem_singleton] at hq
        rw [hq]
    · rw [Nat.succ_mul, ← Nat.add_assoc (slots + N)]
      exact h
theorem mu_go (X : Stand p l e R s m args below meth c T locs cells slots) (hexec : p.tables.exec = Jvm.exec) {own : String} {index : Nat} {ty : FieldType} (hown : s.vm.findClass own = some m.cls) (hlink : (Cond.classLink own index ("[" ++ (FieldType.array ty).toString)).before args s = true) (hover : (Cond.arrayOver (.array ty)).before args s = true) (harr : (Cond.arrayClass ty).before args s = true)
    {g : JFrame} (hg : g.method = m) (hdg : decode c.code g.pc = .ok (.multianewarray index 2, 4)) {n k : Int32} {rest : List Value} (hst : g.stack = .int k :: .int n :: rest) (hn : ¬ n < 0) (hk : ¬ k < 0) (b1 : n.toNatClampNeg * 4 ≤ 536870912) (b2 : k.toNatClampNeg * componentBytes ty ≤ 536870912) (b3 : k.toNatClampNeg ≤ 536870912) (df : fits ty (defaultValue ty) = true) (dd : (defaultValue ty).isDefault = true) (hcells : cells + (1 + n.toNatClampNeg) ≤ R.cells) (hslots : slots + (n.toNatClampNeg + n.toNatClampNeg * k.toNatClampNeg) ≤ R.slots) :
    ∃ (vm₁ : Vm) (cA cC : ClassId), s.vm.findClass ("[" ++ (FieldType.array ty).toString) = some cA ∧ s.vm.findClass (FieldType.array ty).toString = some cC ∧ Stand p l e R s m args below meth c (mu_s (T.setVm vm₁) cA cC n.toNatClampNeg k.toNatClampNeg (defaultValue ty) n.toNatClampNeg) locs (cells + 1 + n.toNatClampNeg) (slots + n.toNatClampNeg + n.toNatClampNeg * k.toNatClampNeg) ∧
      ∀ target, Steps p.tables e below ((mu_s (T.setVm vm₁) cA cC n.toNatClampNeg k.toNatClampNeg (defaultValue ty) n.toNatClampNeg).setTop { g with pc := g.pc + 4, stack := .ref T.heap.size :: rest }) target → Steps p.tables e below (T.setTop g) target := by
  subst hg
  obtain ⟨cC, cA, kA, e1, -, e2, e3, e4⟩ := arrayOverA_spec hover
  obtain ⟨cC', kC, c3, e5, e6, e7⟩ := Cond.arrayClass_spec harr
  cases e5.symm.trans e1
  obtain ⟨c0, e8, hcl⟩ := Cond.classLink_spec hown hlink e.platform (by rw [X.admits.platform])
  cases e4.symm.trans e8
  obtain ⟨w1, w2, w3⟩ := State.classEntry (e := e) X.warmed hcl
  generalize T.vm.noted g.method.cls index (.cls cA) = vm₁ at w1 w2 w3
  have al : s.vm.Alike vm₁ := w2.alike
  obtain ⟨kA₁, a1, a2⟩ := al.2.2 _ _ e2
  obtain ⟨kC₁, a3, a4⟩ := al.2.2 _ _ e6
  have X₁ := X.noted w2
  obtain ⟨L, hL, XF⟩ := mu_st X₁ cA cC n.toNatClampNeg k.toNatClampNeg (defaultValue ty) n.toNatClampNeg
  have XD := Stand.dropFresh XF (fun q hq => by rw [hL q hq]; exact X.heapGrown)
  obtain ⟨r1, r2⟩ := X.roomAbove hcells hslots
  refine ⟨vm₁, cA, cC, e4, e1, XD, fun target go => ?_⟩
  have p1 := Launch.admits_arrayLengthLimit X.admits
  have p2 := Launch.admits_maxHeapBytes X.admits
  jvm_step X.here [hexec, hdg]
  simp only [multianewarray.sem, wp_bind', W.resolveClassAt_links (State.method?_setTop g X.here.top) w1]
  rw [W.popN, if_neg (by decide)]
  refine ⟨g, State.topJava?_setTop' (s := T.setVm vm₁) g X.here.top, [.int n, .int k], rest, rfl, hst, ?_⟩
  simp only [List.mapM_cons, List.mapM_nil, wp_bind', wp_pure']
  refine mu_2 (k := kA₁) (kc := kC₁) (cc := cC) (c3 := c3) (t0 := .array ty) (ty := ty) a1 (by rw [a2]; exact e3) rfl a3 (by rw [a4]; exact e7) hn hk (by rw [p1]; omega) (by rw [p2]; show ¬ n.toNatClampNeg * 4 > 536870912; omega) (by rw [p1]; omega) (by rw [p2]; omega) df dd (by show T.heap.size + 1 + _ ≤ _; omega) (by show T.slotsUsed + _ + _ ≤ _; omega) (fun d' acts' => ?_)
  rw [show ((T.setTop g).setVm vm₁).setTop { g with stack := rest } = (T.setVm vm₁).setTop { g with stack := rest } by
    show ((T.setVm vm₁).setTop g).setTop _ = _
    rw [State.setTop_setTop], mu_top]
  simp only [wp_bind', W.mark, W.pushRef, State.topJava?_setTop' _ XF.here.top, Option.some.injEq, exists_eq_left', State.setTop_setTop, State.heap_setTop]
  intro acts
  simp [jvm, XF.here.top]
  exact go
end MUS
section MUN
variable {p : Program} {l : Launch} {e : Env} {R : Room} {s : State} {m : MethodId} {args : Array Value} {below : List Frame} {meth : Method} {c : Code} {H : Heap} {locs : List Loc} {cells slots : Nat} {Q : State → Prop} {cc : ByteArray} {pc : Nat} {ls : Array Slot} {rest : List Value}
theorem mu_W (hexec : p.tables.exec = Jvm.exec) (hb : c.code = cc) {own : String} {index : Nat} {ty : FieldType} (hown : s.vm.findClass own = some m.cls) (hlink : (Cond.classLink own index ("[" ++ (FieldType.array ty).toString)).before args s = true) (hover : (Cond.arrayOver (.array ty)).before args s = true) (harr : (Cond.arrayClass ty).before args s = true) {n k : Int32} {N M : Nat} (hn : ¬ n < 0) (hk : ¬ k < 0) (hN : n.toNatClampNeg = N) (hM : k.toNatClampNeg = M) (b1 : N * 4 ≤ 536870912) (b2 : M * componentBytes ty ≤ 536870912) (b3 : M ≤ 536870912) (df : fits ty (defaultValue ty) = true) (dd : (defaultValue ty).isDefault = true) (hcells : cells + (1 + N) ≤ R.cells) (hslots : slots + (N + N * M) ≤ R.slots) (hdg : decode cc pc = .ok (.multianewarray index 2, 4))
    (kk : ∀ (cA cC : ClassId) (H1 : Heap), s.vm.findClass ("[" ++ (FieldType.array ty).toString) = some cA → s.vm.findClass (FieldType.array ty).toString = some cC → H1.size = H.size + 1 + N → (∀ a, a < H.size → H1[a]? = H[a]?) → H1[H.size]? = some (arrV cA N (fun j => va_rf (if j < N then some (H.size + 1 + j) else none))) → (∀ j, j < N → H1[H.size + 1 + j]? = some (arrV cC M (fun _ => defaultValue ty))) → W p l e R s m args below meth c H1 locs (cells + 1 + N) (slots + N + N * M) Q (F0 m (pc + 4) ls (.ref H.size :: rest))) : W p l e R s m args below meth c H locs cells slots Q (F0 m pc ls (.int k :: .int n :: rest)) := by
  intro T hT X
  subst hT; subst hb; subst hN; subst hM
  obtain ⟨vm₁, cA, cC, e1, e2, X', st⟩ := mu_go X hexec hown hlink hover harr (g := F0 m pc ls (.int k :: .int n :: rest)) rfl hdg rfl hn hk b1 b2 b3 df dd hcells hslots
  obtain ⟨f1, f2, -, -, f5, f6⟩ := mu_f (T.setVm vm₁) cA cC n.toNatClampNeg k.toNatClampNeg (defaultValue ty) n.toNatClampNeg
  obtain ⟨t, a1, b1⟩ := kk cA cC (mu_s (T.setVm vm₁) cA cC n.toNatClampNeg k.toNatClampNeg (defaultValue ty) n.toNatClampNeg).heap e1 e2 f1 f5 (by
    rw [show T.heap.size = (T.setVm vm₁).heap.size from rfl, f2]
    refine congrArg some (congrArg (arrV cA n.toNatClampNeg) (funext fun j => ?_))
    by_cases h : j < n.toNatClampNeg
    · rw [if_pos h, if_pos h]; rfl
    · rw [if_neg h, if_neg h]; rfl) f6 _ rfl X'
  exact ⟨t, st t a1, b1⟩
end MUN
