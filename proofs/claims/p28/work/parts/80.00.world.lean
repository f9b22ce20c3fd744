/-! The worlds of both sides; a public method that keeps its contract leaves them as they are. -/
def kw : aw_H := [(0, .inl (2, [.inl 1, .inl 2, .inl 9, .inl 10, .inl 15, .inl 24, .inl 33, .inl 42, .inl 46, .inl 59, .inl 80, .inr (false, ar_t32), .inr (false, ar_t32), .inr (true, ar_t64), .inr (true, ar_t64)])),
  (1, .inr (.inl (0, 6, [(0, 5, [(-1, 40)])], []))),
  (2, .inr (.inr (.inl (2, [3, 4, 5, 6, 7, 8])))),
  (3, .inr (.inl (0, 40, [], []))),
  (4, .inr (.inl (0, 40, [], []))),
  (5, .inr (.inl (0, 40, [], []))),
  (6, .inr (.inl (0, 40, [], []))),
  (7, .inr (.inl (0, 40, [], []))),
  (8, .inr (.inl (0, 40, [], []))),
  (9, .inr (.inl (0, 4, [(0, 3, [(-1, 60)])], []))),
  (10, .inr (.inr (.inl (3, [11, 12, 13, 14])))),
  (11, .inr (.inl (1, 60, [], []))),
  (12, .inr (.inl (1, 60, [], []))),
  (13, .inr (.inl (1, 60, [], []))),
  (14, .inr (.inl (1, 60, [], []))),
  (15, .inl (1, [.inr (false, [(0, 8)]), .inr (false, [(0, 4)]), .inr (false, ar_t32), .inr (false, ar_t32), .inr (false, ar_t32), .inl 16, .inl 17, .inl 18, .inl 19, .inl 20, .inl 21, .inl 22, .inl 23])),
  (16, .inr (.inl (0, 8, [], []))),
  (17, .inr (.inl (0, 8, [], []))),
  (18, .inr (.inl (0, 8, [], []))),
  (19, .inr (.inl (0, 8, [], []))),
  (20, .inr (.inl (0, 4, [], []))),
  (21, .inr (.inl (0, 4, [], []))),
  (22, .inr (.inl (0, 4, [(0, 3, [(0, 7)])], []))),
  (23, .inr (.inl (0, 4, [(0, 3, [(0, 7)])], []))),
  (24, .inl (1, [.inr (false, [(0, 8)]), .inr (false, [(0, 4)]), .inr (false, ar_t32), .inr (false, ar_t32), .inr (false, ar_t32), .inl 25, .inl 26, .inl 27, .inl 28, .inl 29, .inl 30, .inl 31, .inl 32])),
  (25, .inr (.inl (0, 8, [], []))),
  (26, .inr (.inl (0, 8, [], []))),
  (27, .inr (.inl (0, 8, [], []))),
  (28, .inr (.inl (0, 8, [], []))),
  (29, .inr (.inl (0, 4, [], []))),
  (30, .inr (.inl (0, 4, [], []))),
  (31, .inr (.inl (0, 4, [(0, 3, [(0, 7)])], []))),
  (32, .inr (.inl (0, 4, [(0, 3, [(0, 7)])], []))),
  (33, .inl (1, [.inr (false, [(0, 8)]), .inr (false, [(0, 4)]), .inr (false, ar_t32), .inr (false, ar_t32), .inr (false, ar_t32), .inl 34, .inl 35, .inl 36, .inl 37, .inl 38, .inl 39, .inl 40, .inl 41])),
  (34, .inr (.inl (0, 8, [], []))),
  (35, .inr (.inl (0, 8, [], []))),
  (36, .inr (.inl (0, 8, [], []))),
  (37, .inr (.inl (0, 8, [], []))),
  (38, .inr (.inl (0, 4, [], []))),
  (39, .inr (.inl (0, 4, [], []))),
  (40, .inr (.inl (0, 4, [(0, 3, [(0, 7)])], []))),
  (41, .inr (.inl (0, 4, [(0, 3, [(0, 7)])], []))),
  (42, .inl (0, [.inr (false, [(0, 40)]), .inl 43, .inl 44, .inl 45])),
  (43, .inr (.inr (.inr ()))),
  (44, .inr (.inr (.inr ()))),
  (45, .inr (.inr (.inr ()))),
  (46, .inr (.inr (.inl (4, [47, 51, 55])))),
  (47, .inl (0, [.inr (false, [(-1, 40)]), .inl 48, .inl 49, .inl 50])),
  (48, .inr (.inr (.inr ()))),
  (49, .inr (.inr (.inr ()))),
  (50, .inr (.inr (.inr ()))),
  (51, .inl (0, [.inr (false, [(-1, 40)]), .inl 52, .inl 53, .inl 54])),
  (52, .inr (.inr (.inr ()))),
  (53, .inr (.inr (.inr ()))),
  (54, .inr (.inr (.inr ()))),
  (55, .inl (0, [.inr (false, [(-1, 40)]), .inl 56, .inl 57, .inl 58])),
  (56, .inr (.inr (.inr ()))),
  (57, .inr (.inr (.inr ()))),
  (58, .inr (.inr (.inr ()))),
  (59, .inr (.inr (.inl (2, [60, 61, 62, 63, 64, 65, 66, 67, 68, 69, 70, 71, 72, 73, 74, 75, 76, 77, 78, 79])))),
  (60, .inr (.inl (0, 8, [], []))),
  (61, .inr (.inl (0, 8, [], []))),
  (62, .inr (.inl (0, 8, [], []))),
  (63, .inr (.inl (0, 8, [], []))),
  (64, .inr (.inl (0, 8, [], []))),
  (65, .inr (.inl (0, 8, [], []))),
  (66, .inr (.inl (0, 8, [], []))),
  (67, .inr (.inl (0, 8, [], []))),
  (68, .inr (.inl (0, 8, [], []))),
  (69, .inr (.inl (0, 8, [], []))),
  (70, .inr (.inl (0, 8, [], []))),
  (71, .inr (.inl (0, 8, [], []))),
  (72, .inr (.inl (0, 8, [], []))),
  (73, .inr (.inl (0, 8, [], []))),
  (74, .inr (.inl (0, 8, [], []))),
  (75, .inr (.inl (0, 8, [], []))),
  (76, .inr (.inl (0, 8, [], []))),
  (77, .inr (.inl (0, 8, [], []))),
  (78, .inr (.inl (0, 8, [], []))),
  (79, .inr (.inl (0, 8, [], []))),
  (80, .inr (.inl (0, 6, [], [])))]
def mw (li mi : ar_R) (te : List (Nat × Nat × ar_R)) : aw_H := [(81, ms_o li mi ar_t32 ar_t32 [(0, 180)] [(0, 60)] [(-1, 60)] [(0, 8)] [(0, 4)]),
  (82, ms_r [(0, [(-1, 40)])]),
  (83, .inr (.inl (0, 8, [], []))),
  (84, .inr (.inl (0, 8, [], []))),
  (85, .inr (.inl (0, 4, [], []))),
  (86, .inr (.inl (0, 4, te, []))),
  (87, .inr (.inl (0, 6, [(0, 5, [(-1, 40)])], []))),
  (88, .inr (.inl (0, 240, [], []))),
  (89, .inr (.inl (0, 4, [(0, 3, [(-1, 60)])], []))),
  (90, .inr (.inl (0, 240, [], []))),
  (91, .inr (.inl (0, 6, [], []))),
  (92, .inr (.inl (0, 8, [], []))),
  (93, .inr (.inl (0, 8, [], []))),
  (94, .inr (.inl (0, 12, [(1, 1, [(0, 7)]), (4, 4, [(0, 7)]), (7, 7, [(0, 7)]), (10, 10, [(0, 7)])], [(2, ar_t32), (5, ar_t32), (8, ar_t32), (11, ar_t32)]))),
  (95, .inr (.inl (0, 168, [], []))),
  (96, .inr (.inl (0, 4, [(0, 3, [(0, 9)])], []))),
  (97, .inr (.inl (0, 5, [], [])))]
def mw_li (m : Nat) : ar_R := match m with
  | 0 => [(0, 8)]
  | _ + 1 => [(1, 8)]
def mw_te (m : Nat) : List (Nat × Nat × ar_R) := match m with
  | 0 => []
  | m + 1 => [(0, m, [(1, 9)])]
def mwG : aw_H := mw [(0, 8)] [(0, 4)] []
def mwm (m : Nat) : aw_H := mw (mw_li m) [((m : Int), (m : Int))] (mw_te m)
theorem mw_v (li mi a b c d e f g : ar_R) : ms_v li mi a b c d e f g = ((ms_v [(0, 8)] [(0, 4)] a b c d e f g).set 1 (.inr (false, li))).set 4 (.inr (false, mi)) := rfl
/-- lines, mice and teeth as they were: all as it was -/
theorem mw_keep {li mi : ar_R} {te : List (Nat × Nat × ar_R)} {h h' : List va_E} (hI : aw_h (mw li mi te) h) (hG : aw_h mwG h') (h86 : h'[86]? = h[86]?) (hf : fz_R h h') : aw_h (mw li mi te) h' := by
  have g81 : ∃ e, h'[81]? = some e ∧ aw_c (ms_o li mi ar_t32 ar_t32 [(0, 180)] [(0, 60)] [(-1, 60)] [(0, 8)] [(0, 4)]) e := by
    obtain ⟨e, he, fs, rfl, hl, hv⟩ := hI _ (List.mem_cons_self)
    obtain ⟨e', he', fs', rfl, hl', hv'⟩ := hG _ (List.mem_cons_self)
    obtain ⟨fs1, x1, x2, x3⟩ := hf fs he
    rw [he'] at x1
    cases x1
    refine ⟨_, he', fs', rfl, hl', fun k v w hk hw => ?_⟩
    rw [mw_v] at hk hv
    by_cases k4 : k = 4
    · subst k4
      exact hv 4 v w hk (by rw [← x3]; exact hw)
    · rw [List.getElem?_set_ne (fun z => k4 z.symm)] at hk
      by_cases k1 : k = 1
      · subst k1
        exact hv 1 v w (by rw [List.getElem?_set_ne (by decide)]; exact hk) (by rw [← x2]; exact hw)
      · rw [List.getElem?_set_ne (fun z => k1 z.symm)] at hk
        exact hv' k v w hk hw
  have g86 : ∃ e, h'[86]? = some e ∧ aw_c (.inr (.inl (0, 4, te, []))) e := by
    rw [h86]
    exact hI (86, .inr (.inl (0, 4, te, []))) (by unfold mw; simp)
  intro q hq
  unfold mw at hq
  rcases List.mem_cons.mp hq with rfl | hq
  · exact g81
  rcases List.mem_cons.mp hq with rfl | hq
  · exact hG _ (by unfold mwG mw; exact List.mem_cons_of_mem _ List.mem_cons_self)
  rcases List.mem_cons.mp hq with rfl | hq
  · exact hG _ (by unfold mwG mw; iterate 2 apply List.mem_cons_of_mem
                   exact List.mem_cons_self)
  rcases List.mem_cons.mp hq with rfl | hq
  · exact hG _ (by unfold mwG mw; iterate 3 apply List.mem_cons_of_mem
                   exact List.mem_cons_self)
  rcases List.mem_cons.mp hq with rfl | hq
  · exact hG _ (by unfold mwG mw; iterate 4 apply List.mem_cons_of_mem
                   exact List.mem_cons_self)
  rcases List.mem_cons.mp hq with rfl | hq
  · exact g86
  exact hG q (by unfold mwG mw; iterate 6 apply List.mem_cons_of_mem
                 exact hq)
/-- what is to be seen of a contract of the reference -/
def mg_b (W : aw_H) (c : ak_C) : Bool := ah_sub W c.2.2.1 && ((c.2.2.2.1.all fun a => Nat.ble 81 a && !(Nat.beq a 86)) && c.2.2.2.2.all fun q => ah_sub (ak_hp c.2.2.2.1 q.2.2 W) mwG)
/-- of a contract of the class -/
def kg_b (c : ak_C) : Bool := ah_sub kw c.2.2.1 && ((c.2.2.2.1.all fun a => Nat.blt a 81) && c.2.2.2.2.all fun q => ah_sub (ak_hp c.2.2.2.1 q.2.2 kw) kw)
/-- cells that are the same fit the same -/
theorem aw_same {H : aw_H} {h h' : List va_E} (hH : aw_h H h) (hs : ∀ q ∈ H, h'[q.1]? = h[q.1]?) : aw_h H h' := by
  intro q hq
  obtain ⟨e, he, hc⟩ := hH q hq
  exact ⟨e, by rw [hs q hq]; exact he, hc⟩
theorem kw_lt : (kw.all fun q => Nat.blt q.1 81) = true := by decide +kernel
theorem mw_ge (li mi : ar_R) (te : List (Nat × Nat × ar_R)) : ((mw li mi te).all fun q => Nat.ble 81 q.1) = true := rfl
theorem kw_same {h h' : List va_E} (hH : aw_h kw h) (hs : ∀ a, a < 81 → h'[a]? = h[a]?) : aw_h kw h' := aw_same hH (fun q hq => hs _ (Nat.le_of_ble_eq_true (List.all_eq_true.mp kw_lt q hq)))
theorem mw_same {li mi : ar_R} {te : List (Nat × Nat × ar_R)} {h h' : List va_E} (hH : aw_h (mw li mi te) h) (hs : ∀ a, 81 ≤ a → h'[a]? = h[a]?) : aw_h (mw li mi te) h' := aw_same hH (fun q hq => hs _ (Nat.le_of_ble_eq_true (List.all_eq_true.mp (mw_ge li mi te) q hq)))
/-- both sides' world: mice and teeth as the last register laid them -/
def lw_I (h : List va_E) : Prop := ps_h h ∧ aw_h kw h ∧ ∃ m : Nat, m < 5 ∧ aw_h (mwm m) h
/-! new T[n][m] over the machine: the row that the kit prints for it rests on a shelf that no round reaches; so by hand, out of what is reached. -/
def mu_o (c : ClassId) (N b i : Nat) : Cell := arrV c N (fun j => if j < i then .ref (b + j) else .null)
/-- the outer row and i inner ones laid -/
def mu_s (s : State) (c cc : ClassId) (N M : Nat) (v : Value) : Nat → State
  | 0 => s.pushCell (mu_o c N (s.heap.size + 1) 0)
  | i + 1 => ((mu_s s c cc N M v i).pushCell (arrV cc M (fun _ => v))).setCell s.heap.size (mu_o c N (s.heap.size + 1) (i + 1))
theorem mu_put (c : ClassId) (N b i : Nat) : (mu_o c N b i).setSlot i (.ref (b + i)) = mu_o c N b (i + 1) := by
  unfold mu_o
  rw [arrV_store]
  refine congrArg (arrV c N) (funext fun j => ?_)
  by_cases e : j = i
  · subst e
    simp [updV]
  · by_cases h : j < i
    · simp [updV, e, h, Nat.lt_succ_of_lt h]
    · simp [updV, e, h, show ¬ j < i + 1 by omega]
theorem mu_f (s : State) (c cc : ClassId) (N M : Nat) (v : Value) : ∀ i, (mu_s s c cc N M v i).heap.size = s.heap.size + 1 + i ∧ (mu_s s c cc N M v i).heap[s.heap.size]? = some (mu_o c N (s.heap.size + 1) i) ∧ (mu_s s c cc N M v i).vm = s.vm ∧ (mu_s s c cc N M v i).slotsUsed = s.slotsUsed + N + i * M ∧
    (∀ a, a < s.heap.size → (mu_s s c cc N M v i).heap[a]? = s.heap[a]?) ∧ ∀ j, j < i → (mu_s s c cc N M v i).heap[s.heap.size + 1 + j]? = some (arrV cc M (fun _ => v))
  | 0 => ⟨by simp [mu_s], by simp [mu_s], rfl, by simp [mu_s, mu_o, arrV_size], fun a ha => State.heap_pushCell_of_lt _ _ ha, fun j hj => absurd hj (Nat.not_lt_zero _)⟩
  | i + 1 => by
    obtain ⟨f1, f2, f3, f4, f5, f6⟩ := mu_f s c cc N M v i
    have lt0 : s.heap.size < (mu_s s c cc N M v i).heap.size := by omega
    have g2 : ((mu_s s c cc N M v i).pushCell (arrV cc M (fun _ => v))).heap[s.heap.size]? = some (mu_o c N (s.heap.size + 1) i) := by
      rw [State.heap_pushCell_of_lt (h := lt0)]
      exact f2
    refine ⟨?_, State.heap_setCell_self g2, by simp [mu_s, f3], ?_, fun a ha => ?_, fun j hj => ?_⟩
    · simp [mu_s, State.setCell, f1]
      omega
    · simp [mu_s, f4, arrV_size, Nat.succ_mul]
      omega
    · show (((mu_s s c cc N M v i).pushCell (arrV cc M (fun _ => v))).setCell s.heap.size _).heap[a]? = _
      have lt1 : a < (mu_s s c cc N M v i).heap.size := by omega
      rw [State.heap_setCell_other (Nat.ne_of_gt ha), State.heap_pushCell_of_lt (h := lt1)]
      exact f5 a ha
    · show (((mu_s s c cc N M v i).pushCell (arrV cc M (fun _ => v))).setCell s.heap.size _).heap[s.heap.size + 1 + j]? = _
      rw [State.heap_setCell_other (show s.heap.size ≠ s.heap.size + 1 + j by omega)]
      by_cases hji : j < i
      · have lt1 : s.heap.size + 1 + j < (mu_s s c cc N M v i).heap.size := by omega
        rw [State.heap_pushCell_of_lt (h := lt1)]
        exact f6 j hji
      · rw [show s.heap.size + 1 + j = (mu_s s c cc N M v i).heap.size by omega]
        exact State.heap_pushCell_size _ _
theorem mu_top (s : State) (f : JFrame) (c cc : ClassId) (N M : Nat) (v : Value) : ∀ i, mu_s (s.setTop f) c cc N M v i = (mu_s s c cc N M v i).setTop f
  | 0 => rfl
  | i + 1 => by simp only [mu_s, mu_top s f c cc N M v i, State.heap_setTop, State.pushCell_setTop, State.setCell_setTop]
section MUW
variable {E : CtlPost} {e : Env} {d : Bool} {acts : List Action} {s : State}
theorem mu_new {c cc : ClassId} {k : Class} {ty : FieldType} {n : Nat} {v : Value} (hk : s.vm.classes[c]? = some k) (hkd : k.kind = .array cc ty) (h1 : ¬ n > e.platform.arrayLengthLimit) (h2 : ¬ n * componentBytes ty > e.platform.maxHeapBytes) (h3 : fits ty v = true) (h4 : v.isDefault = true) (h5 : s.heap.size < e.platform.maxCells) (h6 : s.slotsUsed + n ≤ e.platform.maxSlots) {Q : Addr → Pre} (hq : Q s.heap.size d acts (s.pushCell (arrV c n (fun _ => v)))) : wp (Jvm.newArray c n v) Q E e d acts s := by
  have hf : ∀ i w, (Array.replicate n v)[i]? = some w → s.fitsSlot c .none i w = true := by
    intro i w hw
    rw [Array.getElem?_replicate] at hw
    by_cases hi : i < n
    · rw [if_pos hi] at hw
      cases hw
      simp [State.fitsSlot, State.slotType?, hk, hkd, h3]
    · rw [if_neg hi] at hw
      cases hw
  have ha : allocActs (Array.replicate n v) s.heap.size acts = acts := by
    have al : ((Array.replicate n v).all (·.isDefault)) = true := by
      rw [Array.all_replicate]
      split <;> simp [h4]
    unfold allocActs
    rw [if_pos al]
  rw [← arrV_new] at hq
  simp only [Jvm.newArray, Jvm.arrayFits, wp_bind', W.ask, W.ite, h1, if_false, wp_pure', W.theClass, hk, hkd, h2, W.alloc, W.stop, Option.some.injEq, exists_eq_left', Array.size_replicate, ha]
  rw [if_neg (by omega)]
  exact ⟨h5, h6, hf, hq⟩
theorem mu_ref {t : FieldType} (h : t.isReference = true) (v : Value) (hv : v = .null ∨ ∃ a, v = .ref a) : fits t v = true := by
  rcases hv with rfl | ⟨a, rfl⟩ <;> cases t <;> first | rfl | (cases h; done)
theorem mu_1 {c cc : ClassId} {k : Class} {ty : FieldType} {n : Int32} (hk : s.vm.classes[c]? = some k) (hkd : k.kind = .array cc ty) (hn : ¬ n < 0) (h1 : ¬ n.toNatClampNeg > e.platform.arrayLengthLimit) (h2 : ¬ n.toNatClampNeg * componentBytes ty > e.platform.maxHeapBytes) (h3 : fits ty (defaultValue ty) = true) (h4 : (defaultValue ty).isDefault = true) (h5 : s.heap.size < e.platform.maxCells) (h6 : s.slotsUsed + n.toNatClampNeg ≤ e.platform.maxSlots) {Q : Addr → Pre} (hq : Q s.heap.size d acts (s.pushCell (arrV c n.toNatClampNeg (fun _ => defaultValue ty)))) : wp (multianewarray.make c [n]) Q E e d acts s := by
  rw [multianewarray.make]
  simp only [wp_bind', W.ite, hn, if_false, wp_pure', W.theClass, hk, hkd, Option.some.injEq, exists_eq_left']
  exact mu_new hk hkd h1 h2 h3 h4 h5 h6 hq
theorem mu_2 {c cc c3 : ClassId} {k kc : Class} {t0 ty : FieldType} {n m : Int32} (hk : s.vm.classes[c]? = some k) (hkd : k.kind = .array cc t0) (hr : t0.isReference = true) (hkc : s.vm.classes[cc]? = some kc) (hkcd : kc.kind = .array c3 ty) (hn : ¬ n < 0) (hm : ¬ m < 0)
    (h1 : ¬ n.toNatClampNeg > e.platform.arrayLengthLimit) (h2 : ¬ n.toNatClampNeg * componentBytes t0 > e.platform.maxHeapBytes) (h3 : ¬ m.toNatClampNeg > e.platform.arrayLengthLimit) (h4 : ¬ m.toNatClampNeg * componentBytes ty > e.platform.maxHeapBytes) (h5 : fits ty (defaultValue ty) = true) (h6 : (defaultValue ty).isDefault = true) (h7 : s.heap.size + 1 + n.toNatClampNeg ≤ e.platform.maxCells) (h8 : s.slotsUsed + n.toNatClampNeg + n.toNatClampNeg * m.toNatClampNeg ≤ e.platform.maxSlots)
    {Q : Addr → Pre} (hq : ∀ d' acts', Q s.heap.size d' acts' (mu_s s c cc n.toNatClampNeg m.toNatClampNeg (defaultValue ty) n.toNatClampNeg)) : wp (multianewarray.make c [n, m]) Q E e d acts s := by
  have hnone : ([m].find? (· < 0)) = none := by simp [hm]
  generalize hN : n.toNatClampNeg = N at *
  generalize hM : m.toNatClampNeg = M at *
  rw [multianewarray.make]
  simp only [wp_bind', W.ite, hn, if_false, wp_pure', W.theClass, hk, hkd, Option.some.injEq, exists_eq_left', hN]
  have z := Nat.zero_le (N * M)
  refine mu_new hk hkd h1 h2 (mu_ref hr _ (Or.inl rfl)) rfl (by omega) (by omega) ?_
  simp only [hnone]
  rw [ite_self, wp_bind', Std.Legacy.Range.forIn_eq_forIn_range', show ([:N] : Std.Legacy.Range).size = N by simp [Std.Legacy.Range.size]]
  refine wp_forIn_inv (fun r t => ∃ i, i ≤ N ∧ r = List.range' i (N - i) ∧ t = mu_s s c cc N M (defaultValue ty) i) _ _ ⟨0, Nat.zero_le _, rfl, rfl⟩ ?_ ?_
  · intro x r t d' a' Q' hI hx
    obtain ⟨i, hi, hl, rfl⟩ := hI
    by_cases hlt : i < N
    · rw [show N - i = (N - (i + 1)) + 1 by omega, List.range'_succ] at hl
      obtain ⟨rfl, hr'⟩ := List.cons.inj hl
      obtain ⟨f1, f2, f3, f4, f5, f6⟩ := mu_f s c cc N M (defaultValue ty) x
      have mul : x * M + M ≤ N * M := by
        have := Nat.mul_le_mul_right M (show x + 1 ≤ N from hlt)
        rw [Nat.succ_mul] at this
        exact this
      have lt0 : s.heap.size < (mu_s s c cc N M (defaultValue ty) x).heap.size := by omega
      simp only [wp_bind']
      refine mu_1 (k := kc) (cc := c3) (by rw [f3]; exact hkc) hkcd hm (by rw [hM]; exact h3) (by rw [hM]; exact h4) h5 h6 (by rw [f1]; omega) (by rw [f4, hM]; omega) ?_
      rw [hM]
      simp only [wp_bind', W.writeLoc, wp_pure']
      refine ⟨mu_o c N (s.heap.size + 1) x, by rw [State.heap_pushCell_of_lt (h := lt0)]; exact f2, by simp [mu_o, arrV], by rw [mu_o, arrV_size]; exact hlt, ?_, hx _ _ _ ⟨x + 1, hlt, hr', ?_⟩⟩
      · simp [mu_o, arrV, State.fitsSlot, State.slotType?, f3, hk, hkd, mu_ref hr _ (Or.inr ⟨_, rfl⟩)]
      · rw [f1, mu_put]
        rfl
    · rw [show N - i = 0 by omega] at hl
      cases hl
  · intro t d' a' hI
    obtain ⟨i, hi, hl, rfl⟩ := hI
    by_cases hlt : i < N
    · rw [show N - i = (N - (i + 1)) + 1 by omega, List.range'_succ] at hl
      cases hl
    · rw [show i = N by omega]
      simp only [wp_pure']
      exact hq _ _
end MUW
section MUS
variable {p : Program} {l : Launch} {e : Env} {R : Room} {s : State} {m : MethodId} {args : Array Value} {below : List Frame} {meth : Method} {c : Code} {T : State} {locs : List Loc} {cells slots : Nat}
theorem mu_st (X : Stand p l e R s m args below meth c T locs cells slots) (c1 c2 : ClassId) (N M : Nat) (v : Value) : ∀ i, ∃ L : List Loc, (∀ q ∈ L, q.base = T.heap.size) ∧ Stand p l e R s m args below meth c (mu_s T c1 c2 N M v i) (locs ++ L) (cells + 1 + i) (slots + N + i * M)
  | 0 => ⟨[], fun _ h => absurd h List.not_mem_nil, by
    have h := X.pushed (mu_o c1 N (T.heap.size + 1) 0)
    rw [show (mu_o c1 N (T.heap.size + 1) 0).slots.size = N from arrV_size _ _ _] at h
    simpa [mu_s] using h⟩
  | i + 1 => by
    obtain ⟨L, hL, Y⟩ := mu_st X c1 c2 N M v i
    obtain ⟨f1, f2, -⟩ := mu_f T c1 c2 N M v i
    have g2 : ((mu_s T c1 c2 N M v i).pushCell (arrV c2 M (fun _ => v))).heap[T.heap.size]? = some (mu_o c1 N (T.heap.size + 1) i) := by
      have lt1 : T.heap.size < (mu_s T c1 c2 N M v i).heap.size := by omega
      rw [State.heap_pushCell_of_lt (h := lt1)]
      exact f2
    have h := (Y.pushed (arrV c2 M (fun _ => v))).stored g2 i (.ref (T.heap.size + 1 + i))
    rw [arrV_size, mu_put, List.append_assoc] at h
    refine ⟨L ++ [⟨T.heap.size, i⟩], fun q hq => ?_, ?_⟩
    · rcases List.mem_append.mp hq with hq | hq
      · exact hL q hq
      · rw [List.mem_singleton] at hq
        rw [hq]
    · rw [Nat.succ_mul, ← Nat.add_assoc (slots + N)]
      exact h
theorem mu_go (X : Stand p l e R s m args below meth c T locs cells slots) (hexec : p.tables.exec = Jvm.exec) {own : String} {index : Nat} {ty : FieldType} (hown : s.vm.findClass own = some m.cls) (hlink : (Cond.classLink own index ("[" ++ (FieldType.array ty).toString)).before args s = true) (hover : (Cond.arrayOver (.array ty)).before args s = true) (harr : (Cond.arrayClass ty).before args s = true)
    {g : JFrame} (hg : g.method = m) (hdg : decode c.code g.pc = .ok (.multianewarray index 2, 4)) {n k : Int32} {rest : List Value} (hst : g.stack = .int k :: .int n :: rest) (hn : ¬ n < 0) (hk : ¬ k < 0) (b1 : n.toNatClampNeg * 4 ≤ 536870912) (b2 : k.toNatClampNeg * componentBytes ty ≤ 536870912) (b3 : k.toNatClampNeg ≤ 536870912) (df : fits ty (defaultValue ty) = true) (dd : (defaultValue ty).isDefault = true) (hcells : cells + (1 + n.toNatClampNeg) ≤ R.cells) (hslots : slots + (n.toNatClampNeg + n.toNatClampNeg * k.toNatClampNeg) ≤ R.slots) :
    ∃ (vm₁ : Vm) (cA cC : ClassId), s.vm.findClass ("[" ++ (FieldType.array ty).toString) = some cA ∧ s.vm.findClass (FieldType.array ty).toString = some cC ∧ Stand p l e R s m args below meth c (mu_s (T.setVm vm₁) cA cC n.toNatClampNeg k.toNatClampNeg (defaultValue ty) n.toNatClampNeg) locs (cells + 1 + n.toNatClampNeg) (slots + n.toNatClampNeg + n.toNatClampNeg * k.toNatClampNeg) ∧
      ∀ target, Steps p.tables e below ((mu_s (T.setVm vm₁) cA cC n.toNatClampNeg k.toNatClampNeg (defaultValue ty) n.toNatClampNeg).setTop { g with pc := g.pc + 4, stack := .ref T.heap.size :: rest }) target → Steps p.tables e below (T.setTop g) target := by
  subst hg
  obtain ⟨cC, cA, kA, e1, -, e2, e3, e4⟩ := arrayOverA_spec hover
  obtain ⟨cC', kC, c3, e5, e6, e7⟩ := Cond.arrayClass_spec harr
  cases e5.symm.trans e1
  obtain ⟨c0, e8, hcl⟩ := Cond.classLink_spec hown hlink e.platform (by rw [X.admits.platform])
  cases e4.symm.trans e8
  obtain ⟨w1, w2, w3⟩ := State.classEntry (e := e) X.warmed hcl
  generalize T.vm.noted g.method.cls index (.cls cA) = vm₁ at w1 w2 w3
  have al : s.vm.Alike vm₁ := w2.alike
  obtain ⟨kA₁, a1, a2⟩ := al.2.2 _ _ e2
  obtain ⟨kC₁, a3, a4⟩ := al.2.2 _ _ e6
  have X₁ := X.noted w2
  obtain ⟨L, hL, XF⟩ := mu_st X₁ cA cC n.toNatClampNeg k.toNatClampNeg (defaultValue ty) n.toNatClampNeg
  have XD := Stand.dropFresh XF (fun q hq => by rw [hL q hq]; exact X.heapGrown)
  obtain ⟨r1, r2⟩ := X.roomAbove hcells hslots
  refine ⟨vm₁, cA, cC, e4, e1, XD, fun target go => ?_⟩
  have p1 := Launch.admits_arrayLengthLimit X.admits
  have p2 := Launch.admits_maxHeapBytes X.admits
  jvm_step X.here [hexec, hdg]
  simp only [multianewarray.sem, wp_bind', W.resolveClassAt_links (State.method?_setTop g X.here.top) w1]
  rw [W.popN, if_neg (by decide)]
  refine ⟨g, State.topJava?_setTop' (s := T.setVm vm₁) g X.here.top, [.int n, .int k], rest, rfl, hst, ?_⟩
  simp only [List.mapM_cons, List.mapM_nil, wp_bind', wp_pure']
  refine mu_2 (k := kA₁) (kc := kC₁) (cc := cC) (c3 := c3) (t0 := .array ty) (ty := ty) a1 (by rw [a2]; exact e3) rfl a3 (by rw [a4]; exact e7) hn hk (by rw [p1]; omega) (by rw [p2]; show ¬ n.toNatClampNeg * 4 > 536870912; omega) (by rw [p1]; omega) (by rw [p2]; omega) df dd (by show T.heap.size + 1 + _ ≤ _; omega) (by show T.slotsUsed + _ + _ ≤ _; omega) (fun d' acts' => ?_)
  rw [show ((T.setTop g).setVm vm₁).setTop { g with stack := rest } = (T.setVm vm₁).setTop { g with stack := rest } by
    show ((T.setVm vm₁).setTop g).setTop _ = _
    rw [State.setTop_setTop], mu_top]
  simp only [wp_bind', W.mark, W.pushRef, State.topJava?_setTop' _ XF.here.top, Option.some.injEq, exists_eq_left', State.setTop_setTop, State.heap_setTop]
  intro acts
  simp [jvm, XF.here.top]
  exact go
end MUS
section MUN
variable {p : Program} {l : Launch} {e : Env} {R : Room} {s : State} {m : MethodId} {args : Array Value} {below : List Frame} {meth : Method} {c : Code} {H : Heap} {locs : List Loc} {cells slots : Nat} {Q : State → Prop} {cc : ByteArray} {pc : Nat} {ls : Array Slot} {rest : List Value}
theorem mu_W (hexec : p.tables.exec = Jvm.exec) (hb : c.code = cc) {own : String} {index : Nat} {ty : FieldType} (hown : s.vm.findClass own = some m.cls) (hlink : (Cond.classLink own index ("[" ++ (FieldType.array ty).toString)).before args s = true) (hover : (Cond.arrayOver (.array ty)).before args s = true) (harr : (Cond.arrayClass ty).before args s = true) {n k : Int32} {N M : Nat} (hn : ¬ n < 0) (hk : ¬ k < 0) (hN : n.toNatClampNeg = N) (hM : k.toNatClampNeg = M) (b1 : N * 4 ≤ 536870912) (b2 : M * componentBytes ty ≤ 536870912) (b3 : M ≤ 536870912) (df : fits ty (defaultValue ty) = true) (dd : (defaultValue ty).isDefault = true) (hcells : cells + (1 + N) ≤ R.cells) (hslots : slots + (N + N * M) ≤ R.slots) (hdg : decode cc pc = .ok (.multianewarray index 2, 4))
    (kk : ∀ (cA cC : ClassId) (H1 : Heap), s.vm.findClass ("[" ++ (FieldType.array ty).toString) = some cA → s.vm.findClass (FieldType.array ty).toString = some cC → H1.size = H.size + 1 + N → (∀ a, a < H.size → H1[a]? = H[a]?) → H1[H.size]? = some (arrV cA N (fun j => va_rf (if j < N then some (H.size + 1 + j) else none))) → (∀ j, j < N → H1[H.size + 1 + j]? = some (arrV cC M (fun _ => defaultValue ty))) → W p l e R s m args below meth c H1 locs (cells + 1 + N) (slots + N + N * M) Q (F0 m (pc + 4) ls (.ref H.size :: rest))) : W p l e R s m args below meth c H locs cells slots Q (F0 m pc ls (.int k :: .int n :: rest)) := by
  intro T hT X
  subst hT; subst hb; subst hN; subst hM
  obtain ⟨vm₁, cA, cC, e1, e2, X', st⟩ := mu_go X hexec hown hlink hover harr (g := F0 m pc ls (.int k :: .int n :: rest)) rfl hdg rfl hn hk b1 b2 b3 df dd hcells hslots
  obtain ⟨f1, f2, -, -, f5, f6⟩ := mu_f (T.setVm vm₁) cA cC n.toNatClampNeg k.toNatClampNeg (defaultValue ty) n.toNatClampNeg
  obtain ⟨t, a1, b1⟩ := kk cA cC (mu_s (T.setVm vm₁) cA cC n.toNatClampNeg k.toNatClampNeg (defaultValue ty) n.toNatClampNeg).heap e1 e2 f1 f5 (by
    rw [show T.heap.size = (T.setVm vm₁).heap.size from rfl, f2]
    refine congrArg some (congrArg (arrV cA n.toNatClampNeg) (funext fun j => ?_))
    by_cases h : j < n.toNatClampNeg
    · rw [if_pos h, if_pos h]; rfl
    · rw [if_neg h, if_neg h]; rfl) f6 _ rfl X'
  exact ⟨t, st t a1, b1⟩
end MUN
/-! Constructors: a small machine that makes cells; its cells are data. -/
abbrev si_E : Type := (Nat × List Value) ⊕ (Nat × Nat × List (Nat × Int32)) ⊕ (Nat × List (Option Nat))
def si_f : List (Nat × Int32) → Nat → Int32
  | [], _ => 0
  | q :: r, j => if j = q.1 then q.2 else si_f r j
def si_g (cs : List (Option Nat)) (j : Nat) : Option Nat := (cs[j]?).join
def si_d (e : si_E) : va_E := match e with
  | .inl (ci, fs) => .inr (ci, fs)
  | .inr (.inl (t, n, us)) => .inl (t, n, .inl (si_f us))
  | .inr (.inr (t, cs)) => .inl (t, cs.length, .inr (.inr (.inr (.inr (si_g cs)))))
abbrev si_h (hh : List si_E) : List va_E := hh.map si_d
theorem si_h_get {hh : List si_E} {a : Nat} {e : si_E} (h : hh[a]? = some e) : (si_h hh)[a]? = some (si_d e) := by
  rw [List.getElem?_map, h]
  rfl
theorem si_h_set (hh : List si_E) (a : Nat) (e : si_E) : (si_h hh).set a (si_d e) = si_h (hh.set a e) := List.map_set.symm
/-- references to cells that there are, or to the two that are no cells of ours -/
def si_vk (n : Nat) (v : Value) : Bool := match v with
  | .ref r => Nat.blt r n || Nat.ble 900 r
  | _ => true
def si_ok (n : Nat) (o : Option Nat) : Bool := match o with
  | some r => Nat.blt r n
  | none => true
def si_ek (n : Nat) (e : si_E) : Bool := match e with
  | .inl (_, fs) => fs.all (si_vk n)
  | .inr (.inl _) => true
  | .inr (.inr (_, cs)) => cs.all (si_ok n)
def si_wf (hh : List si_E) (lv : sm_L) (st : List Value) : Bool := Nat.blt hh.length 800 && (hh.all (si_ek hh.length) && (lv.all (fun q => si_vk hh.length q.2) && st.all (si_vk hh.length)))
def si_ag (n : Nat) (ad ad' : Nat → Nat) : Prop := ∀ k, k < n ∨ 900 ≤ k → ad' k = ad k
theorem si_v_ag {n : Nat} {ad ad' : Nat → Nat} {v : Value} (h : si_vk n v = true) (ha : si_ag n ad ad') : sm_v ad' v = sm_v ad v := by
  cases v with
  | ref r =>
    have hr : r < n ∨ 900 ≤ r := by
      rcases (Bool.or_eq_true _ _).mp h with h | h
      · exact Or.inl (Nat.le_of_ble_eq_true h)
      · exact Or.inr (Nat.le_of_ble_eq_true h)
    show Value.ref (ad' r) = Value.ref (ad r)
    rw [ha r hr]
  | int x => rfl
  | long x => rfl
  | float x => rfl
  | double x => rfl
  | null => rfl
  | retAddr x => rfl
theorem si_g_mem {cs : List (Option Nat)} {j r : Nat} (h : si_g cs j = some r) : some r ∈ cs := by
  unfold si_g at h
  cases hj : cs[j]? with
  | none => rw [hj] at h; cases h
  | some o =>
    rw [hj] at h
    have h : o = some r := h
    subst h
    exact List.mem_of_getElem? hj
theorem si_e_ag {cid : Nat → ClassId} {n : Nat} {ad ad' : Nat → Nat} {e : si_E} (h : si_ek n e = true) (ha : si_ag n ad ad') : sm_e cid ad' (si_d e) = sm_e cid ad (si_d e) := by
  match e, h with
  | .inl (ci, fs), h =>
    show (Sum.inr (ci, fs.map (sm_v ad')) : va_E) = Sum.inr (ci, fs.map (sm_v ad))
    rw [List.map_congr_left (fun v hv => si_v_ag (List.all_eq_true.mp h v hv) ha)]
  | .inr (.inl _), _ => rfl
  | .inr (.inr (t, cs)), h =>
    have e : (fun j => (si_g cs j).map ad') = fun j => (si_g cs j).map ad := funext fun j => by
      cases hj : si_g cs j with
      | none => rfl
      | some r =>
        have hr : Nat.blt r n = true := List.all_eq_true.mp h _ (si_g_mem hj)
        show some (ad' r) = some (ad r)
        rw [ha r (Or.inl (Nat.le_of_ble_eq_true hr))]
    show (Sum.inl (cid t, cs.length, .inr (.inr (.inr (.inr (fun j => (si_g cs j).map ad'))))) : va_E) = Sum.inl (cid t, cs.length, .inr (.inr (.inr (.inr (fun j => (si_g cs j).map ad)))))
    rw [e]
theorem si_w_ag {cid : Nat → ClassId} {n : Nat} {ad ad' : Nat → Nat} {hh : List si_E} (h : hh.all (si_ek n) = true) (hl : hh.length ≤ n) (ha : si_ag n ad ad') : sm_w cid ad' (si_h hh) = sm_w cid ad (si_h hh) := by
  unfold sm_w
  apply List.ext_getElem?
  intro i
  rw [List.getElem?_mapIdx, List.getElem?_mapIdx, List.getElem?_map]
  cases hi : hh[i]? with
  | none => rfl
  | some x =>
    show some (ad' i, sm_e cid ad' (si_d x)) = some (ad i, sm_e cid ad (si_d x))
    rw [ha i (Or.inl (Nat.lt_of_lt_of_le (List.getElem?_eq_some_iff.mp hi).1 hl)), si_e_ag (List.all_eq_true.mp h x (List.mem_of_getElem? hi)) ha]
theorem si_lv_ag {n : Nat} {ad ad' : Nat → Nat} {lv : sm_L} (h : lv.all (fun q => si_vk n q.2) = true) (ha : si_ag n ad ad') : sm_lv ad' lv = sm_lv ad lv := by
  unfold sm_lv
  apply List.map_congr_left
  intro q hq
  rw [si_v_ag (List.all_eq_true.mp h q hq) ha]
theorem si_st_ag {n : Nat} {ad ad' : Nat → Nat} {st : List Value} (h : st.all (si_vk n) = true) (ha : si_ag n ad ad') : st.map (sm_v ad') = st.map (sm_v ad) :=
  List.map_congr_left fun v hv => si_v_ag (List.all_eq_true.mp h v hv) ha
theorem si_wf_s {hh : List si_E} {lv : sm_L} {st : List Value} (h : si_wf hh lv st = true) : hh.length < 800 ∧ hh.all (si_ek hh.length) = true ∧ lv.all (fun q => si_vk hh.length q.2) = true ∧ st.all (si_vk hh.length) = true := by
  obtain ⟨h1, h⟩ := sm_an h
  obtain ⟨h2, h⟩ := sm_an h
  obtain ⟨h3, h4⟩ := sm_an h
  exact ⟨Nat.le_of_ble_eq_true h1, h2, h3, h4⟩
/-- one cell more, at q -/
def si_u (ad : Nat → Nat) (n q : Nat) : Nat → Nat := fun k => if k = n then q else ad k
theorem si_u_ag {ad : Nat → Nat} {n q : Nat} (hn : n < 800) : si_ag n ad (si_u ad n q) := by
  intro k hk
  unfold si_u
  rw [if_neg (by omega)]
theorem si_w_1 {cid : Nat → ClassId} {ad : Nat → Nat} {hh : List si_E} {e : si_E} {q : Nat} (hn : hh.length < 800) (h : hh.all (si_ek hh.length) = true) (he : si_ek hh.length e = true) : sm_w cid (si_u ad hh.length q) (si_h (hh ++ [e])) = sm_w cid ad (si_h hh) ++ [(q, sm_e cid ad (si_d e))] := by
  have a := si_w_ag (cid := cid) h (Nat.le_refl _) (si_u_ag (ad := ad) (q := q) hn)
  have e1 : si_h (hh ++ [e]) = si_h hh ++ [si_d e] := by simp [si_h]
  rw [← a, e1]
  unfold sm_w
  rw [List.mapIdx_concat, List.length_map, si_e_ag he (si_u_ag hn)]
  unfold si_u
  rw [if_pos rfl]
/-- the data's parts -/
def si_obj (hh : List si_E) (a ci : Nat) : Option (List Value) := match hh[a]? with
  | some (.inl (c, fs)) => if c = ci then some fs else none
  | _ => none
def si_ints (hh : List si_E) (a : Nat) : Option (Nat × List (Nat × Int32)) := match hh[a]? with
  | some (.inr (.inl (t, n, us))) => if t = 0 then some (n, us) else none
  | _ => none
def si_refs (hh : List si_E) (a : Nat) : Option (Nat × List (Option Nat)) := match hh[a]? with
  | some (.inr (.inr q)) => if 2 ≤ q.1 ∧ q.1 < 5 then some q else none
  | _ => none
theorem si_obj_s {hh : List si_E} {a ci : Nat} {fs : List Value} (h : si_obj hh a ci = some fs) : hh[a]? = some (.inl (ci, fs)) := by
  unfold si_obj at h
  split at h
  · rename_i c fs' hh'
    by_cases hc : c = ci
    · rw [if_pos hc] at h
      cases h
      subst hc
      exact hh'
    · rw [if_neg hc] at h
      cases h
  · cases h
theorem si_ints_s {hh : List si_E} {a n : Nat} {us : List (Nat × Int32)} (h : si_ints hh a = some (n, us)) : hh[a]? = some (.inr (.inl (0, n, us))) := by
  unfold si_ints at h
  split at h
  · rename_i t n' us' hh'
    by_cases ht : t = 0
    · rw [if_pos ht] at h
      cases h
      subst ht
      exact hh'
    · rw [if_neg ht] at h
      cases h
  · cases h
theorem si_refs_s {hh : List si_E} {a : Nat} {q : Nat × List (Option Nat)} (h : si_refs hh a = some q) : hh[a]? = some (.inr (.inr q)) ∧ 2 ≤ q.1 ∧ q.1 < 5 := by
  unfold si_refs at h
  split at h
  · rename_i q' hh'
    by_cases hq : 2 ≤ q'.1 ∧ q'.1 < 5
    · rw [if_pos hq] at h
      cases h
      exact ⟨hh', hq⟩
    · rw [if_neg hq] at h
      cases h
  · cases h
theorem si_obj_m {hh : List si_E} {a ci : Nat} {fs : List Value} (h : hh[a]? = some (.inl (ci, fs))) : sm_obj (si_h hh) a ci = some fs := by
  unfold sm_obj
  rw [si_h_get h]
  exact if_pos rfl
/-- instructions that leave the cells alone -/
def si_pure (i : Instr) : Bool := match i with
  | .iconst _ => true
  | .bipush _ => true
  | .sipush _ => true
  | .lconst _ => true
  | .aload_n _ => true
  | .iload_n _ => true
  | .istore_n _ => true
  | .astore_n _ => true
  | .iinc _ _ => true
  | .iadd => true
  | .imul => true
  | .goto _ => true
  | .if_icmp _ _ => true
  | .dup => true
  | _ => false
theorem si_pure_s {K : sm_K} {i : Instr} {n pc : Nat} {lv : sm_L} {st : List Value} {h : List va_E} {t : sm_T} (hp : si_pure i = true) (hs : sm_step K i n pc lv st [] = some t) : sm_step K i n pc lv st h = some (t.1, t.2.1, t.2.2.1, h) := by
  unfold si_pure at hp
  split at hp
  · obtain ⟨c, hs⟩ := sm_if hs
    cases hs
    exact if_pos c
  · obtain ⟨c, hs⟩ := sm_if hs
    cases hs
    exact if_pos c
  · obtain ⟨c, hs⟩ := sm_if hs
    cases hs
    exact if_pos c
  · obtain ⟨c, hs⟩ := sm_if hs
    cases hs
    exact if_pos c
  · obtain ⟨c, hs⟩ := sm_if hs
    obtain ⟨v, hv, hs⟩ := sm_bd hs
    obtain ⟨x, r, e, hs⟩ := sm_r1_s hs
    cases e
    cases hs
    refine (if_pos c).trans ?_
    rw [hv]
    rfl
  · obtain ⟨c, hs⟩ := sm_if hs
    obtain ⟨v, hv, hs⟩ := sm_bd hs
    obtain ⟨x, r, e, hs⟩ := sm_i1_s hs
    cases e
    cases hs
    refine (if_pos c).trans ?_
    rw [hv]
    rfl
  · obtain ⟨c, hs⟩ := sm_if hs
    obtain ⟨x, r, e, hs⟩ := sm_i1_s hs
    subst e
    cases hs
    exact if_pos c
  · obtain ⟨c, hs⟩ := sm_if hs
    obtain ⟨x, r, e, hs⟩ := sm_r1_s hs
    subst e
    cases hs
    exact if_pos c
  · obtain ⟨c, hs⟩ := sm_if hs
    obtain ⟨v, hv, hs⟩ := sm_bd hs
    obtain ⟨x, r, e, hs⟩ := sm_i1_s hs
    cases e
    cases hs
    refine (if_pos c).trans ?_
    rw [hv]
    rfl
  · obtain ⟨c, hs⟩ := sm_if hs
    obtain ⟨x, y, r, e, hs⟩ := sm_i2_s hs
    subst e
    cases hs
    exact if_pos c
  · obtain ⟨c, hs⟩ := sm_if hs
    obtain ⟨x, y, r, e, hs⟩ := sm_i2_s hs
    subst e
    cases hs
    exact if_pos c
  · obtain ⟨c, hs⟩ := sm_if hs
    obtain ⟨u, hu, hs⟩ := sm_bd hs
    cases hs
    refine (if_pos c).trans ?_
    rw [hu]
    rfl
  · obtain ⟨c, hs⟩ := sm_if hs
    obtain ⟨u, hu, hs⟩ := sm_bd hs
    obtain ⟨x, y, r, e, hs⟩ := sm_i2_s hs
    subst e
    cases hs
    refine (if_pos c).trans ?_
    rw [hu]
    rfl
  · obtain ⟨c, hs⟩ := sm_if hs
    split at hs
    · rename_i v r
      obtain ⟨c2, hs⟩ := sm_if hs
      cases hs
      refine (if_pos c).trans ?_
      exact if_pos c2
    · cases hs
  · cases hp
/-- what is known of a constructor: its table; constants and fields; new, new T[n][m], new T[n], calls; its class' number; what one step may lay: cells, places -/
abbrev si_P : Type := (Nat → Option (Instr × Nat)) × sm_K × (Nat → Option (Nat × List Value)) × (Nat → Option Nat) × (Nat → Bool) × (Nat → Option (Option Nat)) × Nat × Nat × Nat
abbrev si_T : Type := Nat × sm_L × List Value × List si_E
def si_step (B : si_P) (i : Instr) (n pc : Nat) (lv : sm_L) (st : List Value) (hh : List si_E) : Option si_T := match i with
  | .new x => if n = 3 ∧ si_wf hh lv st = true ∧ 1 ≤ B.2.2.2.2.2.2.2.1 then (B.2.2.1 x).bind fun q => if q.2.length ≤ B.2.2.2.2.2.2.2.2 ∧ q.2.all (si_vk hh.length) = true then some (pc + 3, lv, .ref hh.length :: st, hh ++ [.inl q]) else none else none
  | .newarray a => (match a with
      | .int => if n = 2 ∧ si_wf hh lv st = true ∧ 1 ≤ B.2.2.2.2.2.2.2.1 then sm_i1 st fun k r => if k < 0 ∨ B.2.2.2.2.2.2.2.2 < k.toNatClampNeg ∨ 9000 < k.toNatClampNeg then none else some (pc + 2, lv, .ref hh.length :: r, hh ++ [.inr (.inl (0, k.toNatClampNeg, []))]) else none
      | _ => none)
  | .multianewarray x d => if n = 4 ∧ d = 2 ∧ si_wf hh lv st = true then sm_i2 st fun c k r => (B.2.2.2.1 x).bind fun t => if c < 0 ∨ k < 0 ∨ B.2.2.2.2.2.2.2.1 < 1 + c.toNatClampNeg ∨ B.2.2.2.2.2.2.2.2 < c.toNatClampNeg + c.toNatClampNeg * k.toNatClampNeg ∨ 90 < c.toNatClampNeg ∨ 900 < k.toNatClampNeg then none else some (pc + 4, lv, .ref hh.length :: r, hh ++ (.inr (.inr (t, (List.range c.toNatClampNeg).map fun j => some (hh.length + 1 + j))) :: List.replicate c.toNatClampNeg (.inr (.inl (t - 2, k.toNatClampNeg, []))))) else none
  | .anewarray x => if n = 3 ∧ si_wf hh lv st = true ∧ 1 ≤ B.2.2.2.2.2.2.2.1 ∧ B.2.2.2.2.1 x = true then sm_i1 st fun k r => if k < 0 ∨ B.2.2.2.2.2.2.2.2 < k.toNatClampNeg ∨ 900 < k.toNatClampNeg then none else some (pc + 3, lv, .ref hh.length :: r, hh ++ [.inr (.inr (4, List.replicate k.toNatClampNeg none))]) else none
  | .putfield x => if n = 3 then (match st with
      | .int v :: .ref a :: r => (B.2.1.1 x).bind fun q => if q.2.2 = 0 then (si_obj hh a q.1).bind fun fs => (if q.2.1 < fs.length then some (pc + 3, lv, r, hh.set a (.inl (q.1, fs.set q.2.1 (.int v)))) else none) else none
      | .long v :: .ref a :: r => (B.2.1.1 x).bind fun q => if q.2.2 = 1 then (si_obj hh a q.1).bind fun fs => (if q.2.1 < fs.length then some (pc + 3, lv, r, hh.set a (.inl (q.1, fs.set q.2.1 (.long v)))) else none) else none
      | .ref b :: .ref a :: r => (B.2.1.1 x).bind fun q => if q.2.2 = 2 ∧ q.1 = B.2.2.2.2.2.2.1 then (si_obj hh a q.1).bind fun fs => (if q.2.1 < fs.length then some (pc + 3, lv, r, hh.set a (.inl (q.1, fs.set q.2.1 (.ref b)))) else none) else none
      | _ => none) else none
  | .aastore => if n = 1 then (match st with
      | .ref b :: .int k :: .ref a :: r => (si_refs hh a).bind fun q => if q.1 = 4 ∧ ¬ (k < 0 ∨ q.2.length ≤ k.toNatClampNeg) then (si_obj hh b 0).bind fun _ => some (pc + 1, lv, r, hh.set a (.inr (.inr (4, q.2.set k.toNatClampNeg (some b))))) else none
      | _ => none) else none
  | .getfield x => if n = 3 then sm_r1 st fun a r => (B.2.1.1 x).bind fun q => (si_obj hh a q.1).bind fun fs => (fs[q.2.1]?).bind fun v => some (pc + 3, lv, v :: r, hh) else none
  | .iastore => if n = 1 then sm_rii st fun a k x r => (si_ints hh a).bind fun w => (if k < 0 ∨ w.1 ≤ k.toNatClampNeg then none else some (pc + 1, lv, r, hh.set a (.inr (.inl (0, w.1, (k.toNatClampNeg, x) :: w.2))))) else none
  | .aaload => if n = 1 then sm_ri st fun a k r => (si_refs hh a).bind fun w => (if k < 0 ∨ w.2.length ≤ k.toNatClampNeg then none else (si_g w.2 k.toNatClampNeg).bind fun b => some (pc + 1, lv, .ref b :: r, hh)) else none
  | i => if si_pure i = true then (sm_step B.2.1 i n pc lv st []).bind fun t => some (t.1, t.2.1, t.2.2.1, hh) else none
/-! That the machine goes with each step of a constructor. -/
def si_Y (k : Nat) : MethodName := ⟨sm_own k, "<init>", "()V"⟩
def si_AOA (ty : FieldType) (U : State) : Prop := (Cond.arrayOver (.array ty)).before #[] U = true
theorem si_AOA.use {ty : FieldType} {A : Array Value} {U : State} (h : si_AOA ty U) : (Cond.arrayOver (.array ty)).before A U = true := h
theorem si_AOA.moved {ty : FieldType} {u U : State} (hvm : u.vm.Alike U.vm) (h : si_AOA ty u) : si_AOA ty U := by
  obtain ⟨cC, cA, k, h1, h2, h3, h4, h5⟩ := arrayOverA_spec h
  obtain ⟨k', hk', he⟩ := hvm.2.2 _ _ h3
  have hi := (hvm.findIdx?_eq _ (fun _ => rfl)).trans h2
  have hkind : k'.kind = .array cC (.array ty) := by rw [he]; exact h4
  have f1 : U.vm.findClass (FieldType.array ty).toString = some cC := by rw [hvm.findClass]; exact h1
  have f2 : U.vm.findClass ("[" ++ (FieldType.array ty).toString) = some cA := by rw [hvm.findClass]; exact h5
  unfold si_AOA Cond.before Cond.holds
  simp only [Cond.value]
  rw [f1, Option.bind_some]
  refine (congrArg (fun o : Option Nat => (o.bind (fun c => (U.vm.classes[c]?).map fun (k : Class) => match k.kind with | .array _ t => decide (t = FieldType.array ty) && decide (U.vm.findClass ("[" ++ (FieldType.array ty).toString) = some c) | _ => false) == some true)) hi).trans ?_
  simp [hk', hkind, f2]
def si_Ns (U : State) : Prop := va_Nw (.methodLinkNest "MiceRegisters" 28 (si_Y 1) "MiceRegisters") U ∧ va_Nw (.methodLinkNest "MiceRegisters" 41 (si_Y 0) "MiceRegisters") U ∧ va_AO "MiceRegisters$Deeds" U ∧ si_AOA .int U ∧ si_AOA .byte U
theorem si_Ns.same {u U : State} (h : u.vm = U.vm) (hN : si_Ns u) : si_Ns U := by
  obtain ⟨h1, h2, h3, h4, h5⟩ := hN
  have al : u.vm.Alike U.vm := by rw [h]; exact Vm.Alike.refl _
  exact ⟨va_Nw.same rfl h h1, va_Nw.same rfl h h2, va_AO.moved al h3, si_AOA.moved al h4, si_AOA.moved al h5⟩
theorem si_Ns.warm {u U : State} (h : u.WarmedH U.vm) (hN : si_Ns u) : si_Ns U := by
  obtain ⟨h1, h2, h3, h4, h5⟩ := hN
  exact ⟨va_Nw.warmM h h1, va_Nw.warmM h h2, va_AO.moved h.alike h3, si_AOA.moved h.alike h4, si_AOA.moved h.alike h5⟩
/-- what fields hold at first -/
def si_df (ci : Nat) : List Value := match ci with
  | 0 => [.int 0, .null, .null, .null]
  | 1 => [.int 0, .int 0, .int 0, .int 0, .int 0, .null, .null, .null, .null, .null, .null, .null, .null]
  | 2 => [.null, .null, .null, .null, .null, .null, .null, .null, .null, .null, .null, .int 0, .int 0, .long 0, .long 0]
  | _ => [.null, .int 0, .null, .null, .int 0, .null, .null, .null, .null, .null, .null, .int 0, .long 0, .long 0, .int 0, .null, .int 0, .int 0, .int 0, .int 0, .null, .null, .int 0, .null, .null, .null, .null]
def si_dk (ci : Nat) : Bool := match sm_cl[ci]? with
  | some q => decide ((si_df ci).length = q.2.2) && (List.range q.2.2).all fun j => match parseFieldDescriptor (q.2.1 j).2.2.1 with
    | some t => decide (defaultValue t = vp_V (si_df ci) j)
    | none => false
  | none => true
theorem si_dk_ok : (List.range 4).all si_dk = true := by decide +kernel
theorem si_dv {ci : Nat} {q : vw_C} (hq : sm_cl[ci]? = some q) : (si_df ci).length = q.2.2 ∧ ∀ ty0 : Nat → FieldType, (∀ k, k < q.2.2 → parseFieldDescriptor (q.2.1 k).2.2.1 = some (ty0 k)) → ∀ j, j < q.2.2 → defaultValue (ty0 j) = vp_V (si_df ci) j := by
  have hlt : ci < 4 := (List.getElem?_eq_some_iff.mp hq).1
  have h := List.all_eq_true.mp si_dk_ok ci (List.mem_range.mpr hlt)
  unfold si_dk at h
  rw [hq] at h
  obtain ⟨h1, h2⟩ := sm_an h
  refine ⟨of_decide_eq_true h1, fun ty0 hty j hj => ?_⟩
  have h3 := List.all_eq_true.mp h2 j (List.mem_range.mpr hj)
  rw [hty j hj] at h3
  exact of_decide_eq_true h3
/-- fields that a constructor alone may write -/
def si_fk (o : Nat) : Bool := (sm_fl o).all fun q => !(Nat.beq q.2.2.2 2 && Nat.beq q.2.1 o) || (match sm_cl[q.2.1]? with
  | some r => (r.2.1 q.2.2.1).2.2.2 && (decide ((r.2.1 q.2.2.1).1 = sm_own o) && (match parseFieldDescriptor (r.2.1 q.2.2.1).2.2.1 with
    | some t => t.isReference
    | none => false))
  | none => false)
theorem si_fk_ok : (List.range 5).all si_fk = true := by decide +kernel
theorem si_fin {o x k : Nat} (ho : o < 5) (h : sm_lk (sm_fl o) x = some (o, k, 2)) {r : vw_C} (hr : sm_cl[o]? = some r) : (r.2.1 k).2.2.2 = true ∧ (r.2.1 k).1 = sm_own o ∧ ∃ t, parseFieldDescriptor (r.2.1 k).2.2.1 = some t ∧ t.isReference = true := by
  have h1 := List.all_eq_true.mp (List.all_eq_true.mp si_fk_ok o (List.mem_range.mpr ho)) _ (sm_lk_s h)
  dsimp only at h1
  rw [hr] at h1
  rw [show (Nat.beq 2 2 && Nat.beq o o) = true by simp] at h1
  rw [Bool.not_true, Bool.false_or] at h1
  obtain ⟨h2, h3⟩ := sm_an h1
  obtain ⟨h3, h4⟩ := sm_an h3
  refine ⟨h2, of_decide_eq_true h3, ?_⟩
  split at h4
  · rename_i t ht
    exact ⟨t, ht, h4⟩
  · cases h4
def si_NF (B : si_P) (own : String) (args : Array Value) (s : State) : Prop :=
  (∀ x q, B.2.2.1 x = some q → q.2 = si_df q.1 ∧ q.1 < 4 ∧ (Cond.classLink own x (sm_own q.1)).before args s = true ∧ (Cond.instantiable (sm_own q.1) q.2.length).before args s = true ∧ (Cond.initialized (sm_own q.1)).before args s = true) ∧
  (Cond.arrayClass .int).before args s = true ∧ (Cond.arrayClass .byte).before args s = true ∧
  (∀ x t, B.2.2.2.1 x = some t → (t = 2 ∧ (Cond.classLink own x ("[" ++ (FieldType.array .int).toString)).before args s = true) ∨ (t = 3 ∧ (Cond.classLink own x ("[" ++ (FieldType.array .byte).toString)).before args s = true)) ∧
  (∀ x, B.2.2.2.2.1 x = true → (Cond.classLink own x "MiceRegisters$Deeds").before args s = true) ∧
  (∀ x, B.2.2.2.2.2.1 x = some none → (Cond.methodLink own x Lib.objectInit).before args s = true) ∧ (Cond.instanceMethod Lib.objectInit).before args s = true ∧ (Cond.code Lib.objectInit ⟨#[0xb1]⟩ 1 none).before args s = true
section SIS
variable {p : Program} {l : Launch} {e : Env} {R : Room} {s : State} {m : MethodId} {args : Array Value} {below : List Frame} {meth : Method} {c : Code} {H : Heap} {locs : List Loc} {cells slots : Nat} {Q : State → Prop}
variable {cc : ByteArray} {pc : Nat} {ls : Array Slot} {D : va_G} {A : Nat → Prop} {cid : Nat → ClassId} {ad : Nat → Nat} {Ts : List Jvm.Cond} {B : si_P} {o nL : Nat} {scr : Option (Nat × (Nat → Int32))}
/-- n cells more, from q on -/
def si_um (ad : Nat → Nat) (n N q : Nat) : Nat → Nat := fun k => if n ≤ k ∧ k ≤ n + N then q + (k - n) else ad k
theorem si_um_ag {n N q : Nat} (hn : n < 800) (hN : N ≤ 90) : si_ag n ad (si_um ad n N q) := by
  intro k hk
  unfold si_um
  rw [if_neg (by omega)]
theorem si_um_at {n N q k : Nat} (h1 : n ≤ k) (h2 : k ≤ n + N) : si_um ad n N q k = q + (k - n) := by
  unfold si_um
  rw [if_pos ⟨h1, h2⟩]
/-- a row of rows laid -/
theorem si_mul {hh : List si_E} {t N M : Nat} {H1 : Heap} (w1 : hh.length < 800) (w2 : hh.all (si_ek hh.length) = true) (hN : N ≤ 90) (hA : ∀ q : Nat, s.heap.size ≤ q → A q) (hP : va_P D sm_cl (sm_w cid ad (si_h hh)) H) (hD : va_D A (sm_w cid ad (si_h hh))) (hS : va_S A s.heap H locs) (z1 : H1.size = H.size + 1 + N) (z2 : ∀ a, a < H.size → H1[a]? = H[a]?) (z3 : H1[H.size]? = some (arrV (cid t) N (fun j => va_rf (if j < N then some (H.size + 1 + j) else none)))) (z4 : ∀ j, j < N → H1[H.size + 1 + j]? = some (arrV (cid (t - 2)) M (fun _ => .int 0))) :
    va_P D sm_cl (sm_w cid (si_um ad hh.length N H.size) (si_h (hh ++ (.inr (.inr (t, (List.range N).map fun j => some (hh.length + 1 + j))) :: List.replicate N (.inr (.inl (t - 2, M, []))))))) H1 ∧ va_D A (sm_w cid (si_um ad hh.length N H.size) (si_h (hh ++ (.inr (.inr (t, (List.range N).map fun j => some (hh.length + 1 + j))) :: List.replicate N (.inr (.inl (t - 2, M, []))))))) ∧ va_S A s.heap H1 locs := by
  have ag := si_um_ag (ad := ad) (q := H.size) w1 hN
  have ent : ∀ (k : Nat) (x : Nat × va_E), (sm_w cid (si_um ad hh.length N H.size) (si_h (hh ++ (.inr (.inr (t, (List.range N).map fun j => some (hh.length + 1 + j))) :: List.replicate N (.inr (.inl (t - 2, M, [])))))))[k]? = some x → (k < hh.length ∧ (sm_w cid ad (si_h hh))[k]? = some x) ∨ (k = hh.length ∧ x = (H.size, .inl (cid t, N, .inr (.inr (.inr (.inr (fun j => if j < N then some (H.size + 1 + j) else none))))))) ∨ (hh.length < k ∧ k ≤ hh.length + N ∧ x = (H.size + (k - hh.length), .inl (cid (t - 2), M, .inl (si_f [])))) := by
    intro k x hx
    unfold sm_w at hx
    rw [List.getElem?_mapIdx, List.getElem?_map] at hx
    by_cases h1 : k < hh.length
    · rw [List.getElem?_append_left h1, List.getElem?_eq_getElem h1] at hx
      refine Or.inl ⟨h1, ?_⟩
      unfold sm_w
      rw [List.getElem?_mapIdx, List.getElem?_map, List.getElem?_eq_getElem h1, ← hx]
      show some (ad k, sm_e cid ad (si_d hh[k])) = some (si_um ad hh.length N H.size k, sm_e cid (si_um ad hh.length N H.size) (si_d hh[k]))
      rw [ag k (Or.inl h1), si_e_ag (List.all_eq_true.mp w2 _ (List.getElem_mem h1)) ag]
    · rw [List.getElem?_append_right (by omega)] at hx
      by_cases h2 : k = hh.length
      · subst h2
        rw [Nat.sub_self] at hx
        refine Or.inr (Or.inl ⟨rfl, ?_⟩)
        have hx : some (si_um ad hh.length N H.size hh.length, (Sum.inl (cid t, ((List.range N).map fun j => some (hh.length + 1 + j)).length, .inr (.inr (.inr (.inr (fun j => (si_g ((List.range N).map fun j => some (hh.length + 1 + j)) j).map (si_um ad hh.length N H.size)))))) : va_E)) = some x := hx
        have ef : (fun j => (si_g ((List.range N).map fun j => some (hh.length + 1 + j)) j).map (si_um ad hh.length N H.size)) = fun j => if j < N then some (H.size + 1 + j) else none := funext fun j => by
          unfold si_g
          rw [List.getElem?_map]
          by_cases hj : j < N
          · rw [List.getElem?_range hj, if_pos hj]
            show some (si_um ad hh.length N H.size (hh.length + 1 + j)) = _
            rw [si_um_at (by omega) (by omega)]
            congr 1
            omega
          · rw [List.getElem?_eq_none (by rw [List.length_range]; omega), if_neg hj]
            rfl
        rw [ef, List.length_map, List.length_range, si_um_at (Nat.le_refl _) (by omega), Nat.sub_self] at hx
        exact (Option.some.inj hx).symm
      · obtain ⟨u, hu⟩ : ∃ u, k - hh.length = u + 1 := ⟨k - hh.length - 1, by omega⟩
        rw [hu, List.getElem?_cons_succ] at hx
        by_cases h3 : u < N
        · rw [List.getElem?_replicate, if_pos h3] at hx
          refine Or.inr (Or.inr ⟨by omega, by omega, ?_⟩)
          have hx : some (si_um ad hh.length N H.size k, (Sum.inl (cid (t - 2), M, .inl (si_f [])) : va_E)) = some x := hx
          rw [si_um_at (by omega) (by omega)] at hx
          exact (Option.some.inj hx).symm
        · rw [List.getElem?_replicate, if_neg h3] at hx
          cases hx
  refine ⟨fun k x hx => ?_, ⟨fun i j x y hi hj hxy => ?_, fun k x hx => ?_⟩, ⟨by have := hS.1; omega, fun a h1 h2 => (z2 a (Nat.lt_of_lt_of_le h1 hS.1)).trans (hS.2.1 a h1 h2), hS.2.2⟩⟩
  · rcases ent k x hx with ⟨h1, h2⟩ | ⟨h1, rfl⟩ | ⟨h1, h2, rfl⟩
    · exact (hP k x h2).kept (z2 _ (hP k x h2).lt)
    · show H1[H.size]? = some (vp_cell (cid t) (N, .inr (.inr (.inr (.inr _)))))
      rw [vp_cell_q]
      exact z3
    · show H1[H.size + (k - hh.length)]? = some (vp_cell (cid (t - 2)) (M, .inl (si_f [])))
      rw [vp_cell_i, show H.size + (k - hh.length) = H.size + 1 + (k - hh.length - 1) by omega]
      exact z4 _ (by omega)
  · rcases ent i x hi with ⟨h1, h2⟩ | ⟨h1, rfl⟩ | ⟨h1, h2, rfl⟩
    · rcases ent j y hj with ⟨g1, g2⟩ | ⟨g1, rfl⟩ | ⟨g1, g2, rfl⟩
      · exact hD.1 i j x y h2 g2 hxy
      · have := (hP i x h2).lt
        have hxy : x.1 = H.size := hxy
        omega
      · have := (hP i x h2).lt
        have hxy : x.1 = H.size + (j - hh.length) := hxy
        omega
    · rcases ent j y hj with ⟨g1, g2⟩ | ⟨g1, rfl⟩ | ⟨g1, g2, rfl⟩
      · have := (hP j y g2).lt
        have hxy : H.size = y.1 := hxy
        omega
      · omega
      · have hxy : H.size = H.size + (j - hh.length) := hxy
        omega
    · rcases ent j y hj with ⟨g1, g2⟩ | ⟨g1, rfl⟩ | ⟨g1, g2, rfl⟩
      · have := (hP j y g2).lt
        have hxy : H.size + (i - hh.length) = y.1 := hxy
        omega
      · have hxy : H.size + (i - hh.length) = H.size := hxy
        omega
      · have hxy : H.size + (i - hh.length) = H.size + (j - hh.length) := hxy
        omega
  · have h0 := hS.1
    rcases ent k x hx with ⟨h1, h2⟩ | ⟨h1, rfl⟩ | ⟨h1, h2, rfl⟩
    · exact hD.2 k x h2
    · exact hA _ h0
    · exact hA _ (by show s.heap.size ≤ H.size + (k - hh.length); omega)
theorem si_no (n : Nat) (ad : Nat → Nat) : (fun j => (si_g (List.replicate n none) j).map ad) = fun _ => none := funext fun j => by
  unfold si_g
  rw [List.getElem?_replicate]
  split <;> rfl
theorem si_as {cs : List (Option Nat)} {k b : Nat} (hk : k < cs.length) : (fun j => (si_g (cs.set k (some b)) j).map ad) = va_up (fun j => (si_g cs j).map ad) k (some (ad b)) := funext fun j => by
  unfold va_up si_g
  by_cases h : j = k
  · subst h
    rw [if_pos rfl, List.getElem?_set_self hk]
    rfl
  · rw [if_neg h, List.getElem?_set_ne (fun z => h z.symm)]
/-- the same class, the same number -/
theorem si_cid {cA : ClassId} {t : Nat} {ty : FieldType} (hK : va_K D sm_cl (sm_tys cid) s) (ht : (sm_tys cid)[t]? = some (cid t, ty)) (h : s.vm.findClass ("[" ++ ty.toString) = some cA) : cA = cid t := by
  have h2 := (hK.2 t _ ht).2
  cases ty with
  | object C =>
    obtain ⟨_, _, _, _, _, h3⟩ := h2
    exact Option.some.inj (h.symm.trans h3)
  | _ => exact Option.some.inj (h.symm.trans h2)
set_option maxHeartbeats 4000000 in
theorem si_sim (E : ∀ ad' : Nat → Nat, ad' 998 = ad 998 → ad' 999 = ad 999 → sm_Env p R s m args c cc (sm_own o) D sm_cl cid ad' Ts B.2.1 A) (hK2 : B.2.1 = sm_Kn o nL scr) (ho : B.2.2.2.2.2.2.1 = o) (ho5 : o < 5) (hA : ∀ q : Nat, s.heap.size ≤ q → A q) (hF : si_NF B (sm_own o) args s) (hN : si_Ns s) (hTb : ∀ w ∈ sm_tb, w ∈ Ts) (hini : o < 4 → meth.name = "<init>")
    {i : Instr} {n : Nat} {lv lv' : sm_L} {st st' : List Value} {hh hh' : List si_E} {pc' : Nat} (hd : decode cc pc = .ok (i, n)) (hs : si_step B i n pc lv st hh = some (pc', lv', st', hh')) (hc1 : cells + B.2.2.2.2.2.2.2.1 ≤ R.cells) (hc2 : slots + B.2.2.2.2.2.2.2.2 ≤ R.slots)
    (hl : lv_has ls B.2.1.2.2.2.2.2.1 (sm_lv ad lv)) (hP : va_P D sm_cl (sm_w cid ad (si_h hh)) H) (hD : va_D A (sm_w cid ad (si_h hh))) (hS : va_S A s.heap H locs)
    (kk : ∀ (ad' : Nat → Nat) (ls' : Array Slot) (H' : Heap) (locs' : List Loc) (cells' slots' : Nat), si_ag hh.length ad ad' → hh.length ≤ hh'.length → cells' ≤ cells + B.2.2.2.2.2.2.2.1 → slots' ≤ slots + B.2.2.2.2.2.2.2.2 → lv_has ls' B.2.1.2.2.2.2.2.1 (sm_lv ad' lv') → va_P D sm_cl (sm_w cid ad' (si_h hh')) H' → va_D A (sm_w cid ad' (si_h hh')) → va_S A s.heap H' locs' → W p l e R s m args below meth c H' locs' cells' slots' Q (F0 m pc' ls' (st'.map (sm_v ad')))) :
    W p l e R s m args below meth c H locs cells slots Q (F0 m pc ls (st.map (sm_v ad))) := by
  subst ho
  have E0 := E ad rfl rfl
  have reg : sm_step B.2.1 i n pc lv st (si_h hh) = some (pc', lv', st', si_h hh') → hh.length ≤ hh'.length → W p l e R s m args below meth c H locs cells slots Q (F0 m pc ls (st.map (sm_v ad))) := fun h hlen =>
    sm_sim E0 ⟨by omega, by omega⟩ hd h hl hP hD hS (fun ls' H' locs' a b c d => kk ad ls' H' locs' cells slots (fun _ _ => rfl) hlen (by omega) (by omega) a b c d)
  obtain ⟨hx, hb, hown, hml, hK, hts, hFok, -⟩ := id E0
  obtain ⟨F1, F2, F3, F4, F5, F6, F7, F8⟩ := hF
  obtain ⟨N1, N2, N3, N4, N5⟩ := hN
  unfold si_step at hs
  split at hs
  · -- new
    rename_i x
    obtain ⟨⟨hn3, hwf, h1⟩, hs1⟩ := sm_if hs
    obtain ⟨⟨ci, fs⟩, hq, hs2⟩ := sm_bd hs1
    obtain ⟨⟨h2, h3⟩, hs3⟩ := sm_if hs2
    cases hs3
    subst hn3
    obtain ⟨w1, w2, w3, w4⟩ := si_wf_s hwf
    obtain ⟨g1, g2, g3, g4, g5⟩ := F1 x _ hq
    have g1 : fs = si_df ci := g1
    obtain ⟨q, hcl, hqn⟩ := sm_cl_at ci g2
    obtain ⟨C, T, N⟩ := q
    have hqn : C = sm_own ci := hqn
    subst hqn
    obtain ⟨ty0, t1, t2, t3⟩ := sm_cls ci _ hcl
    obtain ⟨v1, v2⟩ := si_dv hcl
    have eN : fs.length = N := by rw [g1]; exact v1
    refine va_new (ci := ci) (fs := fs) (C := sm_own ci) (T := T) (N := N) hx hb hts (fun w hw => hTb w (t1 w hw)) ty0 t2 hown g3 (by rw [← eN]; exact g4) g5 hK hP hD hS hA hcl (fun j hj => by rw [g1]; exact v2 ty0 t2 j hj) (by omega) (by have h2 : fs.length ≤ _ := h2; omega) hd ?_
    intro q H1 hP1 hD1 hS1
    have ew : sm_w cid (si_u ad hh.length q) (si_h (hh ++ [.inl (ci, fs)])) = sm_w cid ad (si_h hh) ++ [(q, .inr (ci, fs))] := by
      rw [si_w_1 w1 w2 (show si_ek hh.length (.inl (ci, fs)) = true from h3)]
      show _ ++ [(q, Sum.inr (ci, fs.map (sm_v ad)))] = _
      have em : fs.map (sm_v ad) = fs := by
        rw [g1]
        match ci, g2 with
        | 0, _ => rfl
        | 1, _ => rfl
        | 2, _ => rfl
        | 3, _ => rfl
        | n + 4, g => omega
      rw [em]
    have ag := si_u_ag (ad := ad) (q := q) w1
    have k := kk (si_u ad hh.length q) ls H1 locs (cells + 1) (slots + N) ag (by rw [List.length_append]; omega) (by omega) (by have h2 : fs.length ≤ _ := h2; omega) (by rw [si_lv_ag w3 ag]; exact hl) (by rw [ew]; exact hP1) (by rw [ew]; exact hD1) hS1
    rw [List.map_cons, si_st_ag w4 ag] at k
    rw [show sm_v (si_u ad hh.length q) (.ref hh.length) = .ref q by show Value.ref (si_u ad hh.length q hh.length) = _; unfold si_u; rw [if_pos rfl]] at k
    exact k
  · -- new int[n]
    rename_i a
    split at hs
    · obtain ⟨⟨hn3, hwf, h1⟩, hs1⟩ := sm_if hs
      obtain ⟨kv, r, est, hs2⟩ := sm_i1_s hs1
      obtain ⟨hb2, hs3⟩ := sm_ifn hs2
      cases hs3
      subst hn3
      subst est
      obtain ⟨w1, w2, w3, w4⟩ := si_wf_s hwf
      have hk0 : ¬ kv < 0 := fun z => hb2 (Or.inl z)
      have hk1 : ¬ B.2.2.2.2.2.2.2.2 < kv.toNatClampNeg := fun z => hb2 (Or.inr (Or.inl z))
      have hk2 : ¬ 9000 < kv.toNatClampNeg := fun z => hb2 (Or.inr (Or.inr z))
      have w5 : r.all (si_vk hh.length) = true := by
        rw [List.all_cons] at w4
        exact (sm_an w4).2
      rw [List.map_cons]
      refine va_newa (atype := .int) (ty := .int) (a0 := (kv.toNatClampNeg, .inl (si_f []))) (N' := kv.toNatClampNeg) hx hb F2 rfl hK hP hD hS hA (fun cA => rfl) hk0 rfl (by show kv.toNatClampNeg * 4 ≤ 536870912; omega) (by omega) (by omega) hd ?_
      intro q cA H1 hK1 hP1 hD1 hS1
      have ec : cA = cid 0 := si_cid (t := 0) hK rfl ((hK1.2 5 (cA, .int) rfl).2)
      subst ec
      have ew : sm_w cid (si_u ad hh.length q) (si_h (hh ++ [.inr (.inl (0, kv.toNatClampNeg, []))])) = sm_w cid ad (si_h hh) ++ [(q, .inl (cid 0, kv.toNatClampNeg, .inl (si_f [])))] := si_w_1 w1 w2 rfl
      have ag := si_u_ag (ad := ad) (q := q) w1
      have k := kk (si_u ad hh.length q) ls H1 locs (cells + 1) (slots + kv.toNatClampNeg) ag (by rw [List.length_append]; omega) (by omega) (by omega) (by rw [si_lv_ag w3 ag]; exact hl) (by rw [ew]; exact hP1) (by rw [ew]; exact hD1) hS1
      rw [List.map_cons, si_st_ag w5 ag] at k
      rw [show sm_v (si_u ad hh.length q) (.ref hh.length) = .ref q by show Value.ref (si_u ad hh.length q hh.length) = _; unfold si_u; rw [if_pos rfl]] at k
      exact k
    · cases hs
  · -- new T[n][m]
    rename_i x dd
    obtain ⟨⟨hn4, hd2, hwf⟩, hs1⟩ := sm_if hs
    obtain ⟨cv, kv, r, est, hs2⟩ := sm_i2_s hs1
    obtain ⟨t, ht, hs3⟩ := sm_bd hs2
    obtain ⟨hb2, hs4⟩ := sm_ifn hs3
    cases hs4
    subst hn4
    subst hd2
    subst est
    obtain ⟨w1, w2, w3, w4⟩ := si_wf_s hwf
    have c0 : ¬ cv < 0 := fun z => hb2 (Or.inl z)
    have k0 : ¬ kv < 0 := fun z => hb2 (Or.inr (Or.inl z))
    have b1 : ¬ B.2.2.2.2.2.2.2.1 < 1 + cv.toNatClampNeg := fun z => hb2 (Or.inr (Or.inr (Or.inl z)))
    have b2 : ¬ B.2.2.2.2.2.2.2.2 < cv.toNatClampNeg + cv.toNatClampNeg * kv.toNatClampNeg := fun z => hb2 (Or.inr (Or.inr (Or.inr (Or.inl z))))
    have b3 : ¬ 90 < cv.toNatClampNeg := fun z => hb2 (Or.inr (Or.inr (Or.inr (Or.inr (Or.inl z)))))
    have b4 : ¬ 900 < kv.toNatClampNeg := fun z => hb2 (Or.inr (Or.inr (Or.inr (Or.inr (Or.inr z)))))
    have w5 : r.all (si_vk hh.length) = true := by
      rw [List.all_cons, List.all_cons] at w4
      exact (sm_an (sm_an w4).2).2
    have ag := si_um_ag (ad := ad) (q := H.size) (N := cv.toNatClampNeg) w1 (by omega)
    have fin : ∀ H1 : Heap, H1.size = H.size + 1 + cv.toNatClampNeg → (∀ a, a < H.size → H1[a]? = H[a]?) → H1[H.size]? = some (arrV (cid t) cv.toNatClampNeg (fun j => va_rf (if j < cv.toNatClampNeg then some (H.size + 1 + j) else none))) → (∀ j, j < cv.toNatClampNeg → H1[H.size + 1 + j]? = some (arrV (cid (t - 2)) kv.toNatClampNeg (fun _ => .int 0))) → W p l e R s m args below meth c H1 locs (cells + 1 + cv.toNatClampNeg) (slots + cv.toNatClampNeg + cv.toNatClampNeg * kv.toNatClampNeg) Q (F0 m (pc + 4) ls (.ref H.size :: r.map (sm_v ad))) := by
      intro H1 z1 z2 z3 z4
      obtain ⟨q1, q2, q3⟩ := si_mul (t := t) (M := kv.toNatClampNeg) w1 w2 (by omega) hA hP hD hS z1 z2 z3 z4
      have k := kk (si_um ad hh.length cv.toNatClampNeg H.size) ls H1 locs _ _ ag (by rw [List.length_append]; omega) (show cells + 1 + cv.toNatClampNeg ≤ _ by omega) (show slots + cv.toNatClampNeg + cv.toNatClampNeg * kv.toNatClampNeg ≤ _ by omega) (by rw [si_lv_ag w3 ag]; exact hl) q1 q2 q3
      rw [List.map_cons, si_st_ag w5 ag] at k
      rw [show sm_v (si_um ad hh.length cv.toNatClampNeg H.size) (.ref hh.length) = .ref H.size by show Value.ref (si_um ad hh.length cv.toNatClampNeg H.size hh.length) = _; rw [si_um_at (Nat.le_refl _) (by omega), Nat.sub_self]; rfl] at k
      exact k
    rcases F4 x t ht with ⟨rfl, hlk⟩ | ⟨rfl, hlk⟩
    · refine mu_W (ty := .int) hx hb hown hlk N4.use F2 c0 k0 rfl rfl (by omega) (by show kv.toNatClampNeg * 4 ≤ _; omega) (by omega) rfl rfl (by omega) (by omega) hd ?_
      intro cA cC H1 e1 e2 z1 z2 z3 z4
      have ea : cA = cid 2 := si_cid (t := 2) hK rfl e1
      have ec : cC = cid 0 := si_cid (t := 0) hK rfl e2
      subst ea
      subst ec
      exact fin H1 z1 z2 z3 z4
    · refine mu_W (ty := .byte) hx hb hown hlk N5.use F3 c0 k0 rfl rfl (by omega) (by show kv.toNatClampNeg * 1 ≤ _; omega) (by omega) rfl rfl (by omega) (by omega) hd ?_
      intro cA cC H1 e1 e2 z1 z2 z3 z4
      have ea : cA = cid 3 := si_cid (t := 3) hK rfl e1
      have ec : cC = cid 1 := si_cid (t := 1) hK rfl e2
      subst ea
      subst ec
      exact fin H1 z1 z2 z3 z4
  · -- new T[n]
    rename_i x
    obtain ⟨⟨hn3, hwf, h1, han⟩, hs1⟩ := sm_if hs
    obtain ⟨kv, r, est, hs2⟩ := sm_i1_s hs1
    obtain ⟨hb2, hs3⟩ := sm_ifn hs2
    cases hs3
    subst hn3
    subst est
    obtain ⟨w1, w2, w3, w4⟩ := si_wf_s hwf
    have k0 : ¬ kv < 0 := fun z => hb2 (Or.inl z)
    have k1 : ¬ B.2.2.2.2.2.2.2.2 < kv.toNatClampNeg := fun z => hb2 (Or.inr (Or.inl z))
    have k2 : ¬ 900 < kv.toNatClampNeg := fun z => hb2 (Or.inr (Or.inr z))
    have w5 : r.all (si_vk hh.length) = true := by
      rw [List.all_cons] at w4
      exact (sm_an w4).2
    rw [List.map_cons]
    refine va_newq (N' := kv.toNatClampNeg) hx hb hown (F5 x han) N3 hK hP hD hS hA k0 rfl (by omega) (by omega) (by omega) hd ?_
    intro q cA H1 hK1 hP1 hD1 hS1
    have ec : cA = cid 4 := by
      obtain ⟨_, _, _, _, _, h9⟩ := (hK1.2 5 (cA, .object "MiceRegisters$Deeds") rfl).2
      exact si_cid (t := 4) (ty := .object "MiceRegisters$Deeds") hK rfl h9
    subst ec
    have he : si_ek hh.length (.inr (.inr (4, List.replicate kv.toNatClampNeg none))) = true := by
      show (List.replicate kv.toNatClampNeg (none : Option Nat)).all (si_ok hh.length) = true
      rw [List.all_eq_true]
      intro x hx
      rw [List.eq_of_mem_replicate hx]
      rfl
    have ew : sm_w cid (si_u ad hh.length q) (si_h (hh ++ [.inr (.inr (4, List.replicate kv.toNatClampNeg none))])) = sm_w cid ad (si_h hh) ++ [(q, .inl (cid 4, kv.toNatClampNeg, .inr (.inr (.inr (.inr (fun _ => none))))))] := by
      rw [si_w_1 w1 w2 he]
      show _ ++ [(q, (Sum.inl (cid 4, (List.replicate kv.toNatClampNeg (none : Option Nat)).length, .inr (.inr (.inr (.inr (fun j => (si_g (List.replicate kv.toNatClampNeg none) j).map ad))))) : va_E))] = _
      rw [si_no, List.length_replicate]
    have ag := si_u_ag (ad := ad) (q := q) w1
    have k := kk (si_u ad hh.length q) ls H1 locs (cells + 1) (slots + kv.toNatClampNeg) ag (by rw [List.length_append]; omega) (by omega) (by omega) (by rw [si_lv_ag w3 ag]; exact hl) (by rw [ew]; exact hP1) (by rw [ew]; exact hD1) hS1
    rw [List.map_cons, si_st_ag w5 ag] at k
    rw [show sm_v (si_u ad hh.length q) (.ref hh.length) = .ref q by show Value.ref (si_u ad hh.length q hh.length) = _; unfold si_u; rw [if_pos rfl]] at k
    exact k
  · -- putfield
    rename_i x
    obtain ⟨hn3, hs1⟩ := sm_if hs
    subst hn3
    split at hs1
    · rename_i v a r
      obtain ⟨q, hq, hs2⟩ := sm_bd hs1
      obtain ⟨hq0, hs3⟩ := sm_if hs2
      obtain ⟨fs, hf, hs4⟩ := sm_bd hs3
      obtain ⟨hlt, hs5⟩ := sm_if hs4
      cases hs5
      refine reg ?_ (by rw [List.length_set]; exact Nat.le_refl _)
      show (if (3 : Nat) = 3 then (B.2.1.1 x).bind _ else none) = _
      rw [if_pos rfl, hq]
      show (if q.2.2 = 0 then (sm_obj (si_h hh) a q.1).bind _ else none) = _
      rw [if_pos hq0, si_obj_m (si_obj_s hf)]
      show (if q.2.1 < fs.length then _ else none) = _
      rw [if_pos hlt, ← si_h_set]
      rfl
    · rename_i v a r
      obtain ⟨q, hq, hs2⟩ := sm_bd hs1
      obtain ⟨hq0, hs3⟩ := sm_if hs2
      obtain ⟨fs, hf, hs4⟩ := sm_bd hs3
      obtain ⟨hlt, hs5⟩ := sm_if hs4
      cases hs5
      refine reg ?_ (by rw [List.length_set]; exact Nat.le_refl _)
      show (if (3 : Nat) = 3 then (B.2.1.1 x).bind _ else none) = _
      rw [if_pos rfl, hq]
      show (if q.2.2 = 1 then (sm_obj (si_h hh) a q.1).bind _ else none) = _
      rw [if_pos hq0, si_obj_m (si_obj_s hf)]
      show (if q.2.1 < fs.length then _ else none) = _
      rw [if_pos hlt, ← si_h_set]
      rfl
    · rename_i b a r
      obtain ⟨⟨ci, k, t⟩, hq, hs2⟩ := sm_bd hs1
      obtain ⟨⟨ht2, hci⟩, hs3⟩ := sm_if hs2
      obtain ⟨fs, hf, hs4⟩ := sm_bd hs3
      obtain ⟨hlt, hs5⟩ := sm_if hs4
      cases hs5
      have ht2 : t = 2 := ht2
      have hci : ci = B.2.2.2.2.2.2.1 := hci
      subst ht2
      subst hci
      have hf := si_obj_s hf
      obtain ⟨C, T, N, ty0, f1, f2, f3, f4, f5, f6, -⟩ := hFok x _ k 2 hq
      have hlk : sm_lk (sm_fl B.2.2.2.2.2.2.1) x = some (B.2.2.2.2.2.2.1, k, 2) := by
        rw [hK2] at hq
        exact hq
      obtain ⟨y1, y2, tt, y3, y4⟩ := si_fin ho5 hlk f1
      have hlt : k < fs.length := hlt
      refine va_putF (ci := B.2.2.2.2.2.2.1) (C := C) (T := T) (N := N) (v := .ref (ad b)) (ty := tt) (fs := fs.map (sm_v ad)) hx hb hts f3 ty0 f5 f6 hown hK hP hD hS a (sm_w_get (si_h_get hf)) f1 k f2 f4 (fun _ h => h) y1 (hini (by have := (List.getElem?_eq_some_iff.mp f1).1; exact this)) y2 y3 (by cases tt <;> first | rfl | (cases y4; done)) (mu_ref y4 _ (Or.inr ⟨_, rfl⟩)) (by rw [List.length_map]; exact hlt) hd ?_
      intro H1 locs1 hP1 hD1 hS1
      have ew : (sm_w cid ad (si_h hh)).set a (ad a, .inr (B.2.2.2.2.2.2.1, (fs.map (sm_v ad)).set k (.ref (ad b)))) = sm_w cid ad (si_h (hh.set a (.inl (B.2.2.2.2.2.2.1, fs.set k (.ref b))))) := by
        rw [← si_h_set, ← sm_w_set]
        show _ = (sm_w cid ad (si_h hh)).set a (ad a, Sum.inr (B.2.2.2.2.2.2.1, (fs.set k (.ref b)).map (sm_v ad)))
        rw [List.map_set]
        rfl
      rw [ew] at hP1 hD1
      exact kk ad ls H1 locs1 cells slots (fun _ _ => rfl) (by rw [List.length_set]; exact Nat.le_refl _) (by omega) (by omega) hl hP1 hD1 hS1
    · cases hs1
  · -- aastore
    obtain ⟨hn3, hs1⟩ := sm_if hs
    subst hn3
    split at hs1
    · rename_i b kv a r
      obtain ⟨⟨t, cs⟩, hq, hs2⟩ := sm_bd hs1
      obtain ⟨⟨ht4, hin⟩, hs3⟩ := sm_if hs2
      obtain ⟨fs, hf, hs4⟩ := sm_bd hs3
      cases hs4
      have ht4 : t = 4 := ht4
      subst ht4
      obtain ⟨hq, -, -⟩ := si_refs_s hq
      have hf := si_obj_s hf
      have hkl : kv.toNatClampNeg < cs.length := Nat.not_le.mp fun z => hin (Or.inr z)
      refine va_astq (n := cs.length) (f := fun j => (si_g cs j).map ad) (v := ad b) (vs := fs.map (sm_v ad)) (r := ("MiceRegisters$Deeds", sm_T0, 4)) (cA := cid 4) hx hb hK hP hD hS a 4 b 0 (sm_w_get (si_h_get hq)) rfl (sm_w_get (si_h_get hf)) rfl hin hd ?_
      intro H1 locs1 hP1 hD1 hS1
      have ew : (sm_w cid ad (si_h hh)).set a (ad a, .inl (cid 4, cs.length, .inr (.inr (.inr (.inr (va_up (fun j => (si_g cs j).map ad) kv.toNatClampNeg (some (ad b)))))))) = sm_w cid ad (si_h (hh.set a (.inr (.inr (4, cs.set kv.toNatClampNeg (some b)))))) := by
        rw [← si_h_set, ← sm_w_set]
        show _ = (sm_w cid ad (si_h hh)).set a (ad a, (Sum.inl (cid 4, (cs.set kv.toNatClampNeg (some b)).length, .inr (.inr (.inr (.inr (fun j => (si_g (cs.set kv.toNatClampNeg (some b)) j).map ad))))) : va_E))
        rw [si_as hkl, List.length_set]
      rw [ew] at hP1 hD1
      exact kk ad ls H1 locs1 cells slots (fun _ _ => rfl) (by rw [List.length_set]; exact Nat.le_refl _) (by omega) (by omega) hl hP1 hD1 hS1
    · cases hs1
  · -- getfield
    rename_i x
    obtain ⟨hn3, hs1⟩ := sm_if hs
    subst hn3
    obtain ⟨a, r, est, hs2⟩ := sm_r1_s hs1
    subst est
    obtain ⟨q, hq, hs3⟩ := sm_bd hs2
    obtain ⟨fs, hf, hs4⟩ := sm_bd hs3
    obtain ⟨v, hv, hs5⟩ := sm_bd hs4
    cases hs5
    refine reg ?_ (Nat.le_refl _)
    show (if (3 : Nat) = 3 then (B.2.1.1 x).bind _ else none) = _
    rw [if_pos rfl, hq]
    show (sm_obj (si_h hh) a q.1).bind _ = _
    rw [si_obj_m (si_obj_s hf)]
    show (fs[q.2.1]?).bind _ = _
    rw [hv]
    rfl
  · -- iastore
    obtain ⟨hn3, hs1⟩ := sm_if hs
    subst hn3
    obtain ⟨a, kv, xv, r, est, hs2⟩ := sm_rii_s hs1
    subst est
    obtain ⟨⟨len, us⟩, hq, hs3⟩ := sm_bd hs2
    obtain ⟨hin, hs4⟩ := sm_ifn hs3
    cases hs4
    refine reg ?_ (by rw [List.length_set]; exact Nat.le_refl _)
    show (if (1 : Nat) = 1 then (sm_ints (si_h hh) a).bind _ else none) = _
    rw [if_pos rfl, aw_ints_of (si_h_get (si_ints_s hq))]
    show (if kv < 0 ∨ len ≤ kv.toNatClampNeg then none else _) = _
    rw [if_neg hin, ← si_h_set]
    rfl
  · -- aaload
    obtain ⟨hn3, hs1⟩ := sm_if hs
    subst hn3
    obtain ⟨a, kv, r, est, hs2⟩ := sm_ri_s hs1
    subst est
    obtain ⟨⟨t, cs⟩, hq, hs3⟩ := sm_bd hs2
    obtain ⟨hin, hs4⟩ := sm_ifn hs3
    obtain ⟨b, hb2, hs5⟩ := sm_bd hs4
    cases hs5
    obtain ⟨hq, h2, h3⟩ := si_refs_s hq
    refine reg ?_ (Nat.le_refl _)
    have er : sm_refs (si_h hh) a = some (t, cs.length, si_g cs) := by
      unfold sm_refs
      rw [si_h_get hq]
      exact if_pos ⟨h2, h3⟩
    show (if (1 : Nat) = 1 then (sm_refs (si_h hh) a).bind _ else none) = _
    rw [if_pos rfl, er]
    show (if kv < 0 ∨ cs.length ≤ kv.toNatClampNeg then none else (si_g cs kv.toNatClampNeg).bind _) = _
    rw [if_neg hin, hb2]
    rfl
  · obtain ⟨hp, hs1⟩ := sm_if hs
    obtain ⟨t, ht, hs2⟩ := sm_bd hs1
    cases hs2
    exact reg (si_pure_s hp ht) (Nat.le_refl _)
end SIS
/-! Whole constructors. -/
abbrev si_X : Type := Nat → Nat → List si_E → Option (List si_E)
def si_rn (B : si_P) (X : si_X) (stop : Nat) : Nat → Nat → sm_L → List Value → List si_E → Option (sm_L × List si_E)
  | 0, _, _, _, _ => none
  | f + 1, pc, lv, st, hh => if pc = stop then (match st with
      | [] => some (lv, hh)
      | _ => none) else match B.1 pc with
    | none => none
    | some (i, n) => (match i with
      | .invokespecial x => if n = 3 ∧ si_wf hh lv st = true then (match st with
          | .ref a :: r => if (r.map fun v => v.category).sum ≤ 8 then (B.2.2.2.2.2.1 x).bind fun q => (match q with
            | none => si_rn B X stop f (pc + 3) lv r hh
            | some k => (X k a hh).bind fun hh' => if hh.length ≤ hh'.length then si_rn B X stop f (pc + 3) lv r hh' else none) else none
          | _ => none) else none
      | i => (si_step B i n pc lv st hh).bind fun t => si_rn B X stop f t.1 t.2.1 t.2.2.1 t.2.2.2)
/-- fuel; cells and places that one step may lay; in all -/
def si_F (k : Nat) : Nat := match k with
  | 0 => 20
  | 1 => 54
  | 2 => 260
  | _ => 200
def si_c1 (k : Nat) : Nat := match k with
  | 2 => 60
  | _ => 1
def si_s1 (k : Nat) : Nat := match k with
  | 0 => 40
  | 1 => 8
  | 2 => 800
  | _ => 3800
def si_mc (k : Nat) : Nat := si_F k * si_c1 k
def si_ms (k : Nat) : Nat := si_F k * si_s1 k
def si_rm (k : Nat) : Room := { frames := if k < 2 then 1 else 2, cells := si_mc k, slots := si_ms k, locals := if k < 2 then 100 else 200 }
def si_CC (k : Nat) : ByteArray := match k with
  | 0 => prog_2_method_1_code
  | 1 => prog_3_method_1_code
  | 2 => prog_1_method_1_code
  | _ => prog_5_method_1_code
def si_ML (k : Nat) : Nat := match k with
  | 0 => 1
  | 1 => 1
  | _ => 2
def si_ws (k : Nat) : List Jvm.Cond := .code (si_Y k) (si_CC k) (si_ML k) none :: sm_tb
def si_In (D : va_G) (cid : Nat → ClassId) (ad : Nat → Nat) (hh : List si_E) (sz : Nat) (U : State) : Prop := sm_In D sm_cl cid ad (si_h hh) sz U ∧ si_Ns U
def si_Out (D : va_G) (cid : Nat → ClassId) (ad : Nat → Nat) (hh : List si_E) (sz : Nat) (hh' : List si_E) : Array Value → State → Outcome → State → Prop := fun _ st oc t =>
  (oc = .returned none ∧ ∃ ad' : Nat → Nat, si_ag hh.length ad ad' ∧ va_P D sm_cl (sm_w cid ad' (si_h hh')) t.heap ∧ va_D (va_A (sm_w cid ad (si_h hh)) sz) (sm_w cid ad' (si_h hh'))) ∧ va_F (va_A (sm_w cid ad (si_h hh)) sz) st t
def si_C (l : Launch) (D : va_G) (cid : Nat → ClassId) (ad : Nat → Nat) (k : Nat) (hh : List si_E) (a : Nat) (hh' : List si_E) : Prop :=
  ∀ sz : Nat, Met l (si_Y k) (si_ws k) (si_rm k) (va_Pc [.ref (ad a)] (si_In D cid ad hh sz)) (si_Out D cid ad hh sz hh') (si_mc k) (si_ms k) (va_A (sm_w cid ad (si_h hh)) sz)
theorem si_In.blind {D : va_G} {cid : Nat → ClassId} {ad : Nat → Nat} {hh : List si_E} {sz a : Nat} : FrameBlind (va_Pc [.ref (ad a)] (si_In D cid ad hh sz)) := by
  intro b U g mk q
  obtain ⟨q0, ⟨q1, qP, qK, qD, qZ, qT, qN⟩, qM⟩ := q
  exact ⟨q0, ⟨q1, qP, va_K.moved (u := U) (U := U.calling g mk b) (Vm.Alike.refl U.vm) qK, qD, va_Z.moved (u := U) (U := U.calling g mk b) (Vm.Alike.refl U.vm) qZ, va_T.moved (u := U) (U := U.calling g mk b) (Vm.Alike.refl U.vm) qT, sm_Nst.same (u := U) (U := U.calling g mk b) rfl qN⟩, si_Ns.same (u := U) (U := U.calling g mk b) rfl qM⟩
section SIR
variable {p : Program} {l : Launch} {e : Env} {R : Room} {s : State} {m : MethodId} {args : Array Value} {below : List Frame} {meth : Method} {c : Code} {H : Heap} {locs : List Loc} {cells slots : Nat} {Q : State → Prop}
variable {cc : ByteArray} {pc : Nat} {ls : Array Slot} {D : va_G} {A : Nat → Prop} {cid : Nat → ClassId} {ad : Nat → Nat} {Ts : List Jvm.Cond} {B : si_P} {o nL : Nat} {scr : Option (Nat × (Nat → Int32))}
theorem si_back {hh hh' : List si_E} {st0 rest : List Value} {a : Array Value} {mc ms : Nat} (hr : va_Run p l e R s m args below meth c H locs cells slots mc ms (F0 m pc ls st0) rest (si_Out D cid ad hh H.size hh' a) (va_A (sm_w cid ad (si_h hh)) H.size)) (hD : va_D A (sm_w cid ad (si_h hh))) (hS : va_S A s.heap H locs) (hA : ∀ q : Nat, s.heap.size ≤ q → A q)
    (kk : ∀ (ad' : Nat → Nat) (H1 : Heap) (locs1 : List Loc), si_ag hh.length ad ad' → va_P D sm_cl (sm_w cid ad' (si_h hh')) H1 → va_D A (sm_w cid ad' (si_h hh')) → va_S A s.heap H1 locs1 → W p l e R s m args below meth c H1 locs1 (cells + mc) (slots + ms) Q (F0 m (pc + 3) ls rest)) : W p l e R s m args below meth c H locs cells slots Q (F0 m pc ls st0) := by
  have hF := sm_sub (cid := cid) (ad := ad) hD hS hA
  intro T hT X
  obtain ⟨v, st₀, t, T', L, h0, X', hL, e1, e2, ⟨⟨hv, ad', hag, hp, hd⟩, hz, hk⟩, st⟩ := hr T hT X
  cases hv
  rw [h0] at hz hk
  obtain ⟨t2, a1, b1⟩ := kk ad' T'.heap (locs ++ L) hag (by rw [e1]; exact hp) (hd.weaken (fun _ q _ hq => hF q.1 hq))
    ⟨Nat.le_trans hS.1 (by rw [e1]; exact hz), fun q h1 h2 => by rw [e1, hk q (Nat.lt_of_lt_of_le h1 hS.1) (fun z => h2 (hF q z))]; exact hS.2.1 q h1 h2, fun q hq => by
      rcases List.mem_append.mp hq with h | h
      · exact hS.2.2 q h
      · exact hF _ (hL q h)⟩ T' rfl X'
  exact ⟨t2, st t2 a1, b1⟩
def si_Cal (R : Room) (s : State) (args : Array Value) (own : String) (B : si_P) : Prop := ∀ x k, B.2.2.2.2.2.1 x = some (some k) → si_mc k ≤ B.2.2.2.2.2.2.2.1 ∧ si_ms k ≤ B.2.2.2.2.2.2.2.2 ∧ (si_Y k).name = "<init>" ∧ (Cond.instanceMethod (si_Y k)).before args s = true ∧
  ((∃ host, va_CN R s args own x (si_Y k) host (si_CC k) (si_ML k) none (si_ws k) (si_rm k) (si_mc k) (si_ms k) 0) ∨ CallB R s args own x (si_Y k) (si_CC k) (si_ML k) none (si_ws k) (si_rm k) (si_mc k) (si_ms k) 0)
set_option maxHeartbeats 4000000 in
theorem si_sims {X : si_X} {stop b0 k0 n0 : Nat} {ad0 : Nat → Nat} (E : ∀ ad' : Nat → Nat, ad' 998 = b0 → ad' 999 = k0 → sm_Env p R s m args c cc (sm_own o) D sm_cl cid ad' Ts B.2.1 A) (hK2 : B.2.1 = sm_Kn o nL scr) (ho : B.2.2.2.2.2.2.1 = o) (ho5 : o < 5) (hA : ∀ q : Nat, s.heap.size ≤ q → A q) (hF : si_NF B (sm_own o) args s) (hN : si_Ns s) (hTb : ∀ w ∈ sm_tb, w ∈ Ts) (hini : o < 4 → meth.name = "<init>") (hB : ∀ pc i n, B.1 pc = some (i, n) → decode cc pc = .ok (i, n)) (hcal : si_Cal R s args (sm_own o) B) (hX : ∀ k a hh hh' ad, X k a hh = some hh' → si_C l D cid ad k hh a hh')
    {lvf : sm_L} {hhf : List si_E} (fin : ∀ (ad' : Nat → Nat) (ls : Array Slot) (H : Heap) (locs : List Loc) (cells slots : Nat), ad' 998 = b0 → ad' 999 = k0 → si_ag n0 ad0 ad' → cells ≤ R.cells → slots ≤ R.slots → lv_has ls B.2.1.2.2.2.2.2.1 (sm_lv ad' lvf) → va_P D sm_cl (sm_w cid ad' (si_h hhf)) H → va_D A (sm_w cid ad' (si_h hhf)) → va_S A s.heap H locs → W p l e R s m args below meth c H locs cells slots Q (F0 m stop ls [])) :
    ∀ (f pc : Nat) (lv : sm_L) (st : List Value) (hh : List si_E) (ad : Nat → Nat) (ls : Array Slot) (H : Heap) (locs : List Loc) (cells slots : Nat), ad 998 = b0 → ad 999 = k0 → si_ag n0 ad0 ad → n0 ≤ hh.length → si_rn B X stop f pc lv st hh = some (lvf, hhf) → cells + f * B.2.2.2.2.2.2.2.1 ≤ R.cells → slots + f * B.2.2.2.2.2.2.2.2 ≤ R.slots → lv_has ls B.2.1.2.2.2.2.2.1 (sm_lv ad lv) → va_P D sm_cl (sm_w cid ad (si_h hh)) H → va_D A (sm_w cid ad (si_h hh)) → va_S A s.heap H locs → W p l e R s m args below meth c H locs cells slots Q (F0 m pc ls (st.map (sm_v ad))) := by
  intro f
  induction f with
  | zero => intro pc lv st hh ad ls H locs cells slots _ _ _ _ hr; cases hr
  | succ f ih =>
    intro pc lv st hh ad ls H locs cells slots a8 a9 ag0 hn0 hr q1 q2 hl hP hD hS
    rw [Nat.succ_mul] at q1 q2
    unfold si_rn at hr
    by_cases hpc : pc = stop
    · rw [if_pos hpc] at hr
      split at hr
      · cases hr
        subst hpc
        exact fin ad ls H locs cells slots a8 a9 ag0 (by omega) (by omega) hl hP hD hS
      · cases hr
    · rw [if_neg hpc] at hr
      split at hr
      · cases hr
      · rename_i i n hi
        have hd := hB pc i n hi
        split at hr
        · rename_i x
          obtain ⟨⟨hn3, hwf⟩, hr1⟩ := sm_if hr
          subst hn3
          split at hr1
          · rename_i a r
            obtain ⟨hcat, hr2⟩ := sm_if hr1
            obtain ⟨qk, hqk, hr3⟩ := sm_bd hr2
            obtain ⟨w1, w2, w3, w4⟩ := si_wf_s hwf
            have w5 : r.all (si_vk hh.length) = true := by
              rw [List.all_cons] at w4
              exact (sm_an w4).2
            have E0 := E ad a8 a9
            obtain ⟨hx, hb, hown, hml, hK, hts, -, -, -, -, hZ, hT, -, -, hRf, hRl, hNst⟩ := id E0
            have hcat' : ((r.map (sm_v ad)).map fun v => v.category).sum ≤ 8 := by rw [sm_cat_map]; exact hcat
            cases qk with
            | none =>
              obtain ⟨-, -, -, -, -, F6, F7, F8⟩ := hF
              rw [List.map_cons]
              refine W.objInit hx hb hown (F6 x hqk) F7 F8 (g := F0 m pc ls (.ref (ad a) :: r.map (sm_v ad))) rfl (by rw [hml]; exact hl.1) rfl hd hRf (by
                have z : (F0 m pc ls (.ref (ad a) :: r.map (sm_v ad))).monitorRoom = 0 := by simp [JFrame.monitorRoom]
                rw [z]
                omega) ?_
              exact ih (pc + 3) lv r hh ad ls H locs cells slots a8 a9 ag0 hn0 hr3 (by omega) (by omega) hl hP hD hS
            | some k =>
              obtain ⟨hh', hx', hr4⟩ := sm_bd hr3
              obtain ⟨hlen, hr5⟩ := sm_if hr4
              obtain ⟨m1, m2, hy, hinst, hc⟩ := hcal x k hqk
              have hS0 : CallFix p m c cc B.2.1.2.2.2.2.2.1 s args Ts (sm_own o) := ⟨hx, hb, hml, hown, hts⟩
              have hM := hX k a hh hh' ad hx' H.size
              have pre : PreS s H (va_Pc [.ref (ad a)] (si_In D cid ad hh H.size)) (.ref (ad a) :: []) := ⟨si_In.blind, fun U hU hW => ⟨rfl, (sm_pre (vs := []) hK hP hD hS hA hZ hT hNst U hU hW).2, si_Ns.warm hW hN⟩⟩
              have run : va_Run p l e R s m args below meth c H locs cells slots (si_mc k) (si_ms k) (F0 m pc ls (.ref (ad a) :: r.map (sm_v ad))) (r.map (sm_v ad)) (si_Out D cid ad hh H.size hh' (Value.ref (ad a) :: []).toArray) (va_A (sm_w cid ad (si_h hh)) H.size) := by
                rcases hc with ⟨host, cw⟩ | cw
                · exact va_runIN (As := []) (b := ad a) (g := F0 m pc ls (.ref (ad a) :: r.map (sm_v ad))) hS0 hM ⟨cw, hy, hinst⟩ pre rfl rfl hl.1 rfl (by simpa [JFrame.monitorRoom] using hcat') hd ⟨by omega, by omega⟩
                · exact va_runI (As := []) (b := ad a) (g := F0 m pc ls (.ref (ad a) :: r.map (sm_v ad))) hS0 hM ⟨cw, hy, hinst⟩ pre rfl rfl hl.1 rfl (by simpa [JFrame.monitorRoom] using hcat') hd ⟨by omega, by omega⟩
              rw [List.map_cons]
              refine si_back run hD hS hA ?_
              intro ad' H1 locs1 hag hP1 hD1 hS1
              have k9 := ih (pc + 3) lv r hh' ad' ls H1 locs1 (cells + si_mc k) (slots + si_ms k) ((hag 998 (Or.inr (by decide))).trans a8) ((hag 999 (Or.inr (by decide))).trans a9) (fun j hj => (hag j (by rcases hj with hj | hj; exact Or.inl (by omega); exact Or.inr hj)).trans (ag0 j hj)) (by omega) hr5 (by omega) (by omega) (by rw [si_lv_ag w3 hag]; exact hl) hP1 hD1 hS1
              rw [si_st_ag w5 hag] at k9
              exact k9
          · cases hr1
        · obtain ⟨⟨pc', lv', st', hh'⟩, ht, hr1⟩ := sm_bd hr
          refine si_sim (fun ad' h1 h2 => E ad' (h1.trans a8) (h2.trans a9)) hK2 ho ho5 hA hF hN hTb hini hd ht (by omega) (by omega) hl hP hD hS ?_
          intro ad' ls' H' locs' cells' slots' hag hlen c1 c2 hl' hP' hD' hS'
          exact ih pc' lv' st' hh' ad' ls' H' locs' cells' slots' ((hag 998 (Or.inr (by decide))).trans a8) ((hag 999 (Or.inr (by decide))).trans a9) (fun j hj => (hag j (by rcases hj with hj | hj; exact Or.inl (by omega); exact Or.inr hj)).trans (ag0 j hj)) (by omega) hr1 (by omega) (by omega) hl' hP' hD' hS'
end SIR
