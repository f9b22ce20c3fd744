/-! Whole runs of a method of the small machine, calls among them; and that the machine goes with them. -/
abbrev sm_X : Type := Nat → List Value → List va_E → Option Value → List va_E → Prop
def sm_ret (ret : Option FieldType) (i : Instr) (n : Nat) (st : List Value) (o : Option Value) : Prop :=
  n = 1 ∧ ((i = .ireturn ∧ ∃ v, st = [.int v] ∧ o = some (.int v) ∧ (ret = some .int ∨ ret = some .boolean ∧ (v = 0 ∨ v = 1))) ∨ (i = .lreturn ∧ ∃ v, st = [.long v] ∧ o = some (.long v) ∧ ret = some .long) ∨ (i = .return_ ∧ st = [] ∧ o = none ∧ ret = none))
/-- a call: which kind (0 by a receiver, 1 static, 2 static in a nest mate), which method, how many parameters, the receiver's class -/
def sm_cal (ca : Nat → Option (Nat × Nat × Nat × Nat)) (i : Instr) (n : Nat) (st : List Value) (h : List va_E) (k : Nat) (vs r : List Value) : Prop :=
  n = 3 ∧ (r.map fun v => v.category).sum ≤ 8 ∧ ((∃ x ci b As, i = .invokevirtual x ∧ ca x = some (0, k, As.length, ci) ∧ st = As.reverse ++ .ref b :: r ∧ vs = .ref b :: As ∧ ∃ fs, sm_obj h b ci = some fs) ∨
    (∃ x ci, i = .invokestatic x ∧ ca x = some (1, k, vs.length, ci) ∧ st = vs.reverse ++ r) ∨ (∃ x ci, i = .invokestatic x ∧ ca x = some (2, k, vs.length, ci) ∧ st = vs.reverse ++ r))
/-- a method's own: where each instruction is, what its class knows, its calls, what it returns -/
abbrev sm_P : Type := (Nat → Option (Instr × Nat)) × sm_K × (Nat → Option (Nat × Nat × Nat × Nat)) × Option FieldType
def sm_rn (B : sm_P) (X : sm_X) : Nat → Nat → sm_L → List Value → List va_E → Option Value → List va_E → Prop
  | 0, _, _, _, _, _, _ => False
  | f + 1, pc, lv, st, h, o, h' => ∃ i n, B.1 pc = some (i, n) ∧ ((sm_ret B.2.2.2 i n st o ∧ h' = h) ∨ (∃ t : sm_T, sm_step B.2.1 i n pc lv st h = some t ∧ sm_rn B X f t.1 t.2.1 t.2.2.1 t.2.2.2 o h') ∨
      (∃ k vs r o1 h1, sm_cal B.2.2.1 i n st h k vs r ∧ X k vs h o1 h1 ∧ sm_rn B X f (pc + 3) lv (o1.toList ++ r) h1 o h'))
/-- what a method's walk needs of a state, its cells being h -/
def sm_In (D : va_G) (cl : List vw_C) (cid : Nat → ClassId) (ad : Nat → Nat) (h : List va_E) (sz : Nat) (U : State) : Prop :=
  U.heap.size = sz ∧ va_P D cl (sm_w cid ad h) U.heap ∧ va_K D cl (sm_tys cid) U ∧ va_D (fun _ => True) (sm_w cid ad h) ∧ va_Z "MiceRegisters" "KIND_LETTERS" "[I" (.ref (ad 999)) (va_A (sm_w cid ad h) sz) U U.heap ∧ va_T .int (ad 999) 6 (fun j => .int (sm_kl j)) (va_A (sm_w cid ad h) sz) U U.heap ∧ sm_Nst U
def sm_Out (D : va_G) (cl : List vw_C) (cid : Nat → ClassId) (ad : Nat → Nat) (h : List va_E) (sz : Nat) (o : Option Value) (h' : List va_E) : Array Value → State → Outcome → State → Prop := fun _ st oc t =>
  (oc = .returned (o.map (sm_v ad)) ∧ va_P D cl (sm_w cid ad h') t.heap ∧ va_D (va_A (sm_w cid ad h) sz) (sm_w cid ad h')) ∧ va_F (va_A (sm_w cid ad h) sz) st t
/-- the contract of one run -/
def sm_C (l : Launch) (D : va_G) (cl : List vw_C) (cid : Nat → ClassId) (ad : Nat → Nat) (y : MethodName) (ws : List Jvm.Cond) (rm : Room) (vs : List Value) (h : List va_E) (o : Option Value) (h' : List va_E) : Prop :=
  ∀ sz : Nat, Met l y ws rm (va_Pc (vs.map (sm_v ad)) (sm_In D cl cid ad h sz)) (sm_Out D cl cid ad h sz o h') 0 0 (va_A (sm_w cid ad h) sz)
theorem sm_In.blind {D : va_G} {cl : List vw_C} {cid : Nat → ClassId} {ad : Nat → Nat} {h : List va_E} {sz : Nat} {vs : List Value} : FrameBlind (va_Pc (vs.map (sm_v ad)) (sm_In D cl cid ad h sz)) := by
  intro a U g mk q
  obtain ⟨q0, q1, qP, qK, qD, qZ, qT, qN⟩ := q
  exact ⟨q0, q1, qP, va_K.moved (u := U) (U := U.calling g mk a) (Vm.Alike.refl U.vm) qK, qD, va_Z.moved (u := U) (U := U.calling g mk a) (Vm.Alike.refl U.vm) qZ, va_T.moved (u := U) (U := U.calling g mk a) (Vm.Alike.refl U.vm) qT, sm_Nst.same (u := U) (U := U.calling g mk a) rfl qN⟩
section SMR
variable {p : Program} {l : Launch} {e : Env} {R : Room} {s : State} {m : MethodId} {args : Array Value} {below : List Frame} {meth : Method} {c : Code} {H : Heap} {locs : List Loc} {cells slots : Nat} {Q : State → Prop}
variable {cc : ByteArray} {pc : Nat} {ls : Array Slot} {D : va_G} {cl : List vw_C} {A : Nat → Prop} {cid : Nat → ClassId} {ad : Nat → Nat}
/-- the cells of the world, and all new ones, are among those that may be written -/
theorem sm_sub {h : List va_E} (hD : va_D A (sm_w cid ad h)) (hS : va_S A s.heap H locs) (hA : ∀ q : Nat, s.heap.size ≤ q → A q) : ∀ q, va_A (sm_w cid ad h) H.size q → A q := by
  intro q hq
  rcases hq with ⟨k, e, hk⟩ | hq
  · exact hD.2 k _ hk
  · exact hA q (Nat.le_trans hS.1 hq)
theorem sm_pre {h : List va_E} {vs : List Value} (hK : va_K D cl (sm_tys cid) s) (hP : va_P D cl (sm_w cid ad h) H) (hD : va_D A (sm_w cid ad h)) (hS : va_S A s.heap H locs) (hA : ∀ q : Nat, s.heap.size ≤ q → A q)
    (hZ : va_Z "MiceRegisters" "KIND_LETTERS" "[I" (.ref (ad 999)) A s s.heap) (hT : va_T .int (ad 999) 6 (fun j => .int (sm_kl j)) A s s.heap) (hN : sm_Nst s) (U : State) (hU : U.heap = H) (hW : s.WarmedH U.vm) : va_Pc (vs.map (sm_v ad)) (sm_In D cl cid ad h H.size) (vs.map (sm_v ad)).toArray U := by
  have hF := sm_sub (cid := cid) (ad := ad) hD hS hA
  refine ⟨rfl, by rw [hU], by rw [hU]; exact hP, va_K.moved hW.alike hK, hD.weaken (fun _ _ _ _ => trivial), ?_, ?_, sm_Nst.warm hW hN⟩
  · exact va_Z.narrow (va_Z.kept (va_Z.moved hW.alike hZ) (fun a h1 h2 => by rw [hU]; exact hS.2.1 a h1 h2)) hF
  · exact va_T.narrow (va_T.kept (va_T.moved hW.alike hT) (fun a h1 h2 => by rw [hU]; exact hS.2.1 a h1 h2)) hF
/-- behind a call -/
theorem sm_back {h h1 : List va_E} {o1 : Option Value} {st0 rest : List Value} {a : Array Value} (hr : va_Run p l e R s m args below meth c H locs cells slots 0 0 (F0 m pc ls st0) rest (sm_Out D cl cid ad h H.size o1 h1 a) (va_A (sm_w cid ad h) H.size)) (hD : va_D A (sm_w cid ad h)) (hS : va_S A s.heap H locs) (hA : ∀ q : Nat, s.heap.size ≤ q → A q)
    (kk : ∀ (H1 : Heap) (locs1 : List Loc), va_P D cl (sm_w cid ad h1) H1 → va_D A (sm_w cid ad h1) → va_S A s.heap H1 locs1 → W p l e R s m args below meth c H1 locs1 cells slots Q (F0 m (pc + 3) ls (((o1.map (sm_v ad)).toList ++ rest)))) : W p l e R s m args below meth c H locs cells slots Q (F0 m pc ls st0) := by
  have hF := sm_sub (cid := cid) (ad := ad) hD hS hA
  intro T hT X
  obtain ⟨v, st₀, t, T', L, h0, X', hL, e1, e2, ⟨⟨hv, hp, hd⟩, hz, hk⟩, st⟩ := hr T hT X
  cases hv
  rw [h0] at hz hk
  obtain ⟨t2, a1, b1⟩ := kk T'.heap (locs ++ L) (by rw [e1]; exact hp) (hd.weaken (fun _ q _ hq => hF q.1 hq))
    ⟨Nat.le_trans hS.1 (by rw [e1]; exact hz), fun q h1 h2 => by rw [e1, hk q (Nat.lt_of_lt_of_le h1 hS.1) (fun z => h2 (hF q z))]; exact hS.2.1 q h1 h2, fun q hq => by
      rcases List.mem_append.mp hq with h | h
      · exact hS.2.2 q h
      · exact hF _ (hL q h)⟩ T' rfl X'
  exact ⟨t2, st t2 a1, b1⟩
/-- what is known of a method's calls: their words and rooms -/
def sm_Cok (R : Room) (s : State) (args : Array Value) (cl : List vw_C) (own : String) (Y : Nat → MethodName) (CC : Nat → ByteArray) (ML : Nat → Nat) (RT : Nat → Option FieldType) (WS : Nat → List Jvm.Cond) (rm : Room) (ca : Nat → Option (Nat × Nat × Nat × Nat)) : Prop :=
  (∀ x k np ci, ca x = some (0, k, np, ci) → ∃ q : vw_C, cl[ci]? = some q ∧ CallW R s args own q.1 x (Y k) (CC k) (ML k) (RT k) (WS k) rm 0 0 np) ∧
  (∀ x k np ci, ca x = some (1, k, np, ci) → CallB R s args own x (Y k) (CC k) (ML k) (RT k) (WS k) rm 0 0 np ∧ (Jvm.Cond.static (Y k)).before args s = true) ∧
  (∀ x k np ci, ca x = some (2, k, np, ci) → ∃ host, va_CN R s args own x (Y k) host (CC k) (ML k) (RT k) (WS k) rm 0 0 np ∧ (Jvm.Cond.static (Y k)).before args s = true ∧ True)
set_option maxHeartbeats 4000000 in
theorem sm_sims {own : String} {Ts : List Jvm.Cond} {B : sm_P} {X : sm_X} {Y : Nat → MethodName} {CC : Nat → ByteArray} {ML : Nat → Nat} {RT : Nat → Option FieldType} {WS : Nat → List Jvm.Cond} {rm : Room}
    (E : sm_Env p R s m args c cc own D cl cid ad Ts B.2.1 A) (hcl : cells ≤ R.cells ∧ slots ≤ R.slots) (hA : ∀ q : Nat, s.heap.size ≤ q → A q) (hB : ∀ pc i n, B.1 pc = some (i, n) → decode cc pc = .ok (i, n))
    (hca : sm_Cok R s args cl own Y CC ML RT WS rm B.2.2.1) (hX : ∀ k vs h o h', X k vs h o h' → sm_C l D cl cid ad (Y k) (WS k) rm vs h o h') {o : Option Value} {h' : List va_E}
    (fin : ∀ (pc : Nat) (i : Instr) (n : Nat) (st : List Value) (ls : Array Slot) (H : Heap) (locs : List Loc), decode cc pc = .ok (i, n) → sm_ret B.2.2.2 i n st o → va_P D cl (sm_w cid ad h') H → va_D A (sm_w cid ad h') → va_S A s.heap H locs → W p l e R s m args below meth c H locs cells slots Q (F0 m pc ls (st.map (sm_v ad)))) :
    ∀ (f pc : Nat) (lv : sm_L) (st : List Value) (h : List va_E) (ls : Array Slot) (H : Heap) (locs : List Loc), sm_rn B X f pc lv st h o h' → lv_has ls B.2.1.2.2.2.2.2.1 (sm_lv ad lv) → va_P D cl (sm_w cid ad h) H → va_D A (sm_w cid ad h) → va_S A s.heap H locs → W p l e R s m args below meth c H locs cells slots Q (F0 m pc ls (st.map (sm_v ad))) := by
  intro f
  induction f with
  | zero => intro pc lv st h ls H locs hr; exact hr.elim
  | succ f ih =>
    intro pc lv st h ls H locs hr hl hP hD hS
    obtain ⟨i, n, hi, hr⟩ := hr
    have hd := hB pc i n hi
    rcases hr with ⟨hr, rfl⟩ | ⟨⟨pc', lv', st', h1⟩, hs, hr⟩ | ⟨k, vs, r, o1, h1, ⟨hn, hcat, hk⟩, hx, hr⟩
    · exact fin pc i n st ls H locs hd hr hP hD hS
    · exact sm_sim E hcl hd hs hl hP hD hS (fun ls' H' locs' hl' hP' hD' hS' => ih pc' lv' st' h1 ls' H' locs' hr hl' hP' hD' hS')
    · subst hn
      obtain ⟨hx0, hb0, hown, hml, hK, hts, -, -, -, -, hZ, hT, -, -, -, -, hN⟩ := id E
      have hS0 : CallFix p m c cc B.2.1.2.2.2.2.2.1 s args Ts own := ⟨hx0, hb0, hml, hown, hts⟩
      have hM := hX k vs h o1 h1 hx H.size
      have hcat' : ((r.map (sm_v ad)).map fun v => v.category).sum ≤ 8 := by rw [sm_cat_map]; exact hcat
      have go : ∀ (H1 : Heap) (locs1 : List Loc), va_P D cl (sm_w cid ad h1) H1 → va_D A (sm_w cid ad h1) → va_S A s.heap H1 locs1 → W p l e R s m args below meth c H1 locs1 cells slots Q (F0 m (pc + 3) ls ((o1.map (sm_v ad)).toList ++ r.map (sm_v ad))) := by
        intro H1 locs1 hP1 hD1 hS1
        have w := ih (pc + 3) lv (o1.toList ++ r) h1 ls H1 locs1 hr hl hP1 hD1 hS1
        have e : (o1.toList ++ r).map (sm_v ad) = (o1.map (sm_v ad)).toList ++ r.map (sm_v ad) := by cases o1 <;> simp
        rw [e] at w
        exact w
      rcases hk with ⟨x, ci, b, As, rfl, hc, rfl, rfl, fs, hfs⟩ | ⟨x, ci, rfl, hc, rfl⟩ | ⟨x, ci, rfl, hc, rfl⟩
      · obtain ⟨q, hq, cw⟩ := hca.1 _ _ _ _ hc
        have hrun := va_runV (As := As.map (sm_v ad)) (rest := r.map (sm_v ad)) (b := ad b) (g := F0 m pc ls ((As.reverse ++ .ref b :: r).map (sm_v ad))) (H := H) (locs := locs) (cells := cells) (slots := slots) (below := below) (meth := meth) (e := e) hS0 hM cw ⟨sm_In.blind, va_recv hK hP hq (sm_w_get (sm_obj_s hfs)), fun U hU hW => sm_pre hK hP hD hS hA hZ hT hN U hU hW⟩ rfl (by simp) hl.1 (by simp [sm_v]) (by simpa [JFrame.monitorRoom] using hcat') hd ⟨hcl.1, hcl.2⟩
        exact sm_back hrun hD hS hA go
      · obtain ⟨cw1, cw2⟩ := hca.2.1 _ _ _ _ hc
        have hrun := va_runS (As := vs.map (sm_v ad)) (rest := r.map (sm_v ad)) (g := F0 m pc ls ((vs.reverse ++ r).map (sm_v ad))) (H := H) (locs := locs) (cells := cells) (slots := slots) (below := below) (meth := meth) (e := e) hS0 hM ⟨cw1, cw2⟩ ⟨sm_In.blind, fun U hU hW => sm_pre hK hP hD hS hA hZ hT hN U hU hW⟩ rfl (by simp) hl.1 (by simp) (by simpa [JFrame.monitorRoom] using hcat') hd ⟨hcl.1, hcl.2⟩
        exact sm_back hrun hD hS hA go
      · obtain ⟨host, cw⟩ := hca.2.2 _ _ _ _ hc
        have hrun := va_runSN (As := vs.map (sm_v ad)) (rest := r.map (sm_v ad)) (g := F0 m pc ls ((vs.reverse ++ r).map (sm_v ad))) (H := H) (locs := locs) (cells := cells) (slots := slots) (below := below) (meth := meth) (e := e) hS0 hM cw ⟨sm_In.blind, fun U hU hW => sm_pre hK hP hD hS hA hZ hT hN U hU hW⟩ rfl (by simp) hl.1 (by simp) (by simpa [JFrame.monitorRoom] using hcat') hd ⟨hcl.1, hcl.2⟩
        exact sm_back hrun hD hS hA go
end SMR
