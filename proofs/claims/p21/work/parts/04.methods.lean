/-! A method's contract out of its runs; all methods, by how deep their calls go. -/
theorem sm_args_lv (ad : Nat → Nat) : ∀ (n : Nat) (vs : List Value), sm_lv ad (lv_args n vs) = lv_args n (vs.map (sm_v ad))
  | _, [] => rfl
  | n, v :: vs => by
    have h := sm_args_lv ad (n + v.category) vs
    cases v <;> exact congrArg (List.cons _) h
theorem sm_sl_len (ad : Nat → Nat) : ∀ vs : List Value, (lg_sl (vs.map (sm_v ad))).length = (lg_sl vs).length
  | [] => rfl
  | v :: vs => by
    have h := sm_sl_len ad vs
    unfold lg_sl at h ⊢
    rw [List.map_cons, List.flatMap_cons, List.flatMap_cons, List.length_append, List.length_append, h]
    cases v <;> rfl
def sm_rm (d : Nat) : Room := { frames := d, cells := 0, slots := 0, locals := 100 * d }
/-- what is to be known of a method and its class, whatever the state: own class, its rows of words Tb -/
def sm_Own (cl : List vw_C) (Tb : List Jvm.Cond) (own : String) (Y : Nat → MethodName) (CC : Nat → ByteArray) (ML : Nat → Nat) (RT : Nat → Option FieldType) (B : sm_P) : Prop :=
  (∀ x ci k t, B.2.1.1 x = some (ci, k, t) → ∃ (C : String) (T : u_T) (N : Nat) (ty0 : Nat → FieldType), cl[ci]? = some (C, T, N) ∧ k < N ∧ (∀ w ∈ u_ws C T N, w ∈ Tb) ∧ (Jvm.Cond.fieldLink own x (T k).1 (T k).2.1 (T k).2.2.1) ∈ Tb ∧
    (∀ k, k < N → parseFieldDescriptor (T k).2.2.1 = some (ty0 k)) ∧ (∀ a, a < N → ∀ b, b < N → a ≠ b → (T a).2.1 ≠ (T b).2.1) ∧ (t = 0 → (T k).2.2.2 = false ∧ parseFieldDescriptor (T k).2.2.1 = some .int) ∧ (t = 1 → (T k).2.2.2 = false ∧ parseFieldDescriptor (T k).2.2.1 = some .long)) ∧
  (∀ x v, B.2.1.2.1 x = some v → Jvm.Cond.constant own x v ∈ Tb) ∧ (∀ x v, B.2.1.2.2.1 x = some v → Jvm.Cond.constantLong own x v ∈ Tb) ∧ (∀ x, B.2.1.2.2.2.1 x = true → Jvm.Cond.fieldLink own x "MiceRegisters" "KIND_LETTERS" "[I" ∈ Tb) ∧
  ((∀ x, B.2.1.2.2.2.2.2.2 x = some 0 → Jvm.Cond.methodLink own x Lib.Math.max.name ∈ Tb) ∧ (∀ x, B.2.1.2.2.2.2.2.2 x = some 1 → Jvm.Cond.methodLink own x Lib.Math.min.name ∈ Tb) ∧ (∀ x, B.2.1.2.2.2.2.2.2 x = some 2 → Jvm.Cond.methodLink own x Lib.Math.abs.name ∈ Tb) ∧ (∀ x, B.2.1.2.2.2.2.2.2 x = some 3 → Jvm.Cond.methodLink own x arraycopyName ∈ Tb)) ∧
  (∀ w ∈ ([.static Lib.Math.max.name, .static Lib.Math.min.name, .static Lib.Math.abs.name, .initialized "java/lang/Math", .code Lib.Math.max.name Lib.Math.max.code 2 (some .int), .code Lib.Math.min.name Lib.Math.min.code 2 (some .int), .code Lib.Math.abs.name Lib.Math.abs.code 1 (some .int), .native arraycopyName, .static arraycopyName, .initialized "java/lang/System"] : List Jvm.Cond), w ∈ Tb) ∧
  (∀ x k np ci, B.2.2.1 x = some (0, k, np, ci) → ∃ q : vw_C, cl[ci]? = some q ∧ (Y k).cls = q.1 ∧ Jvm.Cond.methodLink own x (Y k) ∈ Tb ∧ Jvm.Cond.instanceMethod (Y k) ∈ Tb ∧ Jvm.Cond.selects q.1 (Y k) (Y k) ∈ Tb ∧ Jvm.Cond.initialized q.1 ∈ Tb ∧ Jvm.Cond.code (Y k) (CC k) (ML k) (RT k) ∈ Tb ∧ ((Y k).cls ≠ "java/lang/invoke/MethodHandle" ∧ (Y k).cls ≠ "java/lang/invoke/VarHandle" ∧ (parseMethodDescriptor (Y k).desc).map (fun d => d.parameters.length) = some np) ∧ ML k ≤ 81) ∧
  (∀ x k np ci, B.2.2.1 x = some (1, k, np, ci) → (Y k).cls = own ∧ Jvm.Cond.methodLink own x (Y k) ∈ Tb ∧ Jvm.Cond.static (Y k) ∈ Tb ∧ Jvm.Cond.initialized own ∈ Tb ∧ Jvm.Cond.code (Y k) (CC k) (ML k) (RT k) ∈ Tb ∧ ((Y k).cls ≠ "java/lang/invoke/MethodHandle" ∧ (Y k).cls ≠ "java/lang/invoke/VarHandle" ∧ (parseMethodDescriptor (Y k).desc).map (fun d => d.parameters.length) = some np) ∧ ML k ≤ 81) ∧
  (∀ x k np ci, B.2.2.1 x = some (2, k, np, ci) → ∃ host, (own, x, Y k, host) ∈ sm_NS ∧ Jvm.Cond.static (Y k) ∈ Tb ∧ Jvm.Cond.initialized (Y k).cls ∈ Tb ∧ Jvm.Cond.code (Y k) (CC k) (ML k) (RT k) ∈ Tb ∧ ((Y k).cls ≠ "java/lang/invoke/MethodHandle" ∧ (Y k).cls ≠ "java/lang/invoke/VarHandle" ∧ (parseMethodDescriptor (Y k).desc).map (fun d => d.parameters.length) = some np) ∧ ML k ≤ 81)
section SMM
variable {p : Program} {l : Launch} {e : Env} {R : Room} {s : State} {m : MethodId} {args : Array Value} {below : List Frame} {meth : Method} {c : Code}
variable {cc : ByteArray} {D : va_G} {cl : List vw_C} {A : Nat → Prop} {cid : Nat → ClassId} {ad : Nat → Nat} {Tb Ts : List Jvm.Cond} {own : String} {Y : Nat → MethodName} {CC : Nat → ByteArray} {ML : Nat → Nat} {RT : Nat → Option FieldType} {B : sm_P}
theorem sm_env (O : sm_Own cl Tb own Y CC ML RT B) (hsub : ∀ w ∈ Tb, w ∈ Ts) (hts : ∀ w ∈ Ts, w.before args s = true) (hx : p.tables.exec = Jvm.exec) (hb : c.code = cc) (hown : s.vm.findClass own = some m.cls) (hml : c.maxLocals = B.2.1.2.2.2.2.2.1) (hK : va_K D cl (sm_tys cid) s)
    (hZ : va_Z "MiceRegisters" "KIND_LETTERS" "[I" (.ref (ad 999)) A s s.heap) (hT : va_T .int (ad 999) 6 (fun j => .int (sm_kl j)) A s s.heap) (hX : ∀ q, B.2.1.2.2.2.2.1 = some q → va_X (ad 998) q.1 q.2 s s.heap ∧ ad 998 < s.heap.size ∧ ¬ A (ad 998)) (hR : 1 ≤ R.frames ∧ 100 ≤ R.locals) (hN : sm_Nst s) : sm_Env p R s m args c cc own D cl cid ad Ts B.2.1 A := by
  obtain ⟨o1, o2, o3, o4, ⟨n0, n1, n2, n3⟩, o6, -⟩ := O
  have ok : ∀ w ∈ Tb, w.before args s = true := fun w hw => hts w (hsub w hw)
  have o6 : ∀ w, w ∈ ([.static Lib.Math.max.name, .static Lib.Math.min.name, .static Lib.Math.abs.name, .initialized "java/lang/Math", .code Lib.Math.max.name Lib.Math.max.code 2 (some .int), .code Lib.Math.min.name Lib.Math.min.code 2 (some .int), .code Lib.Math.abs.name Lib.Math.abs.code 1 (some .int), .native arraycopyName, .static arraycopyName, .initialized "java/lang/System"] : List Jvm.Cond) → w.before args s = true := fun w hw => ok w (o6 w hw)
  refine ⟨hx, hb, hown, hml, hK, hts, ?_, fun x v h => ok _ (o2 x v h), fun x v h => ok _ (o3 x v h), fun x h => ok _ (o4 x h), hZ, hT, hX, ⟨fun x h => ⟨ok _ (n0 x h), o6 _ (by simp), o6 _ (by simp), o6 _ (by simp)⟩, fun x h => ⟨ok _ (n1 x h), o6 _ (by simp), o6 _ (by simp), o6 _ (by simp)⟩, fun x h => ⟨ok _ (n2 x h), o6 _ (by simp), o6 _ (by simp), o6 _ (by simp)⟩, fun x h => ⟨ok _ (n3 x h), o6 _ (by simp), o6 _ (by simp), o6 _ (by simp)⟩⟩, hR.1, hR.2, hN⟩
  intro x ci k t h
  obtain ⟨C, T, N, ty0, h1, h2, h3, h4, h5⟩ := o1 x ci k t h
  exact ⟨C, T, N, ty0, h1, h2, fun w hw => hsub w (h3 w hw), ok _ h4, h5⟩
/-- a method's words: its own code, and the table -/
abbrev sm_ws (Tb : List Jvm.Cond) (Y : Nat → MethodName) (CC : Nat → ByteArray) (ML : Nat → Nat) (RT : Nat → Option FieldType) (k : Nat) : List Jvm.Cond := .code (Y k) (CC k) (ML k) (RT k) :: Tb
theorem sm_good (hg : Tb.all goodWord = true) (hsub : ∀ w ∈ Tb, w ∈ Ts) {ws : List Jvm.Cond} (h : ∀ w ∈ ws, w ∈ Tb) : GoodIn Ts ws := fun w hw => ⟨hsub w (h w hw), good_of_word (List.all_eq_true.mp hg w (h w hw))⟩
theorem sm_cok (O : sm_Own cl Tb own Y CC ML RT B) (hg : Tb.all goodWord = true) (hsub : ∀ w ∈ Tb, w ∈ Ts) (hts : ∀ w ∈ Ts, w.before args s = true) (hN : sm_Nst s) {d : Nat} (hR : d + 1 ≤ R.frames ∧ 100 * d + 100 ≤ R.locals) : sm_Cok R s args cl own Y CC ML RT (sm_ws Tb Y CC ML RT) (sm_rm d) B.2.2.1 := by
  obtain ⟨-, -, -, -, -, -, v0, v1, v2⟩ := O
  refine ⟨fun x k np ci h => ?_, fun x k np ci h => ?_, fun x k np ci h => ?_⟩
  · obtain ⟨q, h1, h2, h3, h4, h5, h6, h7, h8, h9⟩ := v0 x k np ci h
    refine ⟨q, h1, cwV np hts (sm_good hg hsub ?_) rfl rfl rfl ⟨h2, h8⟩ ⟨hR.1, ?_⟩⟩
    · intro w hw
      simp only [wsV, List.cons_append, List.nil_append, List.mem_cons] at hw
      rcases hw with rfl | rfl | rfl | rfl | rfl | hw <;> assumption
    · show 8 + (ML k + 11) + 100 * d ≤ R.locals
      omega
  · obtain ⟨h2, h3, h4, h6, h7, h8, h9⟩ := v1 x k np ci h
    refine cwS np hts (sm_good hg hsub ?_) rfl rfl rfl ⟨h2, h8⟩ ⟨hR.1, ?_⟩
    · intro w hw
      simp only [wsS, List.cons_append, List.nil_append, List.mem_cons] at hw
      rcases hw with rfl | rfl | rfl | rfl | hw <;> assumption
    · show 8 + (ML k + 11) + 100 * d ≤ R.locals
      omega
  · obtain ⟨host, h3, h4, h6, h7, h8, h9⟩ := v2 x k np ci h
    refine ⟨host, va_cnB np hts (sm_good hg hsub ?_) rfl rfl rfl (hN _ h3) (hts _ (hsub _ h6)) h8 ⟨hR.1, ?_⟩, hts _ (hsub _ h4), trivial⟩
    · intro w hw
      simp only [List.mem_cons] at hw
      rcases hw with rfl | hw <;> assumption
    · show 8 + (ML k + 11) + 100 * d ≤ R.locals
      omega
set_option maxHeartbeats 4000000 in
theorem sm_met {X : sm_X} {k d f : Nat} {vs : List Value} {h h' : List va_E} {o : Option Value} (hy : plainName (Y k).cls = true) (O : sm_Own cl Tb (Y k).cls Y CC ML RT B) (hg : Tb.all goodWord = true) (hB : ∀ pc i n, B.1 pc = some (i, n) → decode (CC k) pc = .ok (i, n)) (hnL : B.2.1.2.2.2.2.2.1 = ML k) (hsc : B.2.1.2.2.2.2.1 = none) (hrt : B.2.2.2 = RT k)
    (hX : ∀ k vs h o h', X k vs h o h' → sm_C l D cl cid ad (Y k) (sm_ws Tb Y CC ML RT k) (sm_rm d) vs h o h') (hlen : (lg_sl vs).length ≤ ML k) (hr : sm_rn B X f 0 (lv_args 0 vs) [] h o h') : sm_C l D cl cid ad (Y k) (sm_ws Tb Y CC ML RT k) (sm_rm (d + 1)) vs h o h' := by
  intro sz
  refine Met.ofW (cc := CC k) (maxL := ML k) (ret := RT k) hy rfl ?_
  intro p e s m args below meth c s₁ Bd hml hv
  obtain ⟨rfl, hsz, hP, hK, hD0, hZ, hT, hN⟩ := hv
  have hx := Bd.exec
  have hb := Bd.bytes
  have hrr := Bd.returns
  have hts := atoms_spec (ws := sm_ws Tb Y CC ML RT k) Bd.pre
  have hown : s.vm.findClass (Y k).cls = some m.cls := findClass_of_methodNamed Bd.named
  have hlocks := Bd.notSynchronized
  subst hsz
  have hD := hD0.self (sz := s.heap.size)
  generalize hAe : va_A (sm_w cid ad h) s.heap.size = A at hD hZ hT ⊢
  have hA : ∀ q : Nat, s.heap.size ≤ q → A q := fun q h => by rw [← hAe]; exact Or.inr h
  have hS : va_S A s.heap s.heap [] := va_S.rf
  have hl := lv_entry (vs.map (sm_v ad)) (n := ML k) (by rw [sm_sl_len]; exact hlen)
  rw [lg_entry_eq]
  generalize (lg_sl (vs.map (sm_v ad)) ++ List.replicate (ML k - (lg_sl (vs.map (sm_v ad))).length) Slot.unset).toArray = ls at hl ⊢
  rw [← sm_args_lv] at hl
  have E := sm_env (p := p) (R := (headSpec (sm_ws Tb Y CC ML RT k) (sm_rm (d + 1))).room) (A := A) (cid := cid) (ad := ad) (D := D) O (Ts := sm_ws Tb Y CC ML RT k) (fun w hw => List.mem_cons_of_mem _ hw) hts hx hb hown (by rw [hnL]; exact hml) hK hZ hT (fun q hq => by rw [hsc] at hq; cases hq) ⟨by show 1 ≤ d + 1; omega, by show 100 ≤ 100 * (d + 1); omega⟩ hN
  refine sm_sims (B := B) (X := X) (f := f) (o := o) (h' := h') E ⟨Nat.le_refl _, Nat.le_refl _⟩ hA hB (sm_cok O hg (fun w hw => List.mem_cons_of_mem _ hw) hts hN (d := d) ⟨by show d + 1 ≤ d + 1; omega, by show 100 * d + 100 ≤ 100 * (d + 1); omega⟩) hX ?_ 0 (lv_args 0 vs) [] h ls s.heap [] hr (by rw [hnL]; exact hl) hP hD hS
  intro pc i n st ls H locs hd hret hP hD hS
  obtain ⟨rfl, hret⟩ := hret
  rcases hret with ⟨rfl, v, rfl, rfl, hv⟩ | ⟨rfl, v, rfl, rfl, hv⟩ | ⟨rfl, rfl, rfl, hv⟩
  · rcases hv with hv | ⟨hv, h01⟩
    · rw [hrt] at hv
      exact W.iret hx hb (hrr.trans hv) (fun t ht hW => by unfold sm_Out; rw [hAe]; exact ⟨⟨rfl, by rw [ht]; exact hP, hD⟩, hS.F ht⟩) hS.2.2 hd
    · rw [hrt] at hv
      exact W.zret (ty := .boolean) hx hb (hrr.trans hv) (by rcases h01 with rfl | rfl <;> rfl) (fun t ht hW => by unfold sm_Out; rw [hAe]; exact ⟨⟨rfl, by rw [ht]; exact hP, hD⟩, hS.F ht⟩) hS.2.2 hd
  · rw [hrt] at hv
    exact W.lret hx hb (hrr.trans hv) (fun t ht hW => by unfold sm_Out; rw [hAe]; exact ⟨⟨rfl, by rw [ht]; exact hP, hD⟩, hS.F ht⟩) hS.2.2 hd
  · rw [hrt] at hv
    exact W.vret hx hb (hrr.trans hv) (fun t ht hW => by unfold sm_Out; rw [hAe]; exact ⟨⟨rfl, by rw [ht]; exact hP, hD⟩, hS.F ht⟩) hS.2.2 hd
end SMM
/-- runs of methods, calls d deep at most -/
def sm_Ex (NM : Nat) (ML : Nat → Nat) (B : Nat → sm_P) : Nat → sm_X
  | 0 => fun _ _ _ _ _ => False
  | d + 1 => fun k vs h o h' => k < NM ∧ (lg_sl vs).length ≤ ML k ∧ ∃ f, sm_rn (B k) (sm_Ex NM ML B d) f 0 (lv_args 0 vs) [] h o h'
theorem sm_all {l : Launch} {D : va_G} {cl : List vw_C} {cid : Nat → ClassId} {ad : Nat → Nat} {Tb : List Jvm.Cond} {Y : Nat → MethodName} {CC : Nat → ByteArray} {ML : Nat → Nat} {RT : Nat → Option FieldType} {NM : Nat} {B : Nat → sm_P} (hg : Tb.all goodWord = true)
    (hM : ∀ k, k < NM → plainName (Y k).cls = true ∧ sm_Own cl Tb (Y k).cls Y CC ML RT (B k) ∧ (∀ pc i n, (B k).1 pc = some (i, n) → decode (CC k) pc = .ok (i, n)) ∧ (B k).2.1.2.2.2.2.2.1 = ML k ∧ (B k).2.1.2.2.2.2.1 = none ∧ (B k).2.2.2 = RT k) :
    ∀ (d k : Nat) (vs : List Value) (h : List va_E) (o : Option Value) (h' : List va_E), sm_Ex NM ML B d k vs h o h' → sm_C l D cl cid ad (Y k) (sm_ws Tb Y CC ML RT k) (sm_rm d) vs h o h' := by
  intro d
  induction d with
  | zero => intro k vs h o h' hx; exact hx.elim
  | succ d ih =>
    intro k vs h o h' hx
    obtain ⟨hk, hlen, f, hr⟩ := hx
    obtain ⟨h1, h2, h3, h4, h5, h6⟩ := hM k hk
    exact sm_met h1 h2 hg h3 h4 h5 h6 ih hlen hr
