/-! THE CLAIM OUT OF ONE WALK OF THE LAW'S BODY. Your part is whole_start (and what it stands on); all else here is the same for every law, but numbers. -/
def R_law : String := "MiceRegistersLaw"
def lw_P (b : Addr) (xs : List Int32) (args : Array Value) (s : State) : Prop := args = #[.ref b] ∧ s.IntsAt b xs ∧ xs.length ≤ 3072 ∧ (Jvm.Cond.and given_1 narrow_1).before args s = true
def lw_Q (_ : Array Value) (s : State) (o : Outcome) (t : State) : Prop := o = .returned (some (.int 1)) ∧ Framed s o t [] 600000 7302250
def lw_Z (below : List Frame) (a : Array Value) (s : State) : State → Prop := fun t => ∃ o, t.status = .running ∧ Ended t below o ∧ lw_Q a s o t
/-- the law's own end, with 1 on the stack, nothing written that was there before, its room as the claim has it -/
theorem lw_ret {p : Program} {l : Launch} {e : Env} {s : State} {m : MethodId} {below : List Frame} {meth : Method} {c : Code} {b : Nat} (hx : p.tables.exec = Jvm.exec) (hb : c.code = code) (hr : meth.sig.returnType = ret) (hlocks : meth.locks = false) {pc : Nat} {H : Heap} {ls : Array Slot} (hdg : decode code pc = .ok (.ireturn, 1)) : W p l e room_1 s m #[Value.ref b] below meth c H [] 600000 7302250 (lw_Z below #[Value.ref b] s) (F0 m pc ls [.int 1]) := by
  intro T hT X
  obtain ⟨fs, hret, hrun, hended, hW, hframe⟩ := X.leave (v := some (.int 1)) (hlocks := hlocks) (fun h => by rw [hr] at h; cases h)
  have hmeth' : T.vm.method? m = some meth := X.method'
  refine ⟨T.setFrames fs, ?_, .returned (some (.int 1)), hrun, hended, rfl, ⟨_, rfl⟩, hW, hframe⟩
  jvm_step X.here [X.here.top, hx, hb, hdg, hmeth', hr, ret, narrow_b1]
  (try refine ⟨rfl, ?_⟩); (try refine ⟨rfl, ?_⟩)
  first | (intro acts; rw [hret _ acts rfl rfl rfl]) | rw [hret _ _ rfl rfl rfl]
  exact Steps.refl _
/-- what holds at the law's entry: the machine, the code, the tables' words (any of lw_tbl by 'hts w (by decide +kernel)'), the script of L ints xs at the cell b, what the Statement gives of the start (any of its parts by flat_of_before) -/
def lw_At (p : Program) (s : State) (m : MethodId) (meth : Method) (c : Code) (b L : Nat) (xs : Nat → Int32) : Prop :=
  p.tables.exec = Jvm.exec ∧ c.code = code ∧ meth.sig.returnType = ret ∧ c.maxLocals = 4 ∧ s.vm.findClass R_law = some m.cls ∧ (∀ w ∈ lw_tbl, w.before #[Value.ref b] s = true) ∧ va_X b L xs s s.heap ∧ b < s.heap.size ∧ meth.locks = false ∧ (Jvm.Cond.and given_1 narrow_1).before #[Value.ref b] s = true
def ws_D (d0 d1 d2 d3 : ClassId) (i0 i1 i2 i3 : Nat → Nat) : va_G := (fun c => match c with
  | 0 => d0
  | 1 => d1
  | 2 => d2
  | _ => d3, fun c => match c with
  | 0 => i0
  | 1 => i1
  | 2 => i2
  | _ => i3)
def ws_c (c0 c1 c2 c3 c4 : ClassId) : Nat → ClassId := fun t => match t with
  | 0 => c0
  | 1 => c1
  | 2 => c2
  | 3 => c3
  | _ => c4
section WS
variable {args : Array Value} {s : State}
theorem ws_K (hts : ∀ w ∈ lw_tbl, w.before args s = true) : ∃ (D : va_G) (cid : Nat → ClassId), va_K D sm_cl (sm_tys cid) s := by
  have V : ∀ (j : Nat) (w : Jvm.Cond), si_wl[j]? = some w → w.before args s = true := fun j w h => hts w (sm_tb_sub w (si_wk w (List.mem_of_getElem? h)))
  have U : ∀ (j : Nat) (w : Jvm.Cond), lw_tbl[j]? = some w → w.before args s = true := fun j w h => hts w (List.mem_of_getElem? h)
  have kn : ∀ (ci : Nat) (q : vw_C) (n : Nat), sm_cl[ci]? = some q → (Cond.instantiable q.1 n).before args s = true → ∃ (cC : ClassId) (iS : Nat → Nat), u_Kn s q.1 q.2.1 q.2.2 cC iS := by
    intro ci q n hq hi
    obtain ⟨ty0, t1, -, -⟩ := sm_cls ci q hq
    exact u_known hts (fun w hw => sm_tb_sub w (t1 w hw)) hi
  obtain ⟨d0, i0, K0⟩ := kn 0 _ 4 rfl (V 4 _ rfl)
  obtain ⟨d1, i1, K1⟩ := kn 1 _ 13 rfl (V 5 _ rfl)
  obtain ⟨d2, i2, K2⟩ := kn 2 _ 15 rfl (V 6 _ rfl)
  obtain ⟨d3, i3, K3⟩ := kn 3 _ 27 rfl (V 7 _ rfl)
  obtain ⟨cI, kI, xI, a1, a2, a3⟩ := Cond.arrayClass_spec (V 14 _ rfl)
  obtain ⟨cB, kB, xB, b1, b2, b3⟩ := Cond.arrayClass_spec (V 15 _ rfl)
  obtain ⟨yI, cII, kII, e1, -, e3, e4, e5⟩ := arrayOverA_spec (U 95 (.arrayOver (.array .int)) (by decide +kernel))
  obtain ⟨yB, cBB, kBB, f1, -, f3, f4, f5⟩ := arrayOverA_spec (U 97 (.arrayOver (.array .byte)) (by decide +kernel))
  obtain ⟨yD, cD, kD, g1, -, g3, g4, g5⟩ := Cond.arrayOver_spec (U 182 (.arrayOver (.object "MiceRegisters$Deeds")) (by decide +kernel))
  refine ⟨ws_D d0 d1 d2 d3 i0 i1 i2 i3, ws_c cI cB cII cBB cD, fun ci q hq => ?_, fun k q hq => ?_⟩
  · match ci, hq with
    | 0, hq => cases hq; exact K0
    | 1, hq => cases hq; exact K1
    | 2, hq => cases hq; exact K2
    | 3, hq => cases hq; exact K3
    | n + 4, hq => cases hq
  · match k, hq with
    | 0, hq => cases hq; exact ⟨fun n z => ⟨fun k h => (by cases h), kI, a2, xI, a3⟩, a1⟩
    | 1, hq => cases hq; exact ⟨fun n z => ⟨fun k h => (by cases h), kB, b2, xB, b3⟩, b1⟩
    | 2, hq => cases hq; exact ⟨fun n z => ⟨fun k h => (by cases h), kII, e3, yI, e4⟩, e5⟩
    | 3, hq => cases hq; exact ⟨fun n z => ⟨fun k h => (by cases h), kBB, f3, yB, f4⟩, f5⟩
    | 4, hq => cases hq; exact ⟨fun n z => ⟨fun k h => (by cases h), kD, g3, yD, g4⟩, ⟨kD, yD, g3, g4, g1, g5⟩⟩
    | n + 5, hq => cases hq
theorem ws_N (hts : ∀ w ∈ lw_tbl, w.before args s = true) : sm_Nst s := by
  have U : ∀ (j : Nat) (w : Jvm.Cond), lw_tbl[j]? = some w → w.before args s = true := fun j w h => hts w (List.mem_of_getElem? h)
  intro q hq
  unfold sm_NS at hq
  simp only [List.mem_cons, List.not_mem_nil, or_false] at hq
  rcases hq with rfl | rfl | rfl
  · exact va_Nw.of rfl (U 355 _ (by decide +kernel))
  · exact va_Nw.of rfl (U 393 _ (by decide +kernel))
  · exact va_Nw.of rfl (U 625 _ (by decide +kernel))
theorem ws_Ns (hts : ∀ w ∈ lw_tbl, w.before args s = true) : si_Ns s := by
  have U : ∀ (j : Nat) (w : Jvm.Cond), lw_tbl[j]? = some w → w.before args s = true := fun j w h => hts w (List.mem_of_getElem? h)
  exact ⟨va_Nw.of rfl (U 100 _ (by decide +kernel)), va_Nw.of rfl (U 161 _ (by decide +kernel)), va_AO.of (U 182 (.arrayOver (.object "MiceRegisters$Deeds")) (by decide +kernel)), U 95 (.arrayOver (.array .int)) (by decide +kernel), U 97 (.arrayOver (.array .byte)) (by decide +kernel)⟩
theorem ws_T (hts : ∀ w ∈ lw_tbl, w.before args s = true) (hgv : (Jvm.Cond.and given_1 narrow_1).before args s = true) {A : Nat → Prop} (hA : ∀ a : Nat, a < s.heap.size → ¬ A a) : ∃ kl : Nat, va_Z "MiceRegisters" "KIND_LETTERS" "[I" (.ref kl) A s s.heap ∧ va_T .int kl 6 (fun j => .int (sm_kl j)) A s s.heap := by
  have hg := flat_of_before _ hgv
  obtain ⟨kl, hv, hT⟩ := va_Tof (tm := .static "MiceRegisters" "KIND_LETTERS" "[I") (ty := .int) (N := 6) (f := fun j => .int (sm_kl j)) (by decide) (hg (.arrayOf (.static "MiceRegisters" "KIND_LETTERS" "[I") .int) (by decide +kernel)) (va_eqt (z := 6) (hg (.eq (.length (.static "MiceRegisters" "KIND_LETTERS" "[I")) (.int 6)) (by decide +kernel))) (fun j hj => match j, hj with
    | 0, _ => va_eqt (z := 109) (hg (.eq (.elem (.static "MiceRegisters" "KIND_LETTERS" "[I") (.int 0)) (.int 109)) (by decide +kernel))
    | 1, _ => va_eqt (z := 121) (hg (.eq (.elem (.static "MiceRegisters" "KIND_LETTERS" "[I") (.int 1)) (.int 121)) (by decide +kernel))
    | 2, _ => va_eqt (z := 111) (hg (.eq (.elem (.static "MiceRegisters" "KIND_LETTERS" "[I") (.int 2)) (.int 111)) (by decide +kernel))
    | 3, _ => va_eqt (z := 104) (hg (.eq (.elem (.static "MiceRegisters" "KIND_LETTERS" "[I") (.int 3)) (.int 104)) (by decide +kernel))
    | 4, _ => va_eqt (z := 119) (hg (.eq (.elem (.static "MiceRegisters" "KIND_LETTERS" "[I") (.int 4)) (.int 119)) (by decide +kernel))
    | 5, _ => va_eqt (z := 103) (hg (.eq (.elem (.static "MiceRegisters" "KIND_LETTERS" "[I") (.int 5)) (.int 103)) (by decide +kernel))
    | n + 6, h => absurd h (by omega)) hA
  exact ⟨kl, va_Zref (hts _ (List.mem_of_getElem? (i := 311) (by decide +kernel))) (hts _ (sm_tb_sub _ (si_wk (.initialized "MiceRegisters") (List.mem_of_getElem? (i := 2) rfl)))) hv hA, hT⟩
theorem ws_cal (hts : ∀ w ∈ lw_tbl, w.before args s = true) : si_Cal room_1 s args (sm_own 4) si_Bl := by
  have V : ∀ (j : Nat) (w : Jvm.Cond), si_wl[j]? = some w → w.before args s = true := fun j w h => hts w (sm_tb_sub w (si_wk w (List.mem_of_getElem? h)))
  have c2 : CallB room_1 s args (sm_own 4) 9 (si_Y 2) (si_CC 2) (si_ML 2) none (si_ws 2) (si_rm 2) (si_mc 2) (si_ms 2) 0 := (cwI 0 hts (sm_good sm_tb_good sm_tb_sub (si_wsk 2 (by decide))) rfl rfl rfl (V 2 _ rfl) (V 26 _ rfl) (V 24 _ rfl) rfl ⟨by decide, by decide, by decide⟩ ⟨by decide, by decide⟩).1
  have c3 : CallB room_1 s args (sm_own 4) 12 (si_Y 3) (si_CC 3) (si_ML 3) none (si_ws 3) (si_rm 3) (si_mc 3) (si_ms 3) 0 := (cwI 0 hts (sm_good sm_tb_good sm_tb_sub (si_wsk 3 (by decide))) rfl rfl rfl (V 3 _ rfl) (V 27 _ rfl) (V 25 _ rfl) rfl ⟨by decide, by decide, by decide⟩ ⟨by decide, by decide⟩).1
  intro x k h
  have h : si_sp 4 x = some (some k) := h
  by_cases h9 : x = 9
  · subst h9
    have h : some (some 2) = some (some k) := h
    cases h
    exact ⟨by decide, by decide, rfl, V 24 _ rfl, Or.inr c2⟩
  · by_cases h12 : x = 12
    · subst h12
      have h : some (some 3) = some (some k) := h
      cases h
      exact ⟨by decide, by decide, rfl, V 25 _ rfl, Or.inr c3⟩
    · exfalso
      unfold si_sp at h
      split at h
      all_goals first | (cases h; done) | (rename_i e1 e2; omega) | contradiction | omega
end WS
theorem si_I : lw_I (si_h si_H1) := ⟨si_ps, si_aw (by decide +kernel), 0, by decide, si_aw (by decide +kernel)⟩
def fs_v (ci a k : Nat) (v : Value) : Bool := match fl_ty ci k, v with
  | 0, .int _ => true
  | 1, .long _ => true
  | _ + 2, .ref b => Nat.beq b (fl_fr ci a k)
  | _, _ => false
theorem fs_v_s {ci a k : Nat} {v : Value} (h : fs_v ci a k v = true) : fl_tv ci a k v := by
  unfold fs_v at h
  unfold fl_tv
  split at h
  · rename_i e
    rw [e]
    exact ⟨_, rfl⟩
  · rename_i e
    rw [e]
    exact ⟨_, rfl⟩
  · rename_i e
    rw [e, Nat.eq_of_beq_eq_true h]
    rfl
  · cases h
def fs_c (a : Nat) (e : si_E) : Bool := match e with
  | .inl (ci, fs) => Nat.beq (fl_kd a) (10 + ci) && (Nat.beq fs.length (fl_nf ci) && (List.range fs.length).all fun k => match fs[k]? with
    | some v => fs_v ci a k v
    | none => true)
  | .inr (.inl (t, n, _)) => (Nat.beq (fl_kd a) t && Nat.blt t 2) && Nat.beq n (fl_len a)
  | .inr (.inr (t, cs)) => (Nat.beq (fl_kd a) t && (Nat.ble 2 t && Nat.blt t 5)) && (Nat.beq cs.length (fl_len a) && (List.range cs.length).all fun j => match cs[j]? with
    | some (some b) => Nat.beq b (fl_ar a j)
    | _ => false)
theorem fs_c_s {a : Nat} {e : si_E} (h : fs_c a e = true) : fl_ce a (si_d e) := by
  match e, h with
  | .inl (ci, fs), h =>
    obtain ⟨h1, h⟩ := sm_an h
    obtain ⟨h2, h⟩ := sm_an h
    refine ⟨Nat.eq_of_beq_eq_true h1, Nat.eq_of_beq_eq_true h2, fun k v hk => ?_⟩
    have hl : k < fs.length := (List.getElem?_eq_some_iff.mp hk).1
    have g := List.all_eq_true.mp h k (List.mem_range.mpr hl)
    rw [hk] at g
    exact fs_v_s g
  | .inr (.inl (t, n, us)), h =>
    obtain ⟨h1, h2⟩ := sm_an h
    obtain ⟨h1, h3⟩ := sm_an h1
    exact ⟨⟨Nat.eq_of_beq_eq_true h1, Nat.le_of_ble_eq_true h3⟩, Nat.eq_of_beq_eq_true h2⟩
  | .inr (.inr (t, cs)), h =>
    obtain ⟨h1, h⟩ := sm_an h
    obtain ⟨h2, h⟩ := sm_an h
    obtain ⟨h1, h3⟩ := sm_an h1
    obtain ⟨h3, h4⟩ := sm_an h3
    refine ⟨⟨Nat.eq_of_beq_eq_true h1, Nat.le_of_ble_eq_true h3, Nat.le_of_ble_eq_true h4⟩, Nat.eq_of_beq_eq_true h2, fun j hj => ?_⟩
    have g := List.all_eq_true.mp h j (List.mem_range.mpr hj)
    show (cs[j]?).join = _
    cases hc : cs[j]? with
    | none => rw [hc] at g; cases g
    | some o =>
      rw [hc] at g
      cases o with
      | none => cases g
      | some b' => rw [Nat.eq_of_beq_eq_true g]; rfl
theorem si_len : (si_h si_H1).length = 98 := by
  unfold si_h si_H1
  rw [List.length_map, List.length_map, List.length_range]
theorem si_shb : ((List.range 98).all fun a => match si_H1[a]? with
    | some e => fs_c a e
    | none => true) = true := by decide +kernel
theorem si_sh : fl_sh (si_h si_H1) := by
  refine ⟨si_len, fun a e he => ?_⟩
  have hl : a < 98 := by rw [← si_len]; exact (List.getElem?_eq_some_iff.mp he).1
  have g := List.all_eq_true.mp si_shb a (List.mem_range.mpr hl)
  cases hc : si_H1[a]? with
  | none =>
    unfold si_h at he
    rw [List.getElem?_map, hc] at he
    cases he
  | some e' =>
    rw [hc] at g
    rw [si_h_get hc] at he
    cases he
    exact fs_c_s g
theorem si_r6 : ∀ j, j < 6 → si_f [(5, -1), (4, -1), (3, -1), (2, -1), (1, -1), (0, -1)] j = -1 := by decide
theorem si_r4 : ∀ j, j < 4 → si_f [(3, -1), (2, -1), (1, -1), (0, -1)] j = -1 := by decide
theorem si_ft : ft (fm_i (si_h si_H1)) := by
  have e1 := fm_i_arr si_sh (si_h_get (hh := si_H1) (a := 1) (e := .inr (.inl (0, 6, [(5, -1), (4, -1), (3, -1), (2, -1), (1, -1), (0, -1)]))) (by rfl))
  have e87 := fm_i_arr si_sh (si_h_get (hh := si_H1) (a := 87) (e := .inr (.inl (0, 6, [(5, -1), (4, -1), (3, -1), (2, -1), (1, -1), (0, -1)]))) (by rfl))
  have e9 := fm_i_arr si_sh (si_h_get (hh := si_H1) (a := 9) (e := .inr (.inl (0, 4, [(3, -1), (2, -1), (1, -1), (0, -1)]))) (by rfl))
  have e89 := fm_i_arr si_sh (si_h_get (hh := si_H1) (a := 89) (e := .inr (.inl (0, 4, [(3, -1), (2, -1), (1, -1), (0, -1)]))) (by rfl))
  refine ⟨fun j hj => ?_, fun j hj => ?_⟩
  · rw [e1, e87, si_r6 j hj]
    exact ⟨rfl, fun i hi => by rw [fi_m1] at hi; omega⟩
  · rw [e9, e89, si_r4 j hj]
    exact ⟨rfl, fun i hi => by rw [fi_m1] at hi; omega⟩
def st_L : List (Nat × Nat × Int32) := [(15, 0, 0), (15, 1, 0), (81, 1, 0), (81, 4, 0), (15, 2, 0), (15, 3, -9), (15, 4, 0), (82, 1, 0), (82, 2, -9), (82, 3, 0), (82, 12, 0), (82, 13, 0), (82, 14, 0), (82, 15, 0), (82, 16, 0), (82, 17, 0), (82, 18, 0), (82, 19, 0), (42, 0, 0), (82, 0, 0), (47, 0, -1), (51, 0, -1), (55, 0, -1), (82, 944, -1), (82, 1888, -1), (82, 2832, -1), (0, 11, 0), (81, 14, 0), (0, 12, 0), (81, 11, 0), (80, 0, 0), (80, 1, 0), (80, 2, 0), (80, 3, 0), (80, 4, 0), (80, 5, 0), (91, 0, 0), (91, 1, 0), (91, 2, 0), (91, 3, 0), (91, 4, 0), (91, 5, 0)]
theorem st_b : (st_L.all fun q => decide (fm_i (si_h si_H1) q.1 q.2.1 = q.2.2)) = true := by decide +kernel
theorem st_v {c j : Nat} {x : Int32} (h : (c, j, x) ∈ st_L) : fm_i (si_h si_H1) c j = x := of_decide_eq_true (List.all_eq_true.mp st_b _ h)
theorem st_0 : (0 : Int32).toNatClampNeg = 0 := rfl
theorem st_t2 : t2 (fm_i (si_h si_H1)) (fm_i (si_h si_H1)) := by
  have a0 : fm_i (si_h si_H1) 15 0 = 0 := st_v (by decide)
  have a1 : fm_i (si_h si_H1) 15 1 = 0 := st_v (by decide)
  have a2 : fm_i (si_h si_H1) 15 2 = 0 := st_v (by decide)
  have a3 : fm_i (si_h si_H1) 15 3 = -9 := st_v (by decide)
  have a4 : fm_i (si_h si_H1) 15 4 = 0 := st_v (by decide)
  have b1 : fm_i (si_h si_H1) 81 1 = 0 := st_v (by decide)
  have b4 : fm_i (si_h si_H1) 81 4 = 0 := st_v (by decide)
  have r0 : fm_i (si_h si_H1) 82 0 = 0 := st_v (by decide)
  have r1 : fm_i (si_h si_H1) 82 1 = 0 := st_v (by decide)
  have r2 : fm_i (si_h si_H1) 82 2 = -9 := st_v (by decide)
  have r3 : fm_i (si_h si_H1) 82 3 = 0 := st_v (by decide)
  have k0 : fm_i (si_h si_H1) 42 0 = 0 := st_v (by decide)
  have rl : ∀ l, l < 8 → fm_i (si_h si_H1) 82 (0 + 12 + l) = 0 := fun l hl => by
    have : l = 0 ∨ l = 1 ∨ l = 2 ∨ l = 3 ∨ l = 4 ∨ l = 5 ∨ l = 6 ∨ l = 7 := by omega
    rcases this with rfl | rfl | rfl | rfl | rfl | rfl | rfl | rfl <;> exact st_v (by decide)
  refine ⟨⟨⟨⟨by rw [a0, b1], by rw [a1, b4], by rw [a0]; decide, by rw [a1]; decide, fun l hl => ?_, fun l hl => ?_⟩, by rw [a2]; exact r1.symm, by rw [a3]; exact r2.symm, by rw [a4]; exact r3.symm, fun l hl => ?_, fun l hl => ?_, fun l _ hl => rl l hl⟩, ⟨by rw [k0, r0], by rw [k0]; decide, by rw [k0]; decide, fun _ => ?_⟩, by rw [k0]; decide, fun k hk => ?_⟩, fun _ => (st_v (c := 0) (j := 12) (x := 0) (by decide)).trans (st_v (c := 81) (j := 11) (x := 0) (by decide)).symm, (st_v (c := 0) (j := 11) (x := 0) (by decide)).trans (st_v (c := 81) (j := 14) (x := 0) (by decide)).symm, fun f hf => ?_⟩
  · rw [a0, st_0] at hl; omega
  · rw [a1, st_0] at hl; omega
  · rw [a0, st_0] at hl; omega
  · rw [a1, st_0] at hl; omega
  · rw [k0, st_0]
    refine ⟨fun n hn => absurd hn (Nat.not_lt_zero n), r1, r2, r3, fun l hl => ?_, fun l hl => rl l hl, fun l hl => ?_⟩
    · rw [a0, st_0] at hl; omega
    · rw [a1, st_0] at hl; omega
  · have m1 : (-1 : Int32).toInt = -1 := rfl
    have : k = 0 ∨ k = 1 ∨ k = 2 := by omega
    rcases this with rfl | rfl | rfl
    · have e : fm_i (si_h si_H1) (47 + 4 * 0) 0 = -1 := st_v (c := 47) (by decide)
      have e2 : fm_i (si_h si_H1) 82 (944 + 944 * 0) = -1 := st_v (j := 944) (by decide)
      exact ⟨by rw [e, e2], by rw [e]; decide, by rw [e]; decide, fun z => by rw [e, m1] at z; omega⟩
    · have e : fm_i (si_h si_H1) (47 + 4 * 1) 0 = -1 := st_v (c := 51) (by decide)
      have e2 : fm_i (si_h si_H1) 82 (944 + 944 * 1) = -1 := st_v (j := 1888) (by decide)
      exact ⟨by rw [e, e2], by rw [e]; decide, by rw [e]; decide, fun z => by rw [e, m1] at z; omega⟩
    · have e : fm_i (si_h si_H1) (47 + 4 * 2) 0 = -1 := st_v (c := 55) (by decide)
      have e2 : fm_i (si_h si_H1) 82 (944 + 944 * 2) = -1 := st_v (j := 2832) (by decide)
      exact ⟨by rw [e, e2], by rw [e]; decide, by rw [e]; decide, fun z => by rw [e, m1] at z; omega⟩
  · have : f = 0 ∨ f = 1 ∨ f = 2 ∨ f = 3 ∨ f = 4 ∨ f = 5 := by omega
    rcases this with rfl | rfl | rfl | rfl | rfl | rfl
    · exact (st_v (c := 80) (j := 0) (x := 0) (by decide)).trans (st_v (c := 91) (j := 0) (x := 0) (by decide)).symm
    · exact (st_v (c := 80) (j := 1) (x := 0) (by decide)).trans (st_v (c := 91) (j := 1) (x := 0) (by decide)).symm
    · exact (st_v (c := 80) (j := 2) (x := 0) (by decide)).trans (st_v (c := 91) (j := 2) (x := 0) (by decide)).symm
    · exact (st_v (c := 80) (j := 3) (x := 0) (by decide)).trans (st_v (c := 91) (j := 3) (x := 0) (by decide)).symm
    · exact (st_v (c := 80) (j := 4) (x := 0) (by decide)).trans (st_v (c := 91) (j := 4) (x := 0) (by decide)).symm
    · exact (st_v (c := 80) (j := 5) (x := 0) (by decide)).trans (st_v (c := 91) (j := 5) (x := 0) (by decide)).symm
theorem st_jd : jd (fm_l (si_h si_H1)) (fm_l (si_h si_H1)) := ⟨by decide +kernel, by decide +kernel⟩
theorem si_TT : TT (si_h si_H1) := ⟨⟨si_I, si_sh, si_ft⟩, st_t2, st_jd⟩
theorem ws_go {L : Nat} {xs : Nat → Int32} (hL : L ≤ 3072) : sm_Go (la_B L xs) (sm_Ex 200 sm_ML sm_B 12) (fun o _ => o = some (.int 1)) 16 [(2, .ref 81), (1, .ref 0), (0, .ref 998)] [] (si_h si_H1) := by
  refine sm_go_st (t := (17, [(2, .ref 81), (1, .ref 0), (0, .ref 998)], [.int 0], si_h si_H1)) (show la_tb 16 = some (.iconst 0, 1) by decide +kernel) rfl ?_
  refine sm_go_st (t := (18, la_lv 0, [], si_h si_H1)) (show la_tb 17 = some (.istore_n 3, 1) by decide +kernel) rfl ?_
  have z : (0 : Int32).toInt = 0 := rfl
  exact la_loop hL (L + 1) 0 _ si_TT (by rw [z]; omega) (by rw [z]; omega) (by rw [z]; omega)
def ws_ad (b kl : Nat) : Nat → Nat := fun k => if k = 998 then b else if k = 999 then kl else 0
set_option maxHeartbeats 4000000 in
/-- from the entry, for every script of at most 3072 ints, the law comes to its end with true -/
theorem whole_start {p : Program} {e : Env} {s : State} {m : MethodId} {below : List Frame} {meth : Method} {c : Code} (l : Launch) {b L : Nat} {xs : Nat → Int32} (hL : L ≤ 3072) (C0 : lw_At p s m meth c b L xs) : W p l e room_1 s m #[Value.ref b] below meth c s.heap [] 0 0 (lw_Z below #[Value.ref b] s) (entryFrame m ([Value.ref b] : List Value).toArray 4) := by
  obtain ⟨hx, hb, hrr, hml, hown, hts, hX, hbl, hlocks, hgv⟩ := C0
  obtain ⟨D, cid, hK⟩ := ws_K hts
  obtain ⟨kl, hZ, hT⟩ := ws_T hts hgv (A := fun q => s.heap.size ≤ q) (fun a h => Nat.not_le.mpr h)
  have hNst := ws_N hts
  have hNs := ws_Ns hts
  have hS : va_S (fun q => s.heap.size ≤ q) s.heap s.heap [] := va_S.rf
  have hl := lv_entry [.ref b] (n := 4) (show (1 : Nat) ≤ 4 by decide)
  rw [lg_entry_eq]
  generalize (lg_sl [Value.ref b] ++ List.replicate (4 - (lg_sl [Value.ref b]).length) Slot.unset).toArray = ls at hl ⊢
  have E1 : ∀ ad' : Nat → Nat, ad' 998 = b → ad' 999 = kl → sm_Env p room_1 s m #[Value.ref b] c code (sm_own 4) D sm_cl cid ad' lw_tbl si_Bl.2.1 (fun q => s.heap.size ≤ q) := fun ad' _ h9 =>
    sm_env (p := p) (R := room_1) (A := fun q => s.heap.size ≤ q) (cid := cid) (ad := ad') (D := D) (sm_Ook 4 4 (by decide) la_tb none (some .boolean)) (Ts := lw_tbl) sm_tb_sub hts hx hb hown hml hK (by rw [h9]; exact hZ) (by rw [h9]; exact hT) (fun q hq => by cases hq) ⟨by decide, by decide⟩ hNst
  refine si_sims (B := si_Bl) (o := 4) (nL := 4) (scr := none) (X := si_X2) (stop := 16) (b0 := b) (k0 := kl) (n0 := 0) (ad0 := ws_ad b kl) E1 rfl rfl (by decide) (fun q h => h) (si_nf (fun w hw => hts w (sm_tb_sub w hw)) rfl rfl rfl rfl) hNs sm_tb_sub (fun h => absurd h (by decide)) (fun pc i n h => la_dec pc i n h) (ws_cal hts) si_x2 ?_ 9 0 [(0, .ref 998)] [] [] (ws_ad b kl) ls s.heap [] 0 0 rfl rfl (fun _ _ => rfl) (Nat.le_refl _) si_go (by decide) (by decide) hl (fun k x h => (by cases h)) ⟨fun i j x y h => (by cases h), fun k x h => (by cases h)⟩ hS
  intro ad1 ls1 H1 locs1 cells1 slots1 a8 a9 _ hc1 hc2 hl1 hP1 hD1 hS1
  have hP2 := si_permP hP1
  have hD2 := si_permD hD1
  obtain ⟨f, o, h', hr, ho⟩ := ws_go (xs := xs) hL
  subst ho
  have O2 := sm_Ook 4 4 (by decide) la_tb (some (L, xs)) (some .boolean)
  have E2 : sm_Env p room_1 s m #[Value.ref b] c code (sm_own 4) D sm_cl cid (fun k => ad1 (si_pi k)) lw_tbl (la_B L xs).2.1 (fun q => s.heap.size ≤ q) :=
    sm_env (p := p) (R := room_1) (A := fun q => s.heap.size ≤ q) (cid := cid) (ad := fun k => ad1 (si_pi k)) (D := D) O2 (Ts := lw_tbl) sm_tb_sub hts hx hb hown hml hK (by show va_Z _ _ _ (.ref (ad1 999)) _ _ _; rw [a9]; exact hZ) (by show va_T _ (ad1 999) _ _ _ _ _; rw [a9]; exact hT) (fun q hq => by
      cases hq
      refine ⟨?_, ?_, ?_⟩
      · show va_X (ad1 998) L xs s s.heap
        rw [a8]
        exact hX
      · show ad1 998 < s.heap.size
        rw [a8]
        exact hbl
      · show ¬ s.heap.size ≤ ad1 998
        rw [a8]
        exact Nat.not_le.mpr hbl) ⟨by decide, by decide⟩ hNst
  refine sm_sims (B := la_B L xs) (X := sm_Ex 200 sm_ML sm_B 12) (o := some (.int 1)) (h' := h') (Y := sm_Y) (CC := sm_CC) (ML := sm_ML) (RT := sm_RT) (WS := sm_ws sm_tb sm_Y sm_CC sm_ML sm_RT) (rm := sm_rm 12) E2 ⟨hc1, hc2⟩ (fun q h => h) (fun pc i n h => la_dec pc i n h) (sm_cok O2 sm_tb_good sm_tb_sub hts hNst (d := 12) ⟨by decide, by decide⟩) (fun k vs h o h' hx => sm_prog 12 k vs h o h' hx) ?_ f 16 [(2, .ref 81), (1, .ref 0), (0, .ref 998)] [] (si_h si_H1) ls1 H1 locs1 hr hl1 hP2 hD2 hS1
  intro pc i n st ls H locs hd hret hP hD hS
  obtain ⟨hn, hret⟩ := hret
  subst hn
  rcases hret with ⟨rfl, v, rfl, hv, -⟩ | ⟨rfl, v, rfl, hv, -⟩ | ⟨rfl, rfl, hv, -⟩
  · cases hv
    exact va_forget (fun q hq => hS.2.2 q hq) (W.widen hc1 hc2 (lw_ret hx hb hrr hlocks hd))
  · cases hv
  · cases hv
set_option maxHeartbeats 4000000 in
theorem lw_walk (l : Launch) (b : Addr) (xs : List Int32) : MetFree l x (headSpec (Jvm.Cond.code x code maxLocals ret :: tables_1) room_1) (lw_P b xs) (fun _ _ _ _ _ => True) lw_Q := by
  refine MetFree.of_bodyS (code := code) (maxLocals := maxLocals) (ret := ret) (by decide) ?_ ?_
  · intro args s m h hn
    obtain ⟨meth, c, h1, h2, h3, h4, h5, h6, -, -⟩ := Cond.code_spec hn (atoms_spec (ws := Jvm.Cond.code x code maxLocals ret :: tables_1) h _ List.mem_cons_self)
    exact ⟨meth, c, h1, h2, h3, h4, h5, h6⟩
  · intro p e s m args below meth c s₁ B hml0 hP _
    obtain ⟨rfl, hx, hbd, hgv⟩ := hP
    obtain ⟨scr, harrAt, hlist, hof, hsmall⟩ := hx
    obtain ⟨hcb, hkn, -, -⟩ := State.arrayAt?_spec harrAt
    have hown : s.vm.findClass R_law = some m.cls := findClass_of_methodNamed B.named
    have hts0 : ∀ c ∈ (Jvm.Cond.code x code maxLocals ret :: tables_1), c.before #[Value.ref b] s = true := atoms_spec (ws := Jvm.Cond.code x code maxLocals ret :: tables_1) B.pre
    have hts : ∀ w ∈ lw_tbl, w.before #[Value.ref b] s = true := k2_hts_sels lw_privs (fun w hw => hts0 w (List.mem_cons_of_mem _ hw)) lw_privs_ok
    have hml : c.maxLocals = 4 := B.maxLocals_eq (hts0 _ List.mem_cons_self)
    have X₀ : Stand p l e room_1 s m #[Value.ref b] below meth c s₁ [] 0 0 := Stand.of_body B
    have hh0 : s₁.heap = s.heap := by rw [B.state]; rfl
    have hsz : scr.slots.size = xs.length := by rw [← Array.length_toList, hlist, List.length_map]
    have hval : ∀ j : Nat, j < xs.length → scr.slots[j]? = some (.int (xs.getD j 0)) := fun j hj => by
      rw [← Array.getElem?_toList, hlist]
      simp [hj]
    have hbl : b < s.heap.size := (Array.getElem?_eq_some_iff.mp hcb).1
    have hX : va_X b xs.length (fun j => xs.getD j 0) s s.heap := ⟨scr, hcb, hof, hkn, hsz, hval⟩
    have K : W p l e room_1 s m #[Value.ref b] below meth c s₁.heap [] 0 0 (lw_Z below #[Value.ref b] s) (entryFrame m ([Value.ref b] : List Value).toArray 4) := by
      rw [hh0]
      exact whole_start l hbd ⟨B.exec, B.bytes, B.returns, hml, hown, hts, hX, hbl, B.notSynchronized, hgv⟩
    obtain ⟨t, a1, o, b1, b2, b3⟩ := K s₁ rfl X₀
    exact ⟨t, o, a1, b1, b2, b3⟩
theorem lw_pre_spec {args : Array Value} {s : State} (h : (Jvm.Cond.and given_1 narrow_1).before args s = true) (hr : rest_1_c.before args s = true) : ∃ (b : Addr) (xs : List Int32), lw_P b xs args s := by
  have hs := flat_of_before _ h
  have hq := flat_of_before _ hr
  have hc : (Cond.count 1).before args s = true := hs _ (by decide +kernel)
  have harr : (Cond.arrayOf (.arg 0) .int).before args s = true := hs _ (by decide +kernel)
  have hle : (Cond.le (.length (.arg 0)) (.int 3072)).before args s = true := hs _ (by decide +kernel)
  have hlen : (Cond.isInt (.length (.arg 0))).before args s = true := hq _ (by decide +kernel)
  have hall : (Cond.all (.arg 0) (.isInt (.elem (.arg 0) (.index 0)))).before args s = true := hq _ (by decide +kernel)
  obtain ⟨b, xs, hb, hx⟩ := State.ints_of_pre rfl harr hlen hall
  have hsm : xs.length < 2 ^ 31 := hx.choose_spec.2.2.2
  have hev : (Term.length (.arg 0)).eval args s none [] s = some (.int xs.length.toInt32) := hx.length_eval hb
  have hv := Cond.le_ints hev (show (Term.int 3072).eval args s none [] s = some (.int 3072) from rfl)
  have hd : xs.length.toInt32 ≤ 3072 := by
    simpa [Cond.before, Cond.holds, hv] using hle
  have hN : xs.length ≤ 3072 := (Int32.ofNat_le_ofNat hsm (by decide)).mp (show Int32.ofNat xs.length ≤ Int32.ofNat 3072 from hd)
  exact ⟨b, xs, Cond.one_arg hc (show args[0]? = some (.ref b) from hb), hx, hN, h⟩
theorem lw_comes (l : Launch) : Comes l x (Jvm.Cond.code x code maxLocals ret :: tables_1) room_1 (fun tb e args s => Calls_1 tb e args s ∧ rest_1 tb e args s ∧ Pre_1 tb e args s)
    (fun _ _ args s o t => lw_Q args s o t) := by
  intro p e ha hc hk s m args below hf hfit hheap happ hpre
  obtain ⟨b, xs, hP⟩ := lw_pre_spec hpre.2.2 hpre.2.1
  obtain ⟨k, o, h1, h2, h3, hQ⟩ := lw_walk l b xs p e ha hc hk s m args below hf ((Spec.applies_iff_loose hf).mp happ).1 hP trivial
  exact ⟨k, o, h1, h2, h3, hQ⟩
theorem lw_frame {s t : State} {o : Outcome} {args : Array Value} (h : Framed s o t [] 600000 7302250) :
    Framed s o t (fieldLocs frame_1_writes args s ++ arrayLocs frame_1_arrays args s ++ staticLocs frame_1_statics s) 600000 7302250 := h
theorem lw_limb (L : Cond) (hL : ∀ (args : Array Value) (s t : State), L.after args s (.returned (some (.int 1))) t = true) :
    ArmFor flags0 classFile x code maxLocals ret World_1 tables_1 room_1 Calls_1 rest_1 Pre_1
      (fun tb e a s o t => postC L tb e a s o t ∧ Framed s o t (fieldLocs frame_1_writes a s ++ arrayLocs frame_1_arrays a s ++ staticLocs frame_1_statics s) 600000 7302250) := by
  intro l _ _ _ p e ha hc hk s m args below hf hfit hheap happ hpre
  obtain ⟨k, o, h1, h2, h3, rfl, hF⟩ := lw_comes l p e ha hc hk s m args below hf hfit hheap happ hpre
  exact ⟨k, _, h1, h2, h3, hL args s _, lw_frame hF⟩
theorem i_vc : Claimed_1_1 ∧ Claimed_1_2 := ⟨lw_limb limb_1_1 (fun args s t => by simp [limb_1_1, Cond.after, Cond.holds, Cond.value]), lw_limb limb_1_2 (fun args s t => Cond.after_iff.mpr (by
  first | (rw [show limb_1_2 = Cond.eq .result (.int 1) from rfl, Cond.eq_ints (x := 1) (y := 1) rfl rfl]; simp; done) | (simp [limb_1_2, Cond.value, Term.eval]; done)))⟩
