/-! That the machine goes with each step of a constructor. -/
def si_Y (k : Nat) : MethodName := ⟨sm_own k, "<init>", "()V"⟩
def si_AOA (ty : FieldType) (U : State) : Prop := (Cond.arrayOver (.array ty)).before #[] U = true
theorem si_AOA.use {ty : FieldType} {A : Array Value} {U : State} (h : si_AOA ty U) : (Cond.arrayOver (.array ty)).before A U = true := h
theorem si_AOA.moved {ty : FieldType} {u U : State} (hvm : u.vm.Alike U.vm) (h : si_AOA ty u) : si_AOA ty U := by
  obtain ⟨cC, cA, k, h1, h2, h3, h4, h5⟩ := arrayOverA_spec h
  obtain ⟨k', hk', he⟩ := hvm.2.2 _ _ h3
  have hi := (hvm.findIdx?_eq _ (fun _ => rfl)).trans h2
  have hkind : k'.kind = .array cC (.array ty) := by rw [he]; exact h4
  have f1 : U.vm.findClass (FieldType.array ty).toString = some cC := by rw [hvm.findClass]; exact h1
  have f2 : U.vm.findClass ("[" ++ (FieldType.array ty).toString) = some cA := by rw [hvm.findClass]; exact h5
  unfold si_AOA Cond.before Cond.holds
  simp only [Cond.value]
  rw [f1, Option.bind_some]
  refine (congrArg (fun o : Option Nat => (o.bind (fun c => (U.vm.classes[c]?).map fun (k : Class) => match k.kind with | .array _ t => decide (t = FieldType.array ty) && decide (U.vm.findClass ("[" ++ (FieldType.array ty).toString) = some c) | _ => false) == some true)) hi).trans ?_
  simp [hk', hkind, f2]
def si_Ns (U : State) : Prop := va_Nw (.methodLinkNest "MiceRegisters" 28 (si_Y 1) "MiceRegisters") U ∧ va_Nw (.methodLinkNest "MiceRegisters" 41 (si_Y 0) "MiceRegisters") U ∧ va_AO "MiceRegisters$Deeds" U ∧ si_AOA .int U ∧ si_AOA .byte U
theorem si_Ns.same {u U : State} (h : u.vm = U.vm) (hN : si_Ns u) : si_Ns U := by
  obtain ⟨h1, h2, h3, h4, h5⟩ := hN
  have al : u.vm.Alike U.vm := by rw [h]; exact Vm.Alike.refl _
  exact ⟨va_Nw.same rfl h h1, va_Nw.same rfl h h2, va_AO.moved al h3, si_AOA.moved al h4, si_AOA.moved al h5⟩
theorem si_Ns.warm {u U : State} (h : u.WarmedH U.vm) (hN : si_Ns u) : si_Ns U := by
  obtain ⟨h1, h2, h3, h4, h5⟩ := hN
  exact ⟨va_Nw.warmM h h1, va_Nw.warmM h h2, va_AO.moved h.alike h3, si_AOA.moved h.alike h4, si_AOA.moved h.alike h5⟩
/-- what fields hold at first -/
def si_df (ci : Nat) : List Value := match ci with
  | 0 => [.int 0, .null, .null, .null]
  | 1 => [.int 0, .int 0, .int 0, .int 0, .int 0, .null, .null, .null, .null, .null, .null, .null, .null]
  | 2 => [.null, .null, .null, .null, .null, .null, .null, .null, .null, .null, .null, .int 0, .int 0, .long 0, .long 0]
  | _ => [.null, .int 0, .null, .null, .int 0, .null, .null, .null, .null, .null, .null, .int 0, .long 0, .long 0, .int 0, .null, .int 0, .int 0, .int 0, .int 0, .null, .null, .int 0, .null, .null, .null, .null]
def si_dk (ci : Nat) : Bool := match sm_cl[ci]? with
  | some q => decide ((si_df ci).length = q.2.2) && (List.range q.2.2).all fun j => match parseFieldDescriptor (q.2.1 j).2.2.1 with
    | some t => decide (defaultValue t = vp_V (si_df ci) j)
    | none => false
  | none => true
theorem si_dk_ok : (List.range 4).all si_dk = true := by decide +kernel
theorem si_dv {ci : Nat} {q : vw_C} (hq : sm_cl[ci]? = some q) : (si_df ci).length = q.2.2 ∧ ∀ ty0 : Nat → FieldType, (∀ k, k < q.2.2 → parseFieldDescriptor (q.2.1 k).2.2.1 = some (ty0 k)) → ∀ j, j < q.2.2 → defaultValue (ty0 j) = vp_V (si_df ci) j := by
  have hlt : ci < 4 := (List.getElem?_eq_some_iff.mp hq).1
  have h := List.all_eq_true.mp si_dk_ok ci (List.mem_range.mpr hlt)
  unfold si_dk at h
  rw [hq] at h
  obtain ⟨h1, h2⟩ := sm_an h
  refine ⟨of_decide_eq_true h1, fun ty0 hty j hj => ?_⟩
  have h3 := List.all_eq_true.mp h2 j (List.mem_range.mpr hj)
  rw [hty j hj] at h3
  exact of_decide_eq_true h3
/-- fields that a constructor alone may write -/
def si_fk (o : Nat) : Bool := (sm_fl o).all fun q => !(Nat.beq q.2.2.2 2 && Nat.beq q.2.1 o) || (match sm_cl[q.2.1]? with
  | some r => (r.2.1 q.2.2.1).2.2.2 && (decide ((r.2.1 q.2.2.1).1 = sm_own o) && (match parseFieldDescriptor (r.2.1 q.2.2.1).2.2.1 with
    | some t => t.isReference
    | none => false))
  | none => false)
theorem si_fk_ok : (List.range 5).all si_fk = true := by decide +kernel
theorem si_fin {o x k : Nat} (ho : o < 5) (h : sm_lk (sm_fl o) x = some (o, k, 2)) {r : vw_C} (hr : sm_cl[o]? = some r) : (r.2.1 k).2.2.2 = true ∧ (r.2.1 k).1 = sm_own o ∧ ∃ t, parseFieldDescriptor (r.2.1 k).2.2.1 = some t ∧ t.isReference = true := by
  have h1 := List.all_eq_true.mp (List.all_eq_true.mp si_fk_ok o (List.mem_range.mpr ho)) _ (sm_lk_s h)
  dsimp only at h1
  rw [hr] at h1
  rw [show (Nat.beq 2 2 && Nat.beq o o) = true by simp] at h1
  rw [Bool.not_true, Bool.false_or] at h1
  obtain ⟨h2, h3⟩ := sm_an h1
  obtain ⟨h3, h4⟩ := sm_an h3
  refine ⟨h2, of_decide_eq_true h3, ?_⟩
  split at h4
  · rename_i t ht
    exact ⟨t, ht, h4⟩
  · cases h4
def si_NF (B : si_P) (own : String) (args : Array Value) (s : State) : Prop :=
  (∀ x q, B.2.2.1 x = some q → q.2 = si_df q.1 ∧ q.1 < 4 ∧ (Cond.classLink own x (sm_own q.1)).before args s = true ∧ (Cond.instantiable (sm_own q.1) q.2.length).before args s = true ∧ (Cond.initialized (sm_own q.1)).before args s = true) ∧
  (Cond.arrayClass .int).before args s = true ∧ (Cond.arrayClass .byte).before args s = true ∧
  (∀ x t, B.2.2.2.1 x = some t → (t = 2 ∧ (Cond.classLink own x ("[" ++ (FieldType.array .int).toString)).before args s = true) ∨ (t = 3 ∧ (Cond.classLink own x ("[" ++ (FieldType.array .byte).toString)).before args s = true)) ∧
  (∀ x, B.2.2.2.2.1 x = true → (Cond.classLink own x "MiceRegisters$Deeds").before args s = true) ∧
  (∀ x, B.2.2.2.2.2.1 x = some none → (Cond.methodLink own x Lib.objectInit).before args s = true) ∧ (Cond.instanceMethod Lib.objectInit).before args s = true ∧ (Cond.code Lib.objectInit ⟨#[0xb1]⟩ 1 none).before args s = true
section SIS
variable {p : Program} {l : Launch} {e : Env} {R : Room} {s : State} {m : MethodId} {args : Array Value} {below : List Frame} {meth : Method} {c : Code} {H : Heap} {locs : List Loc} {cells slots : Nat} {Q : State → Prop}
variable {cc : ByteArray} {pc : Nat} {ls : Array Slot} {D : va_G} {A : Nat → Prop} {cid : Nat → ClassId} {ad : Nat → Nat} {Ts : List Jvm.Cond} {B : si_P} {o nL : Nat} {scr : Option (Nat × (Nat → Int32))}
/-- n cells more, from q on -/
def si_um (ad : Nat → Nat) (n N q : Nat) : Nat → Nat := fun k => if n ≤ k ∧ k ≤ n + N then q + (k - n) else ad k
theorem si_um_ag {n N q : Nat} (hn : n < 800) (hN : N ≤ 90) : si_ag n ad (si_um ad n N q) := by
  intro k hk
  unfold si_um
  rw [if_neg (by omega)]
theorem si_um_at {n N q k : Nat} (h1 : n ≤ k) (h2 : k ≤ n + N) : si_um ad n N q k = q + (k - n) := by
  unfold si_um
  rw [if_pos ⟨h1, h2⟩]
/-- a row of rows laid -/
theorem si_mul {hh : List si_E} {t N M : Nat} {H1 : Heap} (w1 : hh.length < 800) (w2 : hh.all (si_ek hh.length) = true) (hN : N ≤ 90) (hA : ∀ q : Nat, s.heap.size ≤ q → A q) (hP : va_P D sm_cl (sm_w cid ad (si_h hh)) H) (hD : va_D A (sm_w cid ad (si_h hh))) (hS : va_S A s.heap H locs) (z1 : H1.size = H.size + 1 + N) (z2 : ∀ a, a < H.size → H1[a]? = H[a]?) (z3 : H1[H.size]? = some (arrV (cid t) N (fun j => va_rf (if j < N then some (H.size + 1 + j) else none)))) (z4 : ∀ j, j < N → H1[H.size + 1 + j]? = some (arrV (cid (t - 2)) M (fun _ => .int 0))) :
    va_P D sm_cl (sm_w cid (si_um ad hh.length N H.size) (si_h (hh ++ (.inr (.inr (t, (List.range N).map fun j => some (hh.length + 1 + j))) :: List.replicate N (.inr (.inl (t - 2, M, []))))))) H1 ∧ va_D A (sm_w cid (si_um ad hh.length N H.size) (si_h (hh ++ (.inr (.inr (t, (List.range N).map fun j => some (hh.length + 1 + j))) :: List.replicate N (.inr (.inl (t - 2, M, []))))))) ∧ va_S A s.heap H1 locs := by
  have ag := si_um_ag (ad := ad) (q := H.size) w1 hN
  have ent : ∀ (k : Nat) (x : Nat × va_E), (sm_w cid (si_um ad hh.length N H.size) (si_h (hh ++ (.inr (.inr (t, (List.range N).map fun j => some (hh.length + 1 + j))) :: List.replicate N (.inr (.inl (t - 2, M, [])))))))[k]? = some x → (k < hh.length ∧ (sm_w cid ad (si_h hh))[k]? = some x) ∨ (k = hh.length ∧ x = (H.size, .inl (cid t, N, .inr (.inr (.inr (.inr (fun j => if j < N then some (H.size + 1 + j) else none))))))) ∨ (hh.length < k ∧ k ≤ hh.length + N ∧ x = (H.size + (k - hh.length), .inl (cid (t - 2), M, .inl (si_f [])))) := by
    intro k x hx
    unfold sm_w at hx
    rw [List.getElem?_mapIdx, List.getElem?_map] at hx
    by_cases h1 : k < hh.length
    · rw [List.getElem?_append_left h1, List.getElem?_eq_getElem h1] at hx
      refine Or.inl ⟨h1, ?_⟩
      unfold sm_w
      rw [List.getElem?_mapIdx, List.getElem?_map, List.getElem?_eq_getElem h1, ← hx]
      show some (ad k, sm_e cid ad (si_d hh[k])) = some (si_um ad hh.length N H.size k, sm_e cid (si_um ad hh.length N H.size) (si_d hh[k]))
      rw [ag k (Or.inl h1), si_e_ag (List.all_eq_true.mp w2 _ (List.getElem_mem h1)) ag]
    · rw [List.getElem?_append_right (by omega)] at hx
      by_cases h2 : k = hh.length
      · subst h2
        rw [Nat.sub_self] at hx
        refine Or.inr (Or.inl ⟨rfl, ?_⟩)
        have hx : some (si_um ad hh.length N H.size hh.length, (Sum.inl (cid t, ((List.range N).map fun j => some (hh.length + 1 + j)).length, .inr (.inr (.inr (.inr (fun j => (si_g ((List.range N).map fun j => some (hh.length + 1 + j)) j).map (si_um ad hh.length N H.size)))))) : va_E)) = some x := hx
        have ef : (fun j => (si_g ((List.range N).map fun j => some (hh.length + 1 + j)) j).map (si_um ad hh.length N H.size)) = fun j => if j < N then some (H.size + 1 + j) else none := funext fun j => by
          unfold si_g
          rw [List.getElem?_map]
          by_cases hj : j < N
          · rw [List.getElem?_range hj, if_pos hj]
            show some (si_um ad hh.length N H.size (hh.length + 1 + j)) = _
            rw [si_um_at (by omega) (by omega)]
            congr 1
            omega
          · rw [List.getElem?_eq_none (by rw [List.length_range]; omega), if_neg hj]
            rfl
        rw [ef, List.length_map, List.length_range, si_um_at (Nat.le_refl _) (by omega), Nat.sub_self] at hx
        exact (Option.some.inj hx).symm
      · obtain ⟨u, hu⟩ : ∃ u, k - hh.length = u + 1 := ⟨k - hh.length - 1, by omega⟩
        rw [hu, List.getElem?_cons_succ] at hx
        by_cases h3 : u < N
        · rw [List.getElem?_replicate, if_pos h3] at hx
          refine Or.inr (Or.inr ⟨by omega, by omega, ?_⟩)
          have hx : some (si_um ad hh.length N H.size k, (Sum.inl (cid (t - 2), M, .inl (si_f [])) : va_E)) = some x := hx
          rw [si_um_at (by omega) (by omega)] at hx
          exact (Option.some.inj hx).symm
        · rw [List.getElem?_replicate, if_neg h3] at hx
          cases hx
  refine ⟨fun k x hx => ?_, ⟨fun i j x y hi hj hxy => ?_, fun k x hx => ?_⟩, ⟨by have := hS.1; omega, fun a h1 h2 => (z2 a (Nat.lt_of_lt_of_le h1 hS.1)).trans (hS.2.1 a h1 h2), hS.2.2⟩⟩
  · rcases ent k x hx with ⟨h1, h2⟩ | ⟨h1, rfl⟩ | ⟨h1, h2, rfl⟩
    · exact (hP k x h2).kept (z2 _ (hP k x h2).lt)
    · show H1[H.size]? = some (vp_cell (cid t) (N, .inr (.inr (.inr (.inr _)))))
      rw [vp_cell_q]
      exact z3
    · show H1[H.size + (k - hh.length)]? = some (vp_cell (cid (t - 2)) (M, .inl (si_f [])))
      rw [vp_cell_i, show H.size + (k - hh.length) = H.size + 1 + (k - hh.length - 1) by omega]
      exact z4 _ (by omega)
  · rcases ent i x hi with ⟨h1, h2⟩ | ⟨h1, rfl⟩ | ⟨h1, h2, rfl⟩
    · rcases ent j y hj with ⟨g1, g2⟩ | ⟨g1, rfl⟩ | ⟨g1, g2, rfl⟩
      · exact hD.1 i j x y h2 g2 hxy
      · have := (hP i x h2).lt
        have hxy : x.1 = H.size := hxy
        omega
      · have := (hP i x h2).lt
        have hxy : x.1 = H.size + (j - hh.length) := hxy
        omega
    · rcases ent j y hj with ⟨g1, g2⟩ | ⟨g1, rfl⟩ | ⟨g1, g2, rfl⟩
      · have := (hP j y g2).lt
        have hxy : H.size = y.1 := hxy
        omega
      · omega
      · have hxy : H.size = H.size + (j - hh.length) := hxy
        omega
    · rcases ent j y hj with ⟨g1, g2⟩ | ⟨g1, rfl⟩ | ⟨g1, g2, rfl⟩
      · have := (hP j y g2).lt
        have hxy : H.size + (i - hh.length) = y.1 := hxy
        omega
      · have hxy : H.size + (i - hh.length) = H.size := hxy
        omega
      · have hxy : H.size + (i - hh.length) = H.size + (j - hh.length) := hxy
        omega
  · have h0 := hS.1
    rcases ent k x hx with ⟨h1, h2⟩ | ⟨h1, rfl⟩ | ⟨h1, h2, rfl⟩
    · exact hD.2 k x h2
    · exact hA _ h0
    · exact hA _ (by show s.heap.size ≤ H.size + (k - hh.length); omega)
theorem si_no (n : Nat) (ad : Nat → Nat) : (fun j => (si_g (List.replicate n none) j).map ad) = fun _ => none := funext fun j => by
  unfold si_g
  rw [List.getElem?_replicate]
  split <;> rfl
theorem si_as {cs : List (Option Nat)} {k b : Nat} (hk : k < cs.length) : (fun j => (si_g (cs.set k (some b)) j).map ad) = va_up (fun j => (si_g cs j).map ad) k (some (ad b)) := funext fun j => by
  unfold va_up si_g
  by_cases h : j = k
  · subst h
    rw [if_pos rfl, List.getElem?_set_self hk]
    rfl
  · rw [if_neg h, List.getElem?_set_ne (fun z => h z.symm)]
/-- the same class, the same number -/
theorem si_cid {cA : ClassId} {t : Nat} {ty : FieldType} (hK : va_K D sm_cl (sm_tys cid) s) (ht : (sm_tys cid)[t]? = some (cid t, ty)) (h : s.vm.findClass ("[" ++ ty.toString) = some cA) : cA = cid t := by
  have h2 := (hK.2 t _ ht).2
  cases ty with
  | object C =>
    obtain ⟨_, _, _, _, _, h3⟩ := h2
    exact Option.some.inj (h.symm.trans h3)
  | _ => exact Option.some.inj (h.symm.trans h2)
set_option maxHeartbeats 4000000 in
theorem si_sim (E : ∀ ad' : Nat → Nat, ad' 998 = ad 998 → ad' 999 = ad 999 → sm_Env p R s m args c cc (sm_own o) D sm_cl cid ad' Ts B.2.1 A) (hK2 : B.2.1 = sm_Kn o nL scr) (ho : B.2.2.2.2.2.2.1 = o) (ho5 : o < 5) (hA : ∀ q : Nat, s.heap.size ≤ q → A q) (hF : si_NF B (sm_own o) args s) (hN : si_Ns s) (hTb : ∀ w ∈ sm_tb, w ∈ Ts) (hini : o < 4 → meth.name = "<init>")
    {i : Instr} {n : Nat} {lv lv' : sm_L} {st st' : List Value} {hh hh' : List si_E} {pc' : Nat} (hd : decode cc pc = .ok (i, n)) (hs : si_step B i n pc lv st hh = some (pc', lv', st', hh')) (hc1 : cells + B.2.2.2.2.2.2.2.1 ≤ R.cells) (hc2 : slots + B.2.2.2.2.2.2.2.2 ≤ R.slots)
    (hl : lv_has ls B.2.1.2.2.2.2.2.1 (sm_lv ad lv)) (hP : va_P D sm_cl (sm_w cid ad (si_h hh)) H) (hD : va_D A (sm_w cid ad (si_h hh))) (hS : va_S A s.heap H locs)
    (kk : ∀ (ad' : Nat → Nat) (ls' : Array Slot) (H' : Heap) (locs' : List Loc) (cells' slots' : Nat), si_ag hh.length ad ad' → hh.length ≤ hh'.length → cells' ≤ cells + B.2.2.2.2.2.2.2.1 → slots' ≤ slots + B.2.2.2.2.2.2.2.2 → lv_has ls' B.2.1.2.2.2.2.2.1 (sm_lv ad' lv') → va_P D sm_cl (sm_w cid ad' (si_h hh')) H' → va_D A (sm_w cid ad' (si_h hh')) → va_S A s.heap H' locs' → W p l e R s m args below meth c H' locs' cells' slots' Q (F0 m pc' ls' (st'.map (sm_v ad')))) :
    W p l e R s m args below meth c H locs cells slots Q (F0 m pc ls (st.map (sm_v ad))) := by
  subst ho
  have E0 := E ad rfl rfl
  have reg : sm_step B.2.1 i n pc lv st (si_h hh) = some (pc', lv', st', si_h hh') → hh.length ≤ hh'.length → W p l e R s m args below meth c H locs cells slots Q (F0 m pc ls (st.map (sm_v ad))) := fun h hlen =>
    sm_sim E0 ⟨by omega, by omega⟩ hd h hl hP hD hS (fun ls' H' locs' a b c d => kk ad ls' H' locs' cells slots (fun _ _ => rfl) hlen (by omega) (by omega) a b c d)
  obtain ⟨hx, hb, hown, hml, hK, hts, hFok, -⟩ := id E0
  obtain ⟨F1, F2, F3, F4, F5, F6, F7, F8⟩ := hF
  obtain ⟨N1, N2, N3, N4, N5⟩ := hN
  unfold si_step at hs
  split at hs
  · -- new
    rename_i x
    obtain ⟨⟨hn3, hwf, h1⟩, hs1⟩ := sm_if hs
    obtain ⟨⟨ci, fs⟩, hq, hs2⟩ := sm_bd hs1
    obtain ⟨⟨h2, h3⟩, hs3⟩ := sm_if hs2
    cases hs3
    subst hn3
    obtain ⟨w1, w2, w3, w4⟩ := si_wf_s hwf
    obtain ⟨g1, g2, g3, g4, g5⟩ := F1 x _ hq
    have g1 : fs = si_df ci := g1
    obtain ⟨q, hcl, hqn⟩ := sm_cl_at ci g2
    obtain ⟨C, T, N⟩ := q
    have hqn : C = sm_own ci := hqn
    subst hqn
    obtain ⟨ty0, t1, t2, t3⟩ := sm_cls ci _ hcl
    obtain ⟨v1, v2⟩ := si_dv hcl
    have eN : fs.length = N := by rw [g1]; exact v1
    refine va_new (ci := ci) (fs := fs) (C := sm_own ci) (T := T) (N := N) hx hb hts (fun w hw => hTb w (t1 w hw)) ty0 t2 hown g3 (by rw [← eN]; exact g4) g5 hK hP hD hS hA hcl (fun j hj => by rw [g1]; exact v2 ty0 t2 j hj) (by omega) (by have h2 : fs.length ≤ _ := h2; omega) hd ?_
    intro q H1 hP1 hD1 hS1
    have ew : sm_w cid (si_u ad hh.length q) (si_h (hh ++ [.inl (ci, fs)])) = sm_w cid ad (si_h hh) ++ [(q, .inr (ci, fs))] := by
      rw [si_w_1 w1 w2 (show si_ek hh.length (.inl (ci, fs)) = true from h3)]
      show _ ++ [(q, Sum.inr (ci, fs.map (sm_v ad)))] = _
      have em : fs.map (sm_v ad) = fs := by
        rw [g1]
        match ci, g2 with
        | 0, _ => rfl
        | 1, _ => rfl
        | 2, _ => rfl
        | 3, _ => rfl
        | n + 4, g => omega
      rw [em]
    have ag := si_u_ag (ad := ad) (q := q) w1
    have k := kk (si_u ad hh.length q) ls H1 locs (cells + 1) (slots + N) ag (by rw [List.length_append]; omega) (by omega) (by have h2 : fs.length ≤ _ := h2; omega) (by rw [si_lv_ag w3 ag]; exact hl) (by rw [ew]; exact hP1) (by rw [ew]; exact hD1) hS1
    rw [List.map_cons, si_st_ag w4 ag] at k
    rw [show sm_v (si_u ad hh.length q) (.ref hh.length) = .ref q by show Value.ref (si_u ad hh.length q hh.length) = _; unfold si_u; rw [if_pos rfl]] at k
    exact k
  · -- new int[n]
    rename_i a
    split at hs
    · obtain ⟨⟨hn3, hwf, h1⟩, hs1⟩ := sm_if hs
      obtain ⟨kv, r, est, hs2⟩ := sm_i1_s hs1
      obtain ⟨hb2, hs3⟩ := sm_ifn hs2
      cases hs3
      subst hn3
      subst est
      obtain ⟨w1, w2, w3, w4⟩ := si_wf_s hwf
      have hk0 : ¬ kv < 0 := fun z => hb2 (Or.inl z)
      have hk1 : ¬ B.2.2.2.2.2.2.2.2 < kv.toNatClampNeg := fun z => hb2 (Or.inr (Or.inl z))
      have hk2 : ¬ 9000 < kv.toNatClampNeg := fun z => hb2 (Or.inr (Or.inr z))
      have w5 : r.all (si_vk hh.length) = true := by
        rw [List.all_cons] at w4
        exact (sm_an w4).2
      rw [List.map_cons]
      refine va_newa (atype := .int) (ty := .int) (a0 := (kv.toNatClampNeg, .inl (si_f []))) (N' := kv.toNatClampNeg) hx hb F2 rfl hK hP hD hS hA (fun cA => rfl) hk0 rfl (by show kv.toNatClampNeg * 4 ≤ 536870912; omega) (by omega) (by omega) hd ?_
      intro q cA H1 hK1 hP1 hD1 hS1
      have ec : cA = cid 0 := si_cid (t := 0) hK rfl ((hK1.2 5 (cA, .int) rfl).2)
      subst ec
      have ew : sm_w cid (si_u ad hh.length q) (si_h (hh ++ [.inr (.inl (0, kv.toNatClampNeg, []))])) = sm_w cid ad (si_h hh) ++ [(q, .inl (cid 0, kv.toNatClampNeg, .inl (si_f [])))] := si_w_1 w1 w2 rfl
      have ag := si_u_ag (ad := ad) (q := q) w1
      have k := kk (si_u ad hh.length q) ls H1 locs (cells + 1) (slots + kv.toNatClampNeg) ag (by rw [List.length_append]; omega) (by omega) (by omega) (by rw [si_lv_ag w3 ag]; exact hl) (by rw [ew]; exact hP1) (by rw [ew]; exact hD1) hS1
      rw [List.map_cons, si_st_ag w5 ag] at k
      rw [show sm_v (si_u ad hh.length q) (.ref hh.length) = .ref q by show Value.ref (si_u ad hh.length q hh.length) = _; unfold si_u; rw [if_pos rfl]] at k
      exact k
    · cases hs
  · -- new T[n][m]
    rename_i x dd
    obtain ⟨⟨hn4, hd2, hwf⟩, hs1⟩ := sm_if hs
    obtain ⟨cv, kv, r, est, hs2⟩ := sm_i2_s hs1
    obtain ⟨t, ht, hs3⟩ := sm_bd hs2
    obtain ⟨hb2, hs4⟩ := sm_ifn hs3
    cases hs4
    subst hn4
    subst hd2
    subst est
    obtain ⟨w1, w2, w3, w4⟩ := si_wf_s hwf
    have c0 : ¬ cv < 0 := fun z => hb2 (Or.inl z)
    have k0 : ¬ kv < 0 := fun z => hb2 (Or.inr (Or.inl z))
    have b1 : ¬ B.2.2.2.2.2.2.2.1 < 1 + cv.toNatClampNeg := fun z => hb2 (Or.inr (Or.inr (Or.inl z)))
    have b2 : ¬ B.2.2.2.2.2.2.2.2 < cv.toNatClampNeg + cv.toNatClampNeg * kv.toNatClampNeg := fun z => hb2 (Or.inr (Or.inr (Or.inr (Or.inl z))))
    have b3 : ¬ 90 < cv.toNatClampNeg := fun z => hb2 (Or.inr (Or.inr (Or.inr (Or.inr (Or.inl z)))))
    have b4 : ¬ 900 < kv.toNatClampNeg := fun z => hb2 (Or.inr (Or.inr (Or.inr (Or.inr (Or.inr z)))))
    have w5 : r.all (si_vk hh.length) = true := by
      rw [List.all_cons, List.all_cons] at w4
      exact (sm_an (sm_an w4).2).2
    have ag := si_um_ag (ad := ad) (q := H.size) (N := cv.toNatClampNeg) w1 (by omega)
    have fin : ∀ H1 : Heap, H1.size = H.size + 1 + cv.toNatClampNeg → (∀ a, a < H.size → H1[a]? = H[a]?) → H1[H.size]? = some (arrV (cid t) cv.toNatClampNeg (fun j => va_rf (if j < cv.toNatClampNeg then some (H.size + 1 + j) else none))) → (∀ j, j < cv.toNatClampNeg → H1[H.size + 1 + j]? = some (arrV (cid (t - 2)) kv.toNatClampNeg (fun _ => .int 0))) → W p l e R s m args below meth c H1 locs (cells + 1 + cv.toNatClampNeg) (slots + cv.toNatClampNeg + cv.toNatClampNeg * kv.toNatClampNeg) Q (F0 m (pc + 4) ls (.ref H.size :: r.map (sm_v ad))) := by
      intro H1 z1 z2 z3 z4
      obtain ⟨q1, q2, q3⟩ := si_mul (t := t) (M := kv.toNatClampNeg) w1 w2 (by omega) hA hP hD hS z1 z2 z3 z4
      have k := kk (si_um ad hh.length cv.toNatClampNeg H.size) ls H1 locs _ _ ag (by rw [List.length_append]; omega) (show cells + 1 + cv.toNatClampNeg ≤ _ by omega) (show slots + cv.toNatClampNeg + cv.toNatClampNeg * kv.toNatClampNeg ≤ _ by omega) (by rw [si_lv_ag w3 ag]; exact hl) q1 q2 q3
      rw [List.map_cons, si_st_ag w5 ag] at k
      rw [show sm_v (si_um ad hh.length cv.toNatClampNeg H.size) (.ref hh.length) = .ref H.size by show Value.ref (si_um ad hh.length cv.toNatClampNeg H.size hh.length) = _; rw [si_um_at (Nat.le_refl _) (by omega), Nat.sub_self]; rfl] at k
      exact k
    rcases F4 x t ht with ⟨rfl, hlk⟩ | ⟨rfl, hlk⟩
    · refine mu_W (ty := .int) hx hb hown hlk N4.use F2 c0 k0 rfl rfl (by omega) (by show kv.toNatClampNeg * 4 ≤ _; omega) (by omega) rfl rfl (by omega) (by omega) hd ?_
      intro cA cC H1 e1 e2 z1 z2 z3 z4
      have ea : cA = cid 2 := si_cid (t := 2) hK rfl e1
      have ec : cC = cid 0 := si_cid (t := 0) hK rfl e2
      subst ea
      subst ec
      exact fin H1 z1 z2 z3 z4
    · refine mu_W (ty := .byte) hx hb hown hlk N5.use F3 c0 k0 rfl rfl (by omega) (by show kv.toNatClampNeg * 1 ≤ _; omega) (by omega) rfl rfl (by omega) (by omega) hd ?_
      intro cA cC H1 e1 e2 z1 z2 z3 z4
      have ea : cA = cid 3 := si_cid (t := 3) hK rfl e1
      have ec : cC = cid 1 := si_cid (t := 1) hK rfl e2
      subst ea
      subst ec
      exact fin H1 z1 z2 z3 z4
  · -- new T[n]
    rename_i x
    obtain ⟨⟨hn3, hwf, h1, han⟩, hs1⟩ := sm_if hs
    obtain ⟨kv, r, est, hs2⟩ := sm_i1_s hs1
    obtain ⟨hb2, hs3⟩ := sm_ifn hs2
    cases hs3
    subst hn3
    subst est
    obtain ⟨w1, w2, w3, w4⟩ := si_wf_s hwf
    have k0 : ¬ kv < 0 := fun z => hb2 (Or.inl z)
    have k1 : ¬ B.2.2.2.2.2.2.2.2 < kv.toNatClampNeg := fun z => hb2 (Or.inr (Or.inl z))
    have k2 : ¬ 900 < kv.toNatClampNeg := fun z => hb2 (Or.inr (Or.inr z))
    have w5 : r.all (si_vk hh.length) = true := by
      rw [List.all_cons] at w4
      exact (sm_an w4).2
    rw [List.map_cons]
    refine va_newq (N' := kv.toNatClampNeg) hx hb hown (F5 x han) N3 hK hP hD hS hA k0 rfl (by omega) (by omega) (by omega) hd ?_
    intro q cA H1 hK1 hP1 hD1 hS1
    have ec : cA = cid 4 := by
      obtain ⟨_, _, _, _, _, h9⟩ := (hK1.2 5 (cA, .object "MiceRegisters$Deeds") rfl).2
      exact si_cid (t := 4) (ty := .object "MiceRegisters$Deeds") hK rfl h9
    subst ec
    have he : si_ek hh.length (.inr (.inr (4, List.replicate kv.toNatClampNeg none))) = true := by
      show (List.replicate kv.toNatClampNeg (none : Option Nat)).all (si_ok hh.length) = true
      rw [List.all_eq_true]
      intro x hx
      rw [List.eq_of_mem_replicate hx]
      rfl
    have ew : sm_w cid (si_u ad hh.length q) (si_h (hh ++ [.inr (.inr (4, List.replicate kv.toNatClampNeg none))])) = sm_w cid ad (si_h hh) ++ [(q, .inl (cid 4, kv.toNatClampNeg, .inr (.inr (.inr (.inr (fun _ => none))))))] := by
      rw [si_w_1 w1 w2 he]
      show _ ++ [(q, (Sum.inl (cid 4, (List.replicate kv.toNatClampNeg (none : Option Nat)).length, .inr (.inr (.inr (.inr (fun j => (si_g (List.replicate kv.toNatClampNeg none) j).map ad))))) : va_E))] = _
      rw [si_no, List.length_replicate]
    have ag := si_u_ag (ad := ad) (q := q) w1
    have k := kk (si_u ad hh.length q) ls H1 locs (cells + 1) (slots + kv.toNatClampNeg) ag (by rw [List.length_append]; omega) (by omega) (by omega) (by rw [si_lv_ag w3 ag]; exact hl) (by rw [ew]; exact hP1) (by rw [ew]; exact hD1) hS1
    rw [List.map_cons, si_st_ag w5 ag] at k
    rw [show sm_v (si_u ad hh.length q) (.ref hh.length) = .ref q by show Value.ref (si_u ad hh.length q hh.length) = _; unfold si_u; rw [if_pos rfl]] at k
    exact k
  · -- putfield
    rename_i x
    obtain ⟨hn3, hs1⟩ := sm_if hs
    subst hn3
    split at hs1
    · rename_i v a r
      obtain ⟨q, hq, hs2⟩ := sm_bd hs1
      obtain ⟨hq0, hs3⟩ := sm_if hs2
      obtain ⟨fs, hf, hs4⟩ := sm_bd hs3
      obtain ⟨hlt, hs5⟩ := sm_if hs4
      cases hs5
      refine reg ?_ (by rw [List.length_set]; exact Nat.le_refl _)
      show (if (3 : Nat) = 3 then (B.2.1.1 x).bind _ else none) = _
      rw [if_pos rfl, hq]
      show (if q.2.2 = 0 then (sm_obj (si_h hh) a q.1).bind _ else none) = _
      rw [if_pos hq0, si_obj_m (si_obj_s hf)]
      show (if q.2.1 < fs.length then _ else none) = _
      rw [if_pos hlt, ← si_h_set]
      rfl
    · rename_i v a r
      obtain ⟨q, hq, hs2⟩ := sm_bd hs1
      obtain ⟨hq0, hs3⟩ := sm_if hs2
      obtain ⟨fs, hf, hs4⟩ := sm_bd hs3
      obtain ⟨hlt, hs5⟩ := sm_if hs4
      cases hs5
      refine reg ?_ (by rw [List.length_set]; exact Nat.le_refl _)
      show (if (3 : Nat) = 3 then (B.2.1.1 x).bind _ else none) = _
      rw [if_pos rfl, hq]
      show (if q.2.2 = 1 then (sm_obj (si_h hh) a q.1).bind _ else none) = _
      rw [if_pos hq0, si_obj_m (si_obj_s hf)]
      show (if q.2.1 < fs.length then _ else none) = _
      rw [if_pos hlt, ← si_h_set]
      rfl
    · rename_i b a r
      obtain ⟨⟨ci, k, t⟩, hq, hs2⟩ := sm_bd hs1
      obtain ⟨⟨ht2, hci⟩, hs3⟩ := sm_if hs2
      obtain ⟨fs, hf, hs4⟩ := sm_bd hs3
      obtain ⟨hlt, hs5⟩ := sm_if hs4
      cases hs5
      have ht2 : t = 2 := ht2
      have hci : ci = B.2.2.2.2.2.2.1 := hci
      subst ht2
      subst hci
      have hf := si_obj_s hf
      obtain ⟨C, T, N, ty0, f1, f2, f3, f4, f5, f6, -⟩ := hFok x _ k 2 hq
      have hlk : sm_lk (sm_fl B.2.2.2.2.2.2.1) x = some (B.2.2.2.2.2.2.1, k, 2) := by
        rw [hK2] at hq
        exact hq
      obtain ⟨y1, y2, tt, y3, y4⟩ := si_fin ho5 hlk f1
      have hlt : k < fs.length := hlt
      refine va_putF (ci := B.2.2.2.2.2.2.1) (C := C) (T := T) (N := N) (v := .ref (ad b)) (ty := tt) (fs := fs.map (sm_v ad)) hx hb hts f3 ty0 f5 f6 hown hK hP hD hS a (sm_w_get (si_h_get hf)) f1 k f2 f4 (fun _ h => h) y1 (hini (by have := (List.getElem?_eq_some_iff.mp f1).1; exact this)) y2 y3 (by cases tt <;> first | rfl | (cases y4; done)) (mu_ref y4 _ (Or.inr ⟨_, rfl⟩)) (by rw [List.length_map]; exact hlt) hd ?_
      intro H1 locs1 hP1 hD1 hS1
      have ew : (sm_w cid ad (si_h hh)).set a (ad a, .inr (B.2.2.2.2.2.2.1, (fs.map (sm_v ad)).set k (.ref (ad b)))) = sm_w cid ad (si_h (hh.set a (.inl (B.2.2.2.2.2.2.1, fs.set k (.ref b))))) := by
        rw [← si_h_set, ← sm_w_set]
        show _ = (sm_w cid ad (si_h hh)).set a (ad a, Sum.inr (B.2.2.2.2.2.2.1, (fs.set k (.ref b)).map (sm_v ad)))
        rw [List.map_set]
        rfl
      rw [ew] at hP1 hD1
      exact kk ad ls H1 locs1 cells slots (fun _ _ => rfl) (by rw [List.length_set]; exact Nat.le_refl _) (by omega) (by omega) hl hP1 hD1 hS1
    · cases hs1
  · -- aastore
    obtain ⟨hn3, hs1⟩ := sm_if hs
    subst hn3
    split at hs1
    · rename_i b kv a r
      obtain ⟨⟨t, cs⟩, hq, hs2⟩ := sm_bd hs1
      obtain ⟨⟨ht4, hin⟩, hs3⟩ := sm_if hs2
      obtain ⟨fs, hf, hs4⟩ := sm_bd hs3
      cases hs4
      have ht4 : t = 4 := ht4
      subst ht4
      obtain ⟨hq, -, -⟩ := si_refs_s hq
      have hf := si_obj_s hf
      have hkl : kv.toNatClampNeg < cs.length := Nat.not_le.mp fun z => hin (Or.inr z)
      refine va_astq (n := cs.length) (f := fun j => (si_g cs j).map ad) (v := ad b) (vs := fs.map (sm_v ad)) (r := ("MiceRegisters$Deeds", sm_T0, 4)) (cA := cid 4) hx hb hK hP hD hS a 4 b 0 (sm_w_get (si_h_get hq)) rfl (sm_w_get (si_h_get hf)) rfl hin hd ?_
      intro H1 locs1 hP1 hD1 hS1
      have ew : (sm_w cid ad (si_h hh)).set a (ad a, .inl (cid 4, cs.length, .inr (.inr (.inr (.inr (va_up (fun j => (si_g cs j).map ad) kv.toNatClampNeg (some (ad b)))))))) = sm_w cid ad (si_h (hh.set a (.inr (.inr (4, cs.set kv.toNatClampNeg (some b)))))) := by
        rw [← si_h_set, ← sm_w_set]
        show _ = (sm_w cid ad (si_h hh)).set a (ad a, (Sum.inl (cid 4, (cs.set kv.toNatClampNeg (some b)).length, .inr (.inr (.inr (.inr (fun j => (si_g (cs.set kv.toNatClampNeg (some b)) j).map ad))))) : va_E))
        rw [si_as hkl, List.length_set]
      rw [ew] at hP1 hD1
      exact kk ad ls H1 locs1 cells slots (fun _ _ => rfl) (by rw [List.length_set]; exact Nat.le_refl _) (by omega) (by omega) hl hP1 hD1 hS1
    · cases hs1
  · -- getfield
    rename_i x
    obtain ⟨hn3, hs1⟩ := sm_if hs
    subst hn3
    obtain ⟨a, r, est, hs2⟩ := sm_r1_s hs1
    subst est
    obtain ⟨q, hq, hs3⟩ := sm_bd hs2
    obtain ⟨fs, hf, hs4⟩ := sm_bd hs3
    obtain ⟨v, hv, hs5⟩ := sm_bd hs4
    cases hs5
    refine reg ?_ (Nat.le_refl _)
    show (if (3 : Nat) = 3 then (B.2.1.1 x).bind _ else none) = _
    rw [if_pos rfl, hq]
    show (sm_obj (si_h hh) a q.1).bind _ = _
    rw [si_obj_m (si_obj_s hf)]
    show (fs[q.2.1]?).bind _ = _
    rw [hv]
    rfl
  · -- iastore
    obtain ⟨hn3, hs1⟩ := sm_if hs
    subst hn3
    obtain ⟨a, kv, xv, r, est, hs2⟩ := sm_rii_s hs1
    subst est
    obtain ⟨⟨len, us⟩, hq, hs3⟩ := sm_bd hs2
    obtain ⟨hin, hs4⟩ := sm_ifn hs3
    cases hs4
    refine reg ?_ (by rw [List.length_set]; exact Nat.le_refl _)
    show (if (1 : Nat) = 1 then (sm_ints (si_h hh) a).bind _ else none) = _
    rw [if_pos rfl, aw_ints_of (si_h_get (si_ints_s hq))]
    show (if kv < 0 ∨ len ≤ kv.toNatClampNeg then none else _) = _
    rw [if_neg hin, ← si_h_set]
    rfl
  · -- aaload
    obtain ⟨hn3, hs1⟩ := sm_if hs
    subst hn3
    obtain ⟨a, kv, r, est, hs2⟩ := sm_ri_s hs1
    subst est
    obtain ⟨⟨t, cs⟩, hq, hs3⟩ := sm_bd hs2
    obtain ⟨hin, hs4⟩ := sm_ifn hs3
    obtain ⟨b, hb2, hs5⟩ := sm_bd hs4
    cases hs5
    obtain ⟨hq, h2, h3⟩ := si_refs_s hq
    refine reg ?_ (Nat.le_refl _)
    have er : sm_refs (si_h hh) a = some (t, cs.length, si_g cs) := by
      unfold sm_refs
      rw [si_h_get hq]
      exact if_pos ⟨h2, h3⟩
    show (if (1 : Nat) = 1 then (sm_refs (si_h hh) a).bind _ else none) = _
    rw [if_pos rfl, er]
    show (if kv < 0 ∨ cs.length ≤ kv.toNatClampNeg then none else (si_g cs kv.toNatClampNeg).bind _) = _
    rw [if_neg hin, hb2]
    rfl
  · obtain ⟨hp, hs1⟩ := sm_if hs
    obtain ⟨t, ht, hs2⟩ := sm_bd hs1
    cases hs2
    exact reg (si_pure_s hp ht) (Nat.le_refl _)
end SIS
