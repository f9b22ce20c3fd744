/-! Constructors: a small machine that makes cells; its cells are data. -/
abbrev si_E : Type := (Nat × List Value) ⊕ (Nat × Nat × List (Nat × Int32)) ⊕ (Nat × List (Option Nat))
def si_f : List (Nat × Int32) → Nat → Int32
  | [], _ => 0
  | q :: r, j => if j = q.1 then q.2 else si_f r j
def si_g (cs : List (Option Nat)) (j : Nat) : Option Nat := (cs[j]?).join
def si_d (e : si_E) : va_E := match e with
  | .inl (ci, fs) => .inr (ci, fs)
  | .inr (.inl (t, n, us)) => .inl (t, n, .inl (si_f us))
  | .inr (.inr (t, cs)) => .inl (t, cs.length, .inr (.inr (.inr (.inr (si_g cs)))))
abbrev si_h (hh : List si_E) : List va_E := hh.map si_d
theorem si_h_get {hh : List si_E} {a : Nat} {e : si_E} (h : hh[a]? = some e) : (si_h hh)[a]? = some (si_d e) := by
  rw [List.getElem?_map, h]
  rfl
theorem si_h_set (hh : List si_E) (a : Nat) (e : si_E) : (si_h hh).set a (si_d e) = si_h (hh.set a e) := List.map_set.symm
/-- references to cells that there are, or to the two that are no cells of ours -/
def si_vk (n : Nat) (v : Value) : Bool := match v with
  | .ref r => Nat.blt r n || Nat.ble 900 r
  | _ => true
def si_ok (n : Nat) (o : Option Nat) : Bool := match o with
  | some r => Nat.blt r n
  | none => true
def si_ek (n : Nat) (e : si_E) : Bool := match e with
  | .inl (_, fs) => fs.all (si_vk n)
  | .inr (.inl _) => true
  | .inr (.inr (_, cs)) => cs.all (si_ok n)
def si_wf (hh : List si_E) (lv : sm_L) (st : List Value) : Bool := Nat.blt hh.length 800 && (hh.all (si_ek hh.length) && (lv.all (fun q => si_vk hh.length q.2) && st.all (si_vk hh.length)))
def si_ag (n : Nat) (ad ad' : Nat → Nat) : Prop := ∀ k, k < n ∨ 900 ≤ k → ad' k = ad k
theorem si_v_ag {n : Nat} {ad ad' : Nat → Nat} {v : Value} (h : si_vk n v = true) (ha : si_ag n ad ad') : sm_v ad' v = sm_v ad v := by
  cases v with
  | ref r =>
    have hr : r < n ∨ 900 ≤ r := by
      rcases (Bool.or_eq_true _ _).mp h with h | h
      · exact Or.inl (Nat.le_of_ble_eq_true h)
      · exact Or.inr (Nat.le_of_ble_eq_true h)
    show Value.ref (ad' r) = Value.ref (ad r)
    rw [ha r hr]
  | int x => rfl
  | long x => rfl
  | float x => rfl
  | double x => rfl
  | null => rfl
  | retAddr x => rfl
theorem si_g_mem {cs : List (Option Nat)} {j r : Nat} (h : si_g cs j = some r) : some r ∈ cs := by
  unfold si_g at h
  cases hj : cs[j]? with
  | none => rw [hj] at h; cases h
  | some o =>
    rw [hj] at h
    have h : o = some r := h
    subst h
    exact List.mem_of_getElem? hj
theorem si_e_ag {cid : Nat → ClassId} {n : Nat} {ad ad' : Nat → Nat} {e : si_E} (h : si_ek n e = true) (ha : si_ag n ad ad') : sm_e cid ad' (si_d e) = sm_e cid ad (si_d e) := by
  match e, h with
  | .inl (ci, fs), h =>
    show (Sum.inr (ci, fs.map (sm_v ad')) : va_E) = Sum.inr (ci, fs.map (sm_v ad))
    rw [List.map_congr_left (fun v hv => si_v_ag (List.all_eq_true.mp h v hv) ha)]
  | .inr (.inl _), _ => rfl
  | .inr (.inr (t, cs)), h =>
    have e : (fun j => (si_g cs j).map ad') = fun j => (si_g cs j).map ad := funext fun j => by
      cases hj : si_g cs j with
      | none => rfl
      | some r =>
        have hr : Nat.blt r n = true := List.all_eq_true.mp h _ (si_g_mem hj)
        show some (ad' r) = some (ad r)
        rw [ha r (Or.inl (Nat.le_of_ble_eq_true hr))]
    show (Sum.inl (cid t, cs.length, .inr (.inr (.inr (.inr (fun j => (si_g cs j).map ad'))))) : va_E) = Sum.inl (cid t, cs.length, .inr (.inr (.inr (.inr (fun j => (si_g cs j).map ad)))))
    rw [e]
theorem si_w_ag {cid : Nat → ClassId} {n : Nat} {ad ad' : Nat → Nat} {hh : List si_E} (h : hh.all (si_ek n) = true) (hl : hh.length ≤ n) (ha : si_ag n ad ad') : sm_w cid ad' (si_h hh) = sm_w cid ad (si_h hh) := by
  unfold sm_w
  apply List.ext_getElem?
  intro i
  rw [List.getElem?_mapIdx, List.getElem?_mapIdx, List.getElem?_map]
  cases hi : hh[i]? with
  | none => rfl
  | some x =>
    show some (ad' i, sm_e cid ad' (si_d x)) = some (ad i, sm_e cid ad (si_d x))
    rw [ha i (Or.inl (Nat.lt_of_lt_of_le (List.getElem?_eq_some_iff.mp hi).1 hl)), si_e_ag (List.all_eq_true.mp h x (List.mem_of_getElem? hi)) ha]
theorem si_lv_ag {n : Nat} {ad ad' : Nat → Nat} {lv : sm_L} (h : lv.all (fun q => si_vk n q.2) = true) (ha : si_ag n ad ad') : sm_lv ad' lv = sm_lv ad lv := by
  unfold sm_lv
  apply List.map_congr_left
  intro q hq
  rw [si_v_ag (List.all_eq_true.mp h q hq) ha]
theorem si_st_ag {n : Nat} {ad ad' : Nat → Nat} {st : List Value} (h : st.all (si_vk n) = true) (ha : si_ag n ad ad') : st.map (sm_v ad') = st.map (sm_v ad) :=
  List.map_congr_left fun v hv => si_v_ag (List.all_eq_true.mp h v hv) ha
theorem si_wf_s {hh : List si_E} {lv : sm_L} {st : List Value} (h : si_wf hh lv st = true) : hh.length < 800 ∧ hh.all (si_ek hh.length) = true ∧ lv.all (fun q => si_vk hh.length q.2) = true ∧ st.all (si_vk hh.length) = true := by
  obtain ⟨h1, h⟩ := sm_an h
  obtain ⟨h2, h⟩ := sm_an h
  obtain ⟨h3, h4⟩ := sm_an h
  exact ⟨Nat.le_of_ble_eq_true h1, h2, h3, h4⟩
/-- one cell more, at q -/
def si_u (ad : Nat → Nat) (n q : Nat) : Nat → Nat := fun k => if k = n then q else ad k
theorem si_u_ag {ad : Nat → Nat} {n q : Nat} (hn : n < 800) : si_ag n ad (si_u ad n q) := by
  intro k hk
  unfold si_u
  rw [if_neg (by omega)]
theorem si_w_1 {cid : Nat → ClassId} {ad : Nat → Nat} {hh : List si_E} {e : si_E} {q : Nat} (hn : hh.length < 800) (h : hh.all (si_ek hh.length) = true) (he : si_ek hh.length e = true) : sm_w cid (si_u ad hh.length q) (si_h (hh ++ [e])) = sm_w cid ad (si_h hh) ++ [(q, sm_e cid ad (si_d e))] := by
  have a := si_w_ag (cid := cid) h (Nat.le_refl _) (si_u_ag (ad := ad) (q := q) hn)
  have e1 : si_h (hh ++ [e]) = si_h hh ++ [si_d e] := by simp [si_h]
  rw [← a, e1]
  unfold sm_w
  rw [List.mapIdx_concat, List.length_map, si_e_ag he (si_u_ag hn)]
  unfold si_u
  rw [if_pos rfl]
/-- the data's parts -/
def si_obj (hh : List si_E) (a ci : Nat) : Option (List Value) := match hh[a]? with
  | some (.inl (c, fs)) => if c = ci then some fs else none
  | _ => none
def si_ints (hh : List si_E) (a : Nat) : Option (Nat × List (Nat × Int32)) := match hh[a]? with
  | some (.inr (.inl (t, n, us))) => if t = 0 then some (n, us) else none
  | _ => none
def si_refs (hh : List si_E) (a : Nat) : Option (Nat × List (Option Nat)) := match hh[a]? with
  | some (.inr (.inr q)) => if 2 ≤ q.1 ∧ q.1 < 5 then some q else none
  | _ => none
theorem si_obj_s {hh : List si_E} {a ci : Nat} {fs : List Value} (h : si_obj hh a ci = some fs) : hh[a]? = some (.inl (ci, fs)) := by
  unfold si_obj at h
  split at h
  · rename_i c fs' hh'
    by_cases hc : c = ci
    · rw [if_pos hc] at h
      cases h
      subst hc
      exact hh'
    · rw [if_neg hc] at h
      cases h
  · cases h
theorem si_ints_s {hh : List si_E} {a n : Nat} {us : List (Nat × Int32)} (h : si_ints hh a = some (n, us)) : hh[a]? = some (.inr (.inl (0, n, us))) := by
  unfold si_ints at h
  split at h
  · rename_i t n' us' hh'
    by_cases ht : t = 0
    · rw [if_pos ht] at h
      cases h
      subst ht
      exact hh'
    · rw [if_neg ht] at h
      cases h
  · cases h
theorem si_refs_s {hh : List si_E} {a : Nat} {q : Nat × List (Option Nat)} (h : si_refs hh a = some q) : hh[a]? = some (.inr (.inr q)) ∧ 2 ≤ q.1 ∧ q.1 < 5 := by
  unfold si_refs at h
  split at h
  · rename_i q' hh'
    by_cases hq : 2 ≤ q'.1 ∧ q'.1 < 5
    · rw [if_pos hq] at h
      cases h
      exact ⟨hh', hq⟩
    · rw [if_neg hq] at h
      cases h
  · cases h
theorem si_obj_m {hh : List si_E} {a ci : Nat} {fs : List Value} (h : hh[a]? = some (.inl (ci, fs))) : sm_obj (si_h hh) a ci = some fs := by
  unfold sm_obj
  rw [si_h_get h]
  exact if_pos rfl
/-- instructions that leave the cells alone -/
def si_pure (i : Instr) : Bool := match i with
  | .iconst _ => true
  | .bipush _ => true
  | .sipush _ => true
  | .lconst _ => true
  | .aload_n _ => true
  | .iload_n _ => true
  | .istore_n _ => true
  | .astore_n _ => true
  | .iinc _ _ => true
  | .iadd => true
  | .imul => true
  | .goto _ => true
  | .if_icmp _ _ => true
  | .dup => true
  | _ => false
theorem si_pure_s {K : sm_K} {i : Instr} {n pc : Nat} {lv : sm_L} {st : List Value} {h : List va_E} {t : sm_T} (hp : si_pure i = true) (hs : sm_step K i n pc lv st [] = some t) : sm_step K i n pc lv st h = some (t.1, t.2.1, t.2.2.1, h) := by
  unfold si_pure at hp
  split at hp
  · obtain ⟨c, hs⟩ := sm_if hs
    cases hs
    exact if_pos c
  · obtain ⟨c, hs⟩ := sm_if hs
    cases hs
    exact if_pos c
  · obtain ⟨c, hs⟩ := sm_if hs
    cases hs
    exact if_pos c
  · obtain ⟨c, hs⟩ := sm_if hs
    cases hs
    exact if_pos c
  · obtain ⟨c, hs⟩ := sm_if hs
    obtain ⟨v, hv, hs⟩ := sm_bd hs
    obtain ⟨x, r, e, hs⟩ := sm_r1_s hs
    cases e
    cases hs
    refine (if_pos c).trans ?_
    rw [hv]
    rfl
  · obtain ⟨c, hs⟩ := sm_if hs
    obtain ⟨v, hv, hs⟩ := sm_bd hs
    obtain ⟨x, r, e, hs⟩ := sm_i1_s hs
    cases e
    cases hs
    refine (if_pos c).trans ?_
    rw [hv]
    rfl
  · obtain ⟨c, hs⟩ := sm_if hs
    obtain ⟨x, r, e, hs⟩ := sm_i1_s hs
    subst e
    cases hs
    exact if_pos c
  · obtain ⟨c, hs⟩ := sm_if hs
    obtain ⟨x, r, e, hs⟩ := sm_r1_s hs
    subst e
    cases hs
    exact if_pos c
  · obtain ⟨c, hs⟩ := sm_if hs
    obtain ⟨v, hv, hs⟩ := sm_bd hs
    obtain ⟨x, r, e, hs⟩ := sm_i1_s hs
    cases e
    cases hs
    refine (if_pos c).trans ?_
    rw [hv]
    rfl
  · obtain ⟨c, hs⟩ := sm_if hs
    obtain ⟨x, y, r, e, hs⟩ := sm_i2_s hs
    subst e
    cases hs
    exact if_pos c
  · obtain ⟨c, hs⟩ := sm_if hs
    obtain ⟨x, y, r, e, hs⟩ := sm_i2_s hs
    subst e
    cases hs
    exact if_pos c
  · obtain ⟨c, hs⟩ := sm_if hs
    obtain ⟨u, hu, hs⟩ := sm_bd hs
    cases hs
    refine (if_pos c).trans ?_
    rw [hu]
    rfl
  · obtain ⟨c, hs⟩ := sm_if hs
    obtain ⟨u, hu, hs⟩ := sm_bd hs
    obtain ⟨x, y, r, e, hs⟩ := sm_i2_s hs
    subst e
    cases hs
    refine (if_pos c).trans ?_
    rw [hu]
    rfl
  · obtain ⟨c, hs⟩ := sm_if hs
    split at hs
    · rename_i v r
      obtain ⟨c2, hs⟩ := sm_if hs
      cases hs
      refine (if_pos c).trans ?_
      exact if_pos c2
    · cases hs
  · cases hp
/-- what is known of a constructor: its table; constants and fields; new, new T[n][m], new T[n], calls; its class' number; what one step may lay: cells, places -/
abbrev si_P : Type := (Nat → Option (Instr × Nat)) × sm_K × (Nat → Option (Nat × List Value)) × (Nat → Option Nat) × (Nat → Bool) × (Nat → Option (Option Nat)) × Nat × Nat × Nat
abbrev si_T : Type := Nat × sm_L × List Value × List si_E
def si_step (B : si_P) (i : Instr) (n pc : Nat) (lv : sm_L) (st : List Value) (hh : List si_E) : Option si_T := match i with
  | .new x => if n = 3 ∧ si_wf hh lv st = true ∧ 1 ≤ B.2.2.2.2.2.2.2.1 then (B.2.2.1 x).bind fun q => if q.2.length ≤ B.2.2.2.2.2.2.2.2 ∧ q.2.all (si_vk hh.length) = true then some (pc + 3, lv, .ref hh.length :: st, hh ++ [.inl q]) else none else none
  | .newarray a => (match a with
      | .int => if n = 2 ∧ si_wf hh lv st = true ∧ 1 ≤ B.2.2.2.2.2.2.2.1 then sm_i1 st fun k r => if k < 0 ∨ B.2.2.2.2.2.2.2.2 < k.toNatClampNeg ∨ 9000 < k.toNatClampNeg then none else some (pc + 2, lv, .ref hh.length :: r, hh ++ [.inr (.inl (0, k.toNatClampNeg, []))]) else none
      | _ => none)
  | .multianewarray x d => if n = 4 ∧ d = 2 ∧ si_wf hh lv st = true then sm_i2 st fun c k r => (B.2.2.2.1 x).bind fun t => if c < 0 ∨ k < 0 ∨ B.2.2.2.2.2.2.2.1 < 1 + c.toNatClampNeg ∨ B.2.2.2.2.2.2.2.2 < c.toNatClampNeg + c.toNatClampNeg * k.toNatClampNeg ∨ 90 < c.toNatClampNeg ∨ 900 < k.toNatClampNeg then none else some (pc + 4, lv, .ref hh.length :: r, hh ++ (.inr (.inr (t, (List.range c.toNatClampNeg).map fun j => some (hh.length + 1 + j))) :: List.replicate c.toNatClampNeg (.inr (.inl (t - 2, k.toNatClampNeg, []))))) else none
  | .anewarray x => if n = 3 ∧ si_wf hh lv st = true ∧ 1 ≤ B.2.2.2.2.2.2.2.1 ∧ B.2.2.2.2.1 x = true then sm_i1 st fun k r => if k < 0 ∨ B.2.2.2.2.2.2.2.2 < k.toNatClampNeg ∨ 900 < k.toNatClampNeg then none else some (pc + 3, lv, .ref hh.length :: r, hh ++ [.inr (.inr (4, List.replicate k.toNatClampNeg none))]) else none
  | .putfield x => if n = 3 then (match st with
      | .int v :: .ref a :: r => (B.2.1.1 x).bind fun q => if q.2.2 = 0 then (si_obj hh a q.1).bind fun fs => (if q.2.1 < fs.length then some (pc + 3, lv, r, hh.set a (.inl (q.1, fs.set q.2.1 (.int v)))) else none) else none
      | .long v :: .ref a :: r => (B.2.1.1 x).bind fun q => if q.2.2 = 1 then (si_obj hh a q.1).bind fun fs => (if q.2.1 < fs.length then some (pc + 3, lv, r, hh.set a (.inl (q.1, fs.set q.2.1 (.long v)))) else none) else none
      | .ref b :: .ref a :: r => (B.2.1.1 x).bind fun q => if q.2.2 = 2 ∧ q.1 = B.2.2.2.2.2.2.1 then (si_obj hh a q.1).bind fun fs => (if q.2.1 < fs.length then some (pc + 3, lv, r, hh.set a (.inl (q.1, fs.set q.2.1 (.ref b)))) else none) else none
      | _ => none) else none
  | .aastore => if n = 1 then (match st with
      | .ref b :: .int k :: .ref a :: r => (si_refs hh a).bind fun q => if q.1 = 4 ∧ ¬ (k < 0 ∨ q.2.length ≤ k.toNatClampNeg) then (si_obj hh b 0).bind fun _ => some (pc + 1, lv, r, hh.set a (.inr (.inr (4, q.2.set k.toNatClampNeg (some b))))) else none
      | _ => none) else none
  | .getfield x => if n = 3 then sm_r1 st fun a r => (B.2.1.1 x).bind fun q => (si_obj hh a q.1).bind fun fs => (fs[q.2.1]?).bind fun v => some (pc + 3, lv, v :: r, hh) else none
  | .iastore => if n = 1 then sm_rii st fun a k x r => (si_ints hh a).bind fun w => (if k < 0 ∨ w.1 ≤ k.toNatClampNeg then none else some (pc + 1, lv, r, hh.set a (.inr (.inl (0, w.1, (k.toNatClampNeg, x) :: w.2))))) else none
  | .aaload => if n = 1 then sm_ri st fun a k r => (si_refs hh a).bind fun w => (if k < 0 ∨ w.2.length ≤ k.toNatClampNeg then none else (si_g w.2 k.toNatClampNeg).bind fun b => some (pc + 1, lv, .ref b :: r, hh)) else none
  | i => if si_pure i = true then (sm_step B.2.1 i n pc lv st []).bind fun t => some (t.1, t.2.1, t.2.2.1, hh) else none

