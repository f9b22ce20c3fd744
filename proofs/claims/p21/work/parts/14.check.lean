/-! Whole methods, node by node: what the check says holds of every run. -/
/-- where each argument's local lies -/
def ai_sl : List aw_V → Nat → List Nat
  | [], _ => []
  | v :: vs, i => i :: ai_sl vs (if aw_cat v = 2 then i + 2 else i + 1)
def ai_lv : List aw_V → Nat → aw_L
  | [], _ => []
  | v :: vs, i => (i, v) :: ai_lv vs (if aw_cat v = 2 then i + 2 else i + 1)
def ai_n : List aw_V → Nat → Nat
  | [], i => i
  | v :: vs, i => ai_n vs (if aw_cat v = 2 then i + 2 else i + 1)
/-- an end's words of the arguments, read off the locals -/
def ai_rf : List Nat → List ar_R → aw_L → Bool
  | i :: is, r :: rs, L => (r.isEmpty || (match sm_lk L i with
      | some (.inr (_, x)) => ar_sub x r
      | _ => false)) && ai_rf is rs L
  | [], _ :: _, _ => false
  | _, [], _ => true
def ai_end (c : ak_C) (v : Option aw_V) (S : aw_S) : Bool := c.2.2.2.2.any fun q => ai_rf (ai_sl c.2.1 0) q.1 S.1 && ((match v, q.2.1 with
  | none, none => true
  | some v, some w => aw_sub v w
  | _, _ => false) && ah_sub S.2.2 q.2.2)
def ai_ret (c : ak_C) (ret : Option FieldType) (i : Instr) (n : Nat) (S : aw_S) : Bool := decide (n = 1) && (match i, S.2.1, ret with
  | .ireturn, [(.inr (false, r), _)], some .int => ai_end c (some (.inr (false, r))) S
  | .ireturn, [(.inr (false, r), _)], some .boolean => ar_sub r [(0, 1)] && ai_end c (some (.inr (false, r))) S
  | .lreturn, [(.inr (true, r), _)], some .long => ai_end c (some (.inr (true, r))) S
  | .return_, [], none => ai_end c none S
  | _, _, _ => false)
def ai_isret (i : Instr) : Bool := match i with
  | .ireturn => true
  | .lreturn => true
  | .return_ => true
  | _ => false
/-- cells of which a global word is said: no step of a checked method writes them -/
def ai_pc : List Nat := [43, 44, 45, 48, 49, 50, 52, 53, 54, 56, 57, 58]
/-- the next states: a call's, or a step's -/
def ai_nx (cs : List ak_C) (B : sm_P) (WR wd : List Nat) (nf : Nat) (i : Instr) (n pc : Nat) (S : aw_S) : Option (List (Nat × aw_S)) := match ak_call cs B.2.2.1 WR i n pc S with
  | some l => some l
  | none => aw_step B.2.1 B.1 wd nf i n pc S
/-- a place's number, apart from lo to hi, and the rest -/
def ai_r (g : aw_G) (S : aw_S) : Option ar_R := match g with
  | some (0, j, _) => (match sm_lk S.1 j with
    | some (.inr (_, r)) => some r
    | _ => none)
  | some (1, a, k) => (match sm_lk S.2.2 a with
    | some (.inl (_, vs)) => (match vs[k]? with
      | some (.inr (_, r)) => some r
      | _ => none)
    | _ => none)
  | some (2, a, j) => (match sm_lk S.2.2 a with
    | some (.inr (.inl (_, _, _, tr))) => sm_lk tr j
    | _ => none)
  | _ => none
def ai_fl (g : aw_G) (r : ar_R) (S : aw_S) : Nat → Int → List aw_S
  | 0, v => if (ar_ge r v).isEmpty then [] else [aw_rf g (ar_ge r v) S]
  | n + 1, v => (if (ar_ge (ar_le r v) v).isEmpty then [] else [aw_rf g (ar_ge (ar_le r v) v) S]) ++ ai_fl g r S n (v + 1)
def ai_fk (g : aw_G) (lo : Int) (n : Nat) (S : aw_S) : Option (List aw_S) := (ai_r g S).bind fun r => some ((if (ar_le r (lo - 1)).isEmpty then [] else [aw_rf g (ar_le r (lo - 1)) S]) ++ ai_fl g r S n lo)
theorem ai_fl_s {g : aw_G} {r : ar_R} {S : aw_S} {lv : sm_L} {st : List Value} {h : List va_E} {w : Value} {z : Int} (hok : aw_ok S lv st h) (hg : aw_t lv h g w) (hz : aw_z w = some z) (hr : ar_in z r) : ∀ {n : Nat} {v : Int}, v ≤ z → ∃ S' ∈ ai_fl g r S n v, aw_ok S' lv st h
  | 0, v, hv => by
    have a := ar_ge_s hr hv
    refine ⟨_, ?_, aw_rf_s hok hg hz a⟩
    unfold ai_fl
    rw [aw_ne a]
    exact List.mem_cons_self
  | n + 1, v, hv => by
    by_cases e : z = v
    · subst e
      have a := ar_ge_s (ar_le_s hr (Int.le_refl z)) (Int.le_refl z)
      refine ⟨_, List.mem_append_left _ ?_, aw_rf_s hok hg hz a⟩
      rw [aw_ne a]
      exact List.mem_cons_self
    · obtain ⟨S', h1, h2⟩ := ai_fl_s (n := n) (v := v + 1) hok hg hz hr (by omega)
      exact ⟨S', List.mem_append_right _ h1, h2⟩
theorem ai_fk_s {g : aw_G} {lo : Int} {n : Nat} {S : aw_S} {l : List aw_S} {lv : sm_L} {st : List Value} {h : List va_E} (e : ai_fk g lo n S = some l) (hok : aw_ok S lv st h) : ∃ S' ∈ l, aw_ok S' lv st h := by
  obtain ⟨r, hr, e⟩ := sm_bd e
  cases e
  have key : ∃ w z, aw_t lv h g w ∧ aw_z w = some z ∧ ar_in z r := by
    unfold ai_r at hr
    split at hr
    · rename_i j y
      split at hr
      · rename_i b r' hl
        cases hr
        obtain ⟨w, hw, hm⟩ := hok.1 _ (aw_lk hl)
        cases b with
        | false => obtain ⟨x, rfl, hx⟩ := hm; exact ⟨_, _, ⟨_, hw, rfl⟩, rfl, hx⟩
        | true => obtain ⟨x, rfl, hx⟩ := hm; exact ⟨_, _, ⟨_, hw, rfl⟩, rfl, hx⟩
      · cases hr
    · rename_i a k
      split at hr
      · rename_i ci vs hl
        split at hr
        · rename_i b r' hv
          cases hr
          obtain ⟨e0, he, fs, rfl, h1, h2⟩ := hok.2.2 _ (aw_lk hl)
          have hlt : k < fs.length := by rw [h1]; exact (List.getElem?_eq_some_iff.mp hv).1
          have hm := h2 k _ _ hv (List.getElem?_eq_getElem hlt)
          cases b with
          | false => obtain ⟨x, hx0, hx⟩ := hm; exact ⟨.int x, _, ⟨_, _, _, he, List.getElem?_eq_getElem hlt, by rw [hx0]⟩, rfl, hx⟩
          | true => obtain ⟨x, hx0, hx⟩ := hm; exact ⟨.long x, _, ⟨_, _, _, he, List.getElem?_eq_getElem hlt, by rw [hx0]⟩, rfl, hx⟩
        · cases hr
      · cases hr
    · rename_i a j
      split at hr
      · rename_i t n' sg tr hl
        obtain ⟨e0, he, f, rfl, h1, h2⟩ := hok.2.2 _ (aw_lk hl)
        have h3 := h2 _ (aw_lk hr)
        exact ⟨.int (f j), (f j).toInt, ⟨_, _, _, he, h3.1, rfl⟩, rfl, h3.2⟩
      · cases hr
    · cases hr
  obtain ⟨w, z, hg, hz, hin⟩ := key
  by_cases hlt : z ≤ lo - 1
  · have a := ar_le_s hin hlt
    refine ⟨_, List.mem_append_left _ ?_, aw_rf_s hok hg hz a⟩
    rw [aw_ne a]
    exact List.mem_cons_self
  · obtain ⟨S', h1, h2⟩ := ai_fl_s (n := n) (v := lo) hok hg hz hin (by omega)
    exact ⟨S', List.mem_append_right _ h1, h2⟩
def ai_go (cs : List ak_C) (c : ak_C) (B : sm_P) (wd : List Nat) (nf : Nat) (hd : List Nat) (fk : List (Nat × aw_G × Int × Nat)) (nodes : List (Nat × aw_S)) : Nat → Bool → Nat → aw_S → Bool
  | 0, _, _, _ => false
  | f + 1, first, pc, S => if first = false ∧ hd.contains pc = true then nodes.any fun u => decide (u.1 = pc) && as_sub S u.2
    else match (if first then none else sm_lk fk pc) with
    | some q => (match ai_fk q.1 q.2.1 q.2.2 S with
      | none => false
      | some l => l.all fun S' => ai_go cs c B wd nf hd fk nodes f true pc S')
    | none => match B.1 pc with
    | none => false
    | some (i, n) => if ai_isret i then ai_ret c B.2.2.2 i n S else match ai_nx cs B c.2.2.2.1 wd nf i n pc S with
      | none => false
      | some l => l.all fun u => ai_go cs c B wd nf hd fk nodes f false u.1 u.2
def ai_nds (cs : List ak_C) (c : ak_C) (B : sm_P) (wd : List Nat) (nf : Nat) (hd : List Nat) (fk : List (Nat × aw_G × Int × Nat)) (fuel : Nat) : List (Nat × aw_S) → Bool
  | [] => true
  | u :: us => ai_go cs c B wd nf hd fk us fuel true u.1 u.2 && ai_nds cs c B wd nf hd fk fuel us
/-- a method is checked against its contract: its nodes, the first one its entry -/
def ai_chk (cs : List ak_C) (c : ak_C) (B : sm_P) (wd : List Nat) (nL nf : Nat) (hd : List Nat) (fk : List (Nat × aw_G × Int × Nat)) (fuel : Nat) (us : List (Nat × aw_S)) : Bool := (wd.all fun a => decide (a ∈ c.2.2.2.1) && !decide (a ∈ ai_pc)) && (decide (ai_n c.2.1 0 ≤ nL) && ((decide (nf = 0 ∨ nf = ai_n c.2.1 0) && (decide (nf = ai_n c.2.1 0) || c.2.2.2.2.all fun q => q.1.all fun r => r.isEmpty)) && ai_nds cs c B wd nf hd fk fuel ((0, ai_lv c.2.1 0, [], c.2.2.1) :: us)))
section AI
variable {cs : List ak_C} {c : ak_C} {B : sm_P} {X : sm_X} {wd : List Nat} {nf : Nat} {hd : List Nat} {fk : List (Nat × aw_G × Int × Nat)} {Psi : List va_E → Prop}
/-- it comes to an end, and a good one -/
def ai_G (c : ak_C) (B : sm_P) (X : sm_X) (Psi : List va_E → Prop) (vs : List Value) (h0 : List va_E) (pc : Nat) (lv : sm_L) (st : List Value) (h : List va_E) : Prop := ∃ f o h', sm_rn B X f pc lv st h o h' ∧ Psi h' ∧ (∀ a, a ∉ c.2.2.2.1 → h'[a]? = h0[a]?) ∧ ak_end c vs o h'
/-- what stays: cells that may not be written, the global word, the arguments' locals -/
def ai_I (c : ak_C) (Psi : List va_E → Prop) (nf : Nat) (lv0 : sm_L) (h0 : List va_E) (lv : sm_L) (h : List va_E) : Prop := (∀ a, a ∉ c.2.2.2.1 → h[a]? = h0[a]?) ∧ Psi h ∧ ∀ (j : Nat) (w : Value), j < nf → (w.category = 2 → j + 1 < nf) → sm_get lv0 j = some w → sm_get lv j = some w
theorem ai_end_s {v : Option aw_V} {S : aw_S} {lv lv0 : sm_L} {h h0 : List va_E} {o : Option Value} {vs : List Value} (hv : ak_res v o) (hL : aw_l S.1 lv) (hH : aw_h S.2.2 h) (e : ai_end c v S = true) (hrf : ∀ rs : List ar_R, (∃ q ∈ c.2.2.2.2, q.1 = rs) → ai_rf (ai_sl c.2.1 0) rs S.1 = true → ak_rf rs vs) : ak_end c vs o h := by
  obtain ⟨q, hq, e⟩ := List.any_eq_true.mp e
  obtain ⟨e1, e⟩ := sm_an e
  obtain ⟨e2, e3⟩ := sm_an e
  refine ⟨q, hq, hrf q.1 ⟨q, hq, rfl⟩ e1, ?_, ah_sub_s e3 hH⟩
  cases hqv : q.2.1 with
  | none =>
    rw [hqv] at e2
    cases v with
    | none => exact hv
    | some v => cases e2
  | some w =>
    rw [hqv] at e2
    cases v with
    | none => cases e2
    | some v =>
      cases o with
      | none => exact hv.elim
      | some x => exact aw_sub_s e2 hv
theorem ai_rf_s {lv : sm_L} {L : aw_L} (hL : aw_l L lv) : ∀ {as : List aw_V} {vs : List Value} {i : Nat} {rs : List ar_R}, ak_as as vs → (∀ (j : Nat) (w : Value), (j, w) ∈ lv_args i vs → sm_get lv j = some w) → ai_rf (ai_sl as i) rs L = true → ak_rf rs vs
  | [], [], i, [], _, _, _ => trivial
  | [], [], i, _ :: _, _, _, e => trivial
  | [], _ :: _, _, _, h, _, _ => h.elim
  | _ :: _, [], _, _, h, _, _ => h.elim
  | _ :: _, _ :: _, _, [], _, _, _ => trivial
  | a :: as, w :: vs, i, r :: rs, h, hf, e => by
    obtain ⟨e1, e2⟩ := sm_an e
    have hc : w.category = aw_cat a := aw_cat_s h.1
    refine ⟨fun hne z hz => ?_, ai_rf_s (i := if aw_cat a = 2 then i + 2 else i + 1) hL h.2 (fun j w' hm => hf j w' ?_) e2⟩
    · rw [hne, Bool.false_or] at e1
      split at e1
      · rename_i b x hl
        obtain ⟨w', hw', hm⟩ := hL _ (aw_lk hl)
        have hw := hf i w List.mem_cons_self
        have ee := Option.some.inj (hw'.symm.trans hw)
        subst ee
        cases b with
        | false => obtain ⟨y, rfl, hy⟩ := hm; cases hz; exact ar_sub_s e1 hy
        | true => obtain ⟨y, rfl, hy⟩ := hm; cases hz; exact ar_sub_s e1 hy
      · cases e1
    · rw [← hc] at hm
      exact List.mem_cons_of_mem _ hm
theorem ai_rf_0 : ∀ {rs : List ar_R} {vs : List Value}, (rs.all fun r => r.isEmpty) = true → ak_rf rs vs
  | [], _, _ => by unfold ak_rf; trivial
  | _ :: _, [], _ => trivial
  | r :: rs, w :: vs, h => by
    obtain ⟨h1, h2⟩ := sm_an h
    have h1 : r.isEmpty = true := h1
    exact ⟨fun z => (by rw [h1] at z; cases z), ai_rf_0 h2⟩
theorem ai_ret_s {ret : Option FieldType} {i : Instr} {n : Nat} {S : aw_S} {lv : sm_L} {h : List va_E} {st : List Value} (e : ai_ret c ret i n S = true) (hst : aw_s lv h S.2.1 st) : ∃ v o, ak_res v o ∧ sm_ret ret i n st o ∧ ai_end c v S = true := by
  unfold ai_ret at e
  obtain ⟨e1, e2⟩ := sm_an e
  clear e
  have en := of_decide_eq_true e1
  clear e1
  subst en
  have one : ∀ {v : aw_V × aw_G}, aw_s lv h [v] st → ∃ w, st = [w] ∧ aw_m v.1 w := by
    intro v hs
    obtain ⟨w, ws, hw, hm, -, hr⟩ := aw_s1 hs
    cases ws with
    | cons _ _ => exact hr.elim
    | nil => exact ⟨w, hw, hm⟩
  split at e2
  · rename_i r g hs
    rw [hs] at hst
    obtain ⟨w, rfl, x, rfl, hx⟩ := one hst
    exact ⟨some (.inr (false, r)), some (.int x), ⟨x, rfl, hx⟩, ⟨rfl, Or.inl ⟨rfl, x, rfl, rfl, Or.inl rfl⟩⟩, e2⟩
  · rename_i r g hs
    obtain ⟨e0, e3⟩ := sm_an e2
    rw [hs] at hst
    obtain ⟨w, rfl, x, rfl, hx⟩ := one hst
    have h01 : x = 0 ∨ x = 1 := by
      obtain ⟨q, hq, q1, q2⟩ := ar_sub_s e0 hx
      rw [List.mem_singleton] at hq
      subst hq
      rcases (show x.toInt = 0 ∨ x.toInt = 1 by dsimp only at q1 q2; omega) with hz | hz
      · exact Or.inl (Int32.toInt_inj.mp (by rw [hz]; rfl))
      · exact Or.inr (Int32.toInt_inj.mp (by rw [hz]; rfl))
    exact ⟨some (.inr (false, r)), some (.int x), ⟨x, rfl, hx⟩, ⟨rfl, Or.inl ⟨rfl, x, rfl, rfl, Or.inr ⟨rfl, h01⟩⟩⟩, e3⟩
  · rename_i r g hs
    rw [hs] at hst
    obtain ⟨w, rfl, x, rfl, hx⟩ := one hst
    exact ⟨some (.inr (true, r)), some (.long x), ⟨x, rfl, hx⟩, ⟨rfl, Or.inr (Or.inl ⟨rfl, x, rfl, rfl, rfl⟩)⟩, e2⟩
  · rename_i hs
    rw [hs] at hst
    cases st with
    | cons _ _ => exact hst.elim
    | nil => exact ⟨none, none, trivial, ⟨rfl, Or.inr (Or.inr ⟨rfl, rfl, rfl, rfl⟩)⟩, e2⟩
  · cases e2
set_option maxHeartbeats 2000000 in
theorem ai_go_s (hcs : ∀ c ∈ cs, ak_ok Psi X c) (hwd : ∀ a, a ∈ wd → a ∈ c.2.2.2.1) (hPsi : ∀ (h : List va_E) (a : Nat) (e : va_E), a ∈ wd → Psi h → Psi (h.set a e)) {vs : List Value} {lv0 : sm_L} {h0 : List va_E}
    (hfz : ∀ (rs : List ar_R) (L : aw_L) (lv : sm_L), (∃ q ∈ c.2.2.2.2, q.1 = rs) → aw_l L lv → (∀ (j : Nat) (w : Value), j < nf → (w.category = 2 → j + 1 < nf) → sm_get lv0 j = some w → sm_get lv j = some w) → ai_rf (ai_sl c.2.1 0) rs L = true → ak_rf rs vs)
    {nodes : List (Nat × aw_S)} (hn : ∀ u ∈ nodes, ∀ (lv : sm_L) (st : List Value) (h : List va_E), aw_ok u.2 lv st h → ai_I c Psi nf lv0 h0 lv h → ai_G c B X Psi vs h0 u.1 lv st h) :
    ∀ (f : Nat) (first : Bool) (pc : Nat) (S : aw_S), ai_go cs c B wd nf hd fk nodes f first pc S = true → ∀ (lv : sm_L) (st : List Value) (h : List va_E), aw_ok S lv st h → ai_I c Psi nf lv0 h0 lv h → ai_G c B X Psi vs h0 pc lv st h := by
  intro f
  induction f with
  | zero => intro first pc S e; cases e
  | succ f ih =>
    intro first pc S e lv st h hok hI
    unfold ai_go at e
    split at e
    · obtain ⟨u, hu, e⟩ := List.any_eq_true.mp e
      obtain ⟨e1, e2⟩ := sm_an e
      have e1 := of_decide_eq_true e1
      subst e1
      exact hn u hu lv st h (as_sub_s e2 hok) hI
    · split at e
      · split at e
        · cases e
        · rename_i l hl
          obtain ⟨S', s1, s2⟩ := ai_fk_s hl hok
          exact ih true pc S' (List.all_eq_true.mp e S' s1) lv st h s2 hI
      · split at e
        · cases e
        · rename_i i n hB
          split at e
          · have fin : ∀ (v : Option aw_V) (o : Option Value), ak_res v o → sm_ret B.2.2.2 i n st o → ai_end c v S = true → ai_G c B X Psi vs h0 pc lv st h := by
              intro v o hv hr he
              refine ⟨1, o, h, ⟨i, n, hB, Or.inl ⟨hr, rfl⟩⟩, hI.2.1, hI.1, ai_end_s (lv := lv) (lv0 := lv0) (h0 := h0) hv hok.1 hok.2.2 he (fun rs hrs hh => hfz rs S.1 lv hrs hok.1 hI.2.2 hh)⟩
            obtain ⟨v, o, a1, a2, a3⟩ := ai_ret_s e hok.2.1
            exact fin v o a1 a2 a3
          · split at e
            · cases e
            · rename_i l hl
              have go : ∀ u ∈ l, ∀ (lv' : sm_L) (st' : List Value) (h' : List va_E), aw_ok u.2 lv' st' h' → ai_I c Psi nf lv0 h0 lv' h' → ai_G c B X Psi vs h0 u.1 lv' st' h' := fun u hu lv' st' h' o1 o2 => ih false u.1 u.2 (List.all_eq_true.mp e u hu) lv' st' h' o1 o2
              unfold ai_nx at hl
              split at hl
              · rename_i l' hcall
                cases hl
                obtain ⟨k, vs1, r, o, h', x1, x2, x3, x4, u, hu, u1, u2⟩ := ak_call_s hcs hcall hok hI.2.1
                obtain ⟨f', o', h'', g1, g2⟩ := go u hu lv _ h' u2 ⟨fun a ha => (x4 a ha).trans (hI.1 a ha), x3, hI.2.2⟩
                rw [u1] at g1
                exact ⟨f' + 1, o', h'', ⟨i, n, hB, Or.inr (Or.inr ⟨k, vs1, r, o, h', x1, x2, g1⟩)⟩, g2⟩
              · refine aw_sound (tb := B.1) (K := B.2.1) (WR := wd) (nf := nf) (Psi := Psi) (G := fun pc lv st h => ai_G c B X Psi vs h0 pc lv st h) ?_ hPsi hB hl hok hI.2.1 ?_
                · intro pc i n lv st h t h1 h2 h3
                  obtain ⟨f', o', h'', g1, g2⟩ := h3
                  exact ⟨f' + 1, o', h'', ⟨i, n, h1, Or.inr (Or.inl ⟨t, h2, g1⟩)⟩, g2⟩
                · intro u hu lv' st' h' o1 o2 o3 o4
                  exact go u hu lv' st' h' o1 ⟨fun a ha => (o2 a (fun z => ha (hwd a z))).trans (hI.1 a ha), o3, fun j w a1 a2 a3 => o4 j w a1 a2 (hI.2.2 j w a1 a2 a3)⟩
theorem ai_lv_s : ∀ {as : List aw_V} {vs : List Value} {i : Nat}, ak_as as vs → ∀ q ∈ ai_lv as i, ∃ w, (q.1, w) ∈ lv_args i vs ∧ aw_m q.2 w
  | [], _, _, _, q, hq => absurd hq List.not_mem_nil
  | _ :: _, [], _, h, _, _ => h.elim
  | a :: as, w :: vs, i, h, q, hq => by
    rcases List.mem_cons.mp hq with rfl | hq
    · exact ⟨w, List.mem_cons_self, h.1⟩
    · obtain ⟨w', h1, h2⟩ := ai_lv_s (i := if aw_cat a = 2 then i + 2 else i + 1) h.2 q hq
      rw [← aw_cat_s h.1] at h1
      exact ⟨w', List.mem_cons_of_mem _ h1, h2⟩
theorem ai_args_ge : ∀ {vs : List Value} {i j : Nat} {w : Value}, (j, w) ∈ lv_args i vs → i ≤ j
  | [], _, _, _, h => absurd h List.not_mem_nil
  | v :: vs, i, j, w, h => by
    rcases List.mem_cons.mp h with h | h
    · cases h; exact Nat.le_refl _
    · have := ai_args_ge h
      split at this <;> omega
theorem ai_get : ∀ {vs : List Value} {i j : Nat} {w : Value}, (j, w) ∈ lv_args i vs → sm_get (lv_args i vs) j = some w
  | [], _, _, _, h => absurd h List.not_mem_nil
  | v :: vs, i, j, w, h => by
    unfold lv_args sm_get
    rcases List.mem_cons.mp h with h | h
    · cases h
      rw [if_pos rfl]
    · have hge := ai_args_ge h
      rw [if_neg (by dsimp only; split at hge <;> omega)]
      exact ai_get h
theorem ai_n_s : ∀ {as : List aw_V} {vs : List Value} {i : Nat}, ak_as as vs → ai_n as i = i + (lg_sl vs).length ∧ ∀ (j : Nat) (w : Value), (j, w) ∈ lv_args i vs → j < ai_n as i ∧ (w.category = 2 → j + 1 < ai_n as i)
  | [], [], i, _ => ⟨rfl, fun _ _ h => absurd h List.not_mem_nil⟩
  | [], _ :: _, _, h => h.elim
  | _ :: _, [], _, h => h.elim
  | a :: as, w :: vs, i, h => by
    have hc := aw_cat_s h.1
    obtain ⟨h1, h2⟩ := ai_n_s (i := if aw_cat a = 2 then i + 2 else i + 1) h.2
    have hl : (lg_sl (w :: vs)).length = (if aw_cat a = 2 then 2 else 1) + (lg_sl vs).length := by
      unfold lg_sl
      rw [List.flatMap_cons, List.length_append, hc]
      split <;> rfl
    refine ⟨?_, fun j w' hm => ?_⟩
    · show ai_n as (if aw_cat a = 2 then i + 2 else i + 1) = _
      rw [h1, hl]
      split <;> omega
    · show j < ai_n as (if aw_cat a = 2 then i + 2 else i + 1) ∧ (w'.category = 2 → j + 1 < ai_n as (if aw_cat a = 2 then i + 2 else i + 1))
      rcases List.mem_cons.mp hm with hm | hm
      · cases hm
        rw [h1]
        refine ⟨by split <;> omega, fun e => ?_⟩
        rw [hc] at e
        rw [if_pos e]
        omega
      · rw [hc] at hm
        exact h2 j w' hm
/-- THE CHECK IS SOUND -/
theorem ai_chk_s {NM d fuel : Nat} {ML : Nat → Nat} {BB : Nat → sm_P} {us : List (Nat × aw_S)} (hk : c.1 < NM) (hcs : ∀ c' ∈ cs, ak_ok Psi (sm_Ex NM ML BB d) c') (hPsi : ∀ (h : List va_E) (a : Nat) (e : va_E), a ∉ ai_pc → Psi h → Psi (h.set a e)) (e : ai_chk cs c (BB c.1) wd (ML c.1) nf hd fk fuel us = true) : ak_ok Psi (sm_Ex NM ML BB (d + 1)) c := by
  obtain ⟨e0, e⟩ := sm_an e
  have hw : ∀ a ∈ wd, a ∈ c.2.2.2.1 ∧ a ∉ ai_pc := by
    intro a ha
    obtain ⟨w1, w2⟩ := sm_an (List.all_eq_true.mp e0 a ha)
    exact ⟨of_decide_eq_true w1, by simpa using w2⟩
  obtain ⟨e1, e⟩ := sm_an e
  obtain ⟨e2, e⟩ := sm_an e
  obtain ⟨e2, e3⟩ := sm_an e2
  have e1 := of_decide_eq_true e1
  have e2 := of_decide_eq_true e2
  intro vs h0 hvs hH hp
  obtain ⟨n1, n2⟩ := ai_n_s (i := 0) hvs
  have hfz : ∀ (rs : List ar_R) (L : aw_L) (lv : sm_L), (∃ q ∈ c.2.2.2.2, q.1 = rs) → aw_l L lv → (∀ (j : Nat) (w : Value), j < nf → (w.category = 2 → j + 1 < nf) → sm_get (lv_args 0 vs) j = some w → sm_get lv j = some w) → ai_rf (ai_sl c.2.1 0) rs L = true → ak_rf rs vs := by
    intro rs L lv hq hL hfr hh
    rcases (Bool.or_eq_true _ _).mp e3 with e3 | e3
    · have e3 := of_decide_eq_true e3
      refine ai_rf_s hL hvs (fun j w hm => ?_) hh
      have := n2 j w hm
      rw [← e3] at this
      exact hfr j w this.1 this.2 (ai_get hm)
    · obtain ⟨q, hq, rfl⟩ := hq
      exact ai_rf_0 (List.all_eq_true.mp e3 q hq)
  have all : ∀ (ns : List (Nat × aw_S)), ai_nds cs c (BB c.1) wd nf hd fk fuel ns = true → ∀ u ∈ ns, ∀ (lv : sm_L) (st : List Value) (h : List va_E), aw_ok u.2 lv st h → ai_I c Psi nf (lv_args 0 vs) h0 lv h → ai_G c (BB c.1) (sm_Ex NM ML BB d) Psi vs h0 u.1 lv st h := by
    intro ns
    induction ns with
    | nil => intro _ u hu; exact absurd hu List.not_mem_nil
    | cons u0 ns ih =>
      intro en u hu lv st h o1 o2
      obtain ⟨en1, en2⟩ := sm_an en
      rcases List.mem_cons.mp hu with rfl | hu
      · exact ai_go_s hcs (fun a ha => (hw a ha).1) (fun h a e ha => hPsi h a e (hw a ha).2) hfz (ih en2) fuel true u.1 u.2 en1 lv st h o1 o2
      · exact ih en2 u hu lv st h o1 o2
  have entry : aw_ok (ai_lv c.2.1 0, [], c.2.2.1) (lv_args 0 vs) [] h0 := by
    refine ⟨fun q hq => ?_, trivial, hH⟩
    obtain ⟨w, h1, h2⟩ := ai_lv_s hvs q hq
    exact ⟨w, ai_get h1, h2⟩
  obtain ⟨f, o, h', g1, g2, g3, g4⟩ := all _ e (0, ai_lv c.2.1 0, [], c.2.2.1) List.mem_cons_self (lv_args 0 vs) [] h0 entry ⟨fun _ _ => rfl, hp, fun _ _ _ _ z => z⟩
  exact ⟨o, h', ⟨hk, by omega, f, g1⟩, g2, g3, g4⟩
end AI
/-! Deeper runs are runs. -/
theorem sm_rn_mono {B : sm_P} {X X' : sm_X} (hX : ∀ k vs h o h', X k vs h o h' → X' k vs h o h') : ∀ (f pc : Nat) (lv : sm_L) (st : List Value) (h : List va_E) (o : Option Value) (h' : List va_E), sm_rn B X f pc lv st h o h' → sm_rn B X' f pc lv st h o h' := by
  intro f
  induction f with
  | zero => intro pc lv st h o h' hr; exact hr
  | succ f ih =>
    intro pc lv st h o h' hr
    obtain ⟨i, n, h1, h2⟩ := hr
    refine ⟨i, n, h1, ?_⟩
    rcases h2 with h2 | ⟨t, h2, h3⟩ | ⟨k, vs, r, o1, h1', h2, h3, h4⟩
    · exact Or.inl h2
    · exact Or.inr (Or.inl ⟨t, h2, ih _ _ _ _ _ _ h3⟩)
    · exact Or.inr (Or.inr ⟨k, vs, r, o1, h1', h2, hX _ _ _ _ _ h3, ih _ _ _ _ _ _ h4⟩)
theorem sm_Ex_succ {NM : Nat} {ML : Nat → Nat} {B : Nat → sm_P} : ∀ (d k : Nat) (vs : List Value) (h : List va_E) (o : Option Value) (h' : List va_E), sm_Ex NM ML B d k vs h o h' → sm_Ex NM ML B (d + 1) k vs h o h' := by
  intro d
  induction d with
  | zero => intro k vs h o h' hx; exact hx.elim
  | succ d ih =>
    intro k vs h o h' hx
    obtain ⟨h1, h2, f, h3⟩ := hx
    exact ⟨h1, h2, f, sm_rn_mono ih f _ _ _ _ _ _ h3⟩
theorem ak_ok_le {Psi : List va_E → Prop} {NM : Nat} {ML : Nat → Nat} {B : Nat → sm_P} {c : ak_C} {d : Nat} (d' : Nat) (hd : d ≤ d') (h : ak_ok Psi (sm_Ex NM ML B d) c) : ak_ok Psi (sm_Ex NM ML B d') c := by
  induction hd with
  | refl => exact h
  | step _ ih =>
    intro vs h0 a b p
    obtain ⟨o, h', x1, x2⟩ := ih vs h0 a b p
    exact ⟨o, h', sm_Ex_succ _ _ _ _ _ _ x1, x2⟩
/-! A long list of nodes, by parts. -/
def ai_nd2 (cs : List ak_C) (c : ak_C) (B : sm_P) (wd : List Nat) (nf : Nat) (hd : List Nat) (fk : List (Nat × aw_G × Int × Nat)) (fuel : Nat) : List (Nat × aw_S) → List (Nat × aw_S) → Bool
  | [], _ => true
  | u :: us, rest => ai_go cs c B wd nf hd fk (us ++ rest) fuel true u.1 u.2 && ai_nd2 cs c B wd nf hd fk fuel us rest
theorem ai_nd2_s {cs : List ak_C} {c : ak_C} {B : sm_P} {wd : List Nat} {nf : Nat} {hd : List Nat} {fk : List (Nat × aw_G × Int × Nat)} {fuel : Nat} {rest : List (Nat × aw_S)} (hr : ai_nds cs c B wd nf hd fk fuel rest = true) : ∀ {us : List (Nat × aw_S)}, ai_nd2 cs c B wd nf hd fk fuel us rest = true → ai_nds cs c B wd nf hd fk fuel (us ++ rest) = true
  | [], _ => hr
  | u :: us, h => by
    obtain ⟨h1, h2⟩ := sm_an h
    show (ai_go cs c B wd nf hd fk (us ++ rest) fuel true u.1 u.2 && ai_nds cs c B wd nf hd fk fuel (us ++ rest)) = true
    rw [h1, ai_nd2_s hr h2]
    rfl
theorem ai_chk_of {cs : List ak_C} {c : ak_C} {B : sm_P} {wd : List Nat} {nL nf : Nat} {hd : List Nat} {fk : List (Nat × aw_G × Int × Nat)} {fuel : Nat} {us : List (Nat × aw_S)} (h1 : ((wd.all fun a => decide (a ∈ c.2.2.2.1) && !decide (a ∈ ai_pc)) && (decide (ai_n c.2.1 0 ≤ nL) && (decide (nf = 0 ∨ nf = ai_n c.2.1 0) && (decide (nf = ai_n c.2.1 0) || c.2.2.2.2.all fun q => q.1.all fun r => r.isEmpty)))) = true) (h2 : ai_nds cs c B wd nf hd fk fuel ([(0, ai_lv c.2.1 0, [], c.2.2.1)] ++ us) = true) : ai_chk cs c B wd nL nf hd fk fuel us = true := by
  obtain ⟨a1, h1⟩ := sm_an h1
  obtain ⟨a2, a3⟩ := sm_an h1
  unfold ai_chk
  rw [a1, a2, a3]
  exact h2
