/-! Worlds out of the flat memory: shape, and bounds by cell and place. -/
/-- bounds: cell, first place, last place, least, most -/
abbrev wo_O : Type := Nat × Nat × Nat × Int × Int
def wo_h (M : fl_M) (o : wo_O) : Prop := ∀ j : Nat, o.2.1 ≤ j → j ≤ o.2.2.1 → o.2.2.2.1 ≤ (M o.1 j).toInt ∧ (M o.1 j).toInt ≤ o.2.2.2.2
def wo_t (p : Int × Int) : Bool := decide (p.1 ≤ -2147483648) && decide (2147483647 ≤ p.2)
def wo_b (a k l : Nat) (r : ar_R) : List wo_O := match r with
  | [p] => if wo_t p = true then [] else [(a, k, l, p.1, p.2)]
  | _ => []
def wo_1 (r : ar_R) : Bool := match r with
  | [_] => true
  | _ => false
def wo_v (a k ci : Nat) (v : aw_V) : Bool := match v with
  | .inl b => Nat.beq b (fl_fr ci a k) && Nat.beq (fl_ty ci k) 2
  | .inr (false, r) => Nat.beq (fl_ty ci k) 0 && wo_1 r
  | .inr (true, [p]) => Nat.beq (fl_ty ci k) 1 && (decide (p.1 ≤ -9223372036854775808) && decide (9223372036854775807 ≤ p.2))
  | _ => false
def wo_c (q : Nat × aw_A) : Bool := match q.2 with
  | .inl (ci, vs) => Nat.beq (fl_kd q.1) (10 + ci) && (Nat.blt ci 4 && (Nat.beq vs.length (fl_nf ci) && (List.range vs.length).all fun k => match vs[k]? with
    | some v => wo_v q.1 k ci v
    | none => true))
  | .inr (.inl (t, n, sg, tr)) => Nat.beq (fl_kd q.1) t && (Nat.blt t 2 && (Nat.beq n (fl_len q.1) && (sg.all (fun z => wo_1 z.2.2) && tr.all (fun z => Nat.blt z.1 n && wo_1 z.2))))
  | .inr (.inr (.inl (t, cs))) => Nat.beq (fl_kd q.1) t && (Nat.ble 2 t && (Nat.blt t 5 && (Nat.beq cs.length (fl_len q.1) && (List.range cs.length).all fun j => match cs[j]? with
    | some b => Nat.beq b (fl_ar q.1 j)
    | none => true)))
  | .inr (.inr (.inr _)) => Nat.blt q.1 98
def wo_f (a k : Nat) (v : Option aw_V) : List wo_O := match v with
  | some (.inr (false, r)) => wo_b a k k r
  | _ => []
def wo_o (q : Nat × aw_A) : List wo_O := match q.2 with
  | .inl (_, vs) => (List.range vs.length).flatMap fun k => wo_f q.1 k vs[k]?
  | .inr (.inl (_, _, sg, tr)) => (sg.flatMap fun z => wo_b q.1 z.1 z.2.1 z.2.2) ++ tr.flatMap fun z => wo_b q.1 z.1 z.1 z.2
  | _ => []
theorem wo_in {M : fl_M} {a k l : Nat} {r : ar_R} (h1 : wo_1 r = true) (ho : ∀ o ∈ wo_b a k l r, wo_h M o) {j : Nat} (hj : k ≤ j) (hl : j ≤ l) : ar_in (M a j).toInt r := by
  match r, h1 with
  | [p], _ =>
    refine ⟨p, List.mem_singleton.mpr rfl, ?_⟩
    by_cases ht : wo_t p = true
    · obtain ⟨t1, t2⟩ := sm_an ht
      have t1 := of_decide_eq_true t1
      have t2 := of_decide_eq_true t2
      have := (M a j).le_toInt
      have := (M a j).toInt_lt
      exact ⟨by omega, by omega⟩
    · have := ho (a, k, l, p.1, p.2) (by unfold wo_b; dsimp only; rw [if_neg ht]; exact List.mem_singleton.mpr rfl) j hj hl
      exact this
theorem wo_ni {M : fl_M} {a k l : Nat} {r : ar_R} (h : ∀ j : Nat, k ≤ j → j ≤ l → ar_in (M a j).toInt r) : ∀ o ∈ wo_b a k l r, wo_h M o := by
  intro o ho
  match r, ho with
  | [p], ho =>
    unfold wo_b at ho
    dsimp only at ho
    by_cases ht : wo_t p = true
    · rw [if_pos ht] at ho
      exact absurd ho List.not_mem_nil
    · rw [if_neg ht] at ho
      rw [List.mem_singleton.mp ho]
      intro j h1 h2
      obtain ⟨q, hq, e⟩ := h j h1 h2
      rw [List.mem_singleton.mp hq] at e
      exact e
  | [], ho => exact absurd ho List.not_mem_nil
  | _ :: _ :: _, ho => exact absurd ho List.not_mem_nil
theorem wo_rg {n : Nat} {p : Nat → Bool} (h : (List.range n).all p = true) {k : Nat} (hk : k < n) : p k = true := List.all_eq_true.mp h k (List.mem_range.mpr hk)
theorem wo_nb {a b : Nat} (h : Nat.beq a b = true) : a = b := Nat.eq_of_beq_eq_true h
theorem wo_nl {a b : Nat} (h : Nat.blt a b = true) : a < b := Nat.le_of_ble_eq_true h
/-- shape and bounds give the word of a cell -/
theorem wo_s {q : Nat × aw_A} {h : List va_E} (hh : fl_sh h) (hc : wo_c q = true) (ho : ∀ o ∈ wo_o q, wo_h (fm_i h) o) : ∃ e, h[q.1]? = some e ∧ aw_c q.2 e := by
  obtain ⟨a, c⟩ := q
  match c, hc, ho with
  | .inl (ci, vs), hc, ho =>
    obtain ⟨c1, hc⟩ := sm_an hc
    obtain ⟨c2, hc⟩ := sm_an hc
    obtain ⟨c3, hc⟩ := sm_an hc
    have c1 : fl_kd a = 10 + ci := wo_nb c1
    obtain ⟨fs, hfs, hl⟩ := fw_obj hh c1 (wo_nl c2)
    have he := sm_obj_s hfs
    refine ⟨_, he, fs, rfl, hl.trans (wo_nb c3).symm, fun k v w hk hw => ?_⟩
    have hkl : k < vs.length := by
      rcases Nat.lt_or_ge k vs.length with z | z
      · exact z
      · rw [List.getElem?_eq_none z] at hk
        cases hk
    have hv := wo_rg hc hkl
    dsimp only at hv
    rw [hk] at hv
    have ht := fl_ty_int hh he hw
    unfold fl_tv at ht
    match v, hv, hk with
    | .inl b, hv, _ =>
      obtain ⟨v1, v2⟩ := sm_an hv
      rw [wo_nb v2] at ht
      rw [show b = fl_fr ci a k from wo_nb v1]
      exact ht
    | .inr (false, r), hv, hk =>
      obtain ⟨v1, v2⟩ := sm_an hv
      rw [wo_nb v1] at ht
      obtain ⟨x, rfl⟩ := ht
      refine ⟨x, rfl, ?_⟩
      rw [← fm_i_fld hh he hw]
      refine wo_in (k := k) (l := k) v2 (fun o hb => ho o ?_) (Nat.le_refl _) (Nat.le_refl _)
      exact List.mem_flatMap.mpr ⟨k, List.mem_range.mpr hkl, by rw [hk]; exact hb⟩
    | .inr (true, [p]), hv, _ =>
      obtain ⟨v1, v2⟩ := sm_an hv
      obtain ⟨v2, v3⟩ := sm_an v2
      rw [wo_nb v1] at ht
      obtain ⟨x, rfl⟩ := ht
      have v2 := of_decide_eq_true v2
      have v3 := of_decide_eq_true v3
      have := x.le_toInt
      have := x.toInt_lt
      exact ⟨x, rfl, p, List.mem_singleton.mpr rfl, by omega, by omega⟩
  | .inr (.inl (t, n, sg, tr)), hc, ho =>
    obtain ⟨c1, hc⟩ := sm_an hc
    obtain ⟨c2, hc⟩ := sm_an hc
    obtain ⟨c3, hc⟩ := sm_an hc
    obtain ⟨c4, c5⟩ := sm_an hc
    have c1 : fl_kd a = t := wo_nb c1
    have c2 := wo_nl c2
    have he := fw_arr hh c1 c2 (fw_98 c1 (by omega))
    rw [← show n = fl_len a from wo_nb c3] at he
    refine ⟨_, he, _, rfl, fun z hz j h1 h2 => ?_, fun z hz => ?_⟩
    · exact wo_in (List.all_eq_true.mp c4 z hz) (fun o hb => ho o (List.mem_append.mpr (Or.inl (List.mem_flatMap.mpr ⟨z, hz, hb⟩)))) h1 h2
    · obtain ⟨d1, d2⟩ := sm_an (List.all_eq_true.mp c5 z hz)
      exact ⟨wo_nl d1, wo_in d2 (fun o hb => ho o (List.mem_append.mpr (Or.inr (List.mem_flatMap.mpr ⟨z, hz, hb⟩)))) (Nat.le_refl _) (Nat.le_refl _)⟩
  | .inr (.inr (.inl (t, cs))), hc, ho =>
    obtain ⟨c1, hc⟩ := sm_an hc
    obtain ⟨c2, hc⟩ := sm_an hc
    obtain ⟨c3, hc⟩ := sm_an hc
    obtain ⟨c4, c5⟩ := sm_an hc
    have c1 : fl_kd a = t := wo_nb c1
    have c2 : 2 ≤ t := Nat.le_of_ble_eq_true c2
    have c3 := wo_nl c3
    obtain ⟨f, he, hf⟩ := fw_refs hh c1 c2 c3 (fw_98 c1 (by omega))
    have c4 : cs.length = fl_len a := wo_nb c4
    rw [← c4] at he hf
    refine ⟨_, he, c2, c3, f, rfl, fun j b hb => ?_⟩
    have hjl : j < cs.length := by
      rcases Nat.lt_or_ge j cs.length with z | z
      · exact z
      · rw [List.getElem?_eq_none z] at hb
        cases hb
    have hv := wo_rg c5 hjl
    dsimp only at hv
    rw [hb] at hv
    rw [hf j hjl, show b = fl_ar a j from wo_nb hv]
  | .inr (.inr (.inr _)), hc, _ =>
    have hc : a < 98 := wo_nl hc
    exact ⟨_, List.getElem?_eq_getElem (show a < h.length by rw [hh.1]; exact hc), trivial⟩
/-- and the other way: the bounds of a cell's word -/
theorem wo_r {q : Nat × aw_A} {h : List va_E} (hh : fl_sh h) {e : va_E} (he : h[q.1]? = some e) (hc : aw_c q.2 e) : ∀ o ∈ wo_o q, wo_h (fm_i h) o := by
  obtain ⟨a, c⟩ := q
  intro o ho
  match c, hc, ho with
  | .inl (ci, vs), hc, ho =>
    obtain ⟨fs, rfl, hl, hv⟩ := hc
    obtain ⟨k, hk, ho⟩ := List.mem_flatMap.mp ho
    have hk := List.mem_range.mp hk
    match hvk : vs[k]?, ho with
    | some (.inr (false, r)), ho =>
      have hf : fs[k]? = some fs[k] := List.getElem?_eq_getElem (by rw [hl]; exact hk)
      obtain ⟨x, hx, hr⟩ := hv k _ _ hvk hf
      refine wo_ni (fun j h1 h2 => ?_) o ho
      have : j = k := Nat.le_antisymm h2 h1
      subst this
      rw [fm_i_fld hh he (hf.trans (congrArg some hx))]
      exact hr
    | some (.inr (true, r)), ho => exact absurd ho List.not_mem_nil
    | some (.inl _), ho => exact absurd ho List.not_mem_nil
    | none, ho => exact absurd ho List.not_mem_nil
  | .inr (.inl (t, n, sg, tr)), hc, ho =>
    obtain ⟨f, rfl, h1, h2⟩ := hc
    have hm := fm_i_arr hh he
    have hm : fm_i h a = f := hm
    rcases List.mem_append.mp ho with ho | ho
    · obtain ⟨z, hz, ho⟩ := List.mem_flatMap.mp ho
      exact wo_ni (fun j g1 g2 => by rw [hm]; exact h1 z hz j g1 g2) o ho
    · obtain ⟨z, hz, ho⟩ := List.mem_flatMap.mp ho
      refine wo_ni (fun j g1 g2 => ?_) o ho
      have : j = z.1 := Nat.le_antisymm g2 g1
      rw [hm, this]
      exact (h2 z hz).2
  | .inr (.inr (.inl _)), _, ho => exact absurd ho List.not_mem_nil
  | .inr (.inr (.inr _)), _, ho => exact absurd ho List.not_mem_nil
theorem wo_hs {H : aw_H} {h : List va_E} (hh : fl_sh h) (hc : H.all wo_c = true) (ho : ∀ o ∈ H.flatMap wo_o, wo_h (fm_i h) o) : aw_h H h := fun q hq => wo_s hh (List.all_eq_true.mp hc q hq) (fun o hb => ho o (List.mem_flatMap.mpr ⟨q, hq, hb⟩))
theorem wo_hr {H : aw_H} {h : List va_E} (hh : fl_sh h) (hH : aw_h H h) : ∀ o ∈ H.flatMap wo_o, wo_h (fm_i h) o := by
  intro o ho
  obtain ⟨q, hq, ho⟩ := List.mem_flatMap.mp ho
  obtain ⟨e, he, hc⟩ := hH q hq
  exact wo_r hh he hc o ho
/-- the deeds' word, over numbers -/
def wo_p (M : fl_M) : Prop := ∀ c : Nat, (c = 42 ∨ c = 47 ∨ c = 51 ∨ c = 55) → ∀ d : Nat, d < 40 → (M (c + 1) d).toInt = 1 → 0 ≤ (M (c + 2) d).toInt ∧ (M (c + 2) d).toInt ≤ 7
