theorem si_ret : ∀ k, k < 4 → decode (si_CC k) (si_stop k) = .ok (.return_, 1) := by
  intro k hk
  match k, hk with
  | 0, _ => exact si_dec 0 _ _ _ (by decide +kernel)
  | 1, _ => exact si_dec 1 _ _ _ (by decide +kernel)
  | 2, _ => exact si_dec 2 _ _ _ (by decide +kernel)
  | 3, _ => exact si_dec 3 _ _ _ (by decide +kernel)
  | n + 4, h => omega
set_option maxHeartbeats 4000000 in
theorem si_met {l : Launch} {D : va_G} {cid : Nat → ClassId} {ad : Nat → Nat} {X : si_X} {k a : Nat} {hh hhf : List si_E} {lvf : sm_L} (hk : k < 4) (hX : ∀ k a hh hh' ad, X k a hh = some hh' → si_C l D cid ad k hh a hh') (hr : si_rn (si_B k) X (si_stop k) (si_F k) 0 [(0, .ref a)] [] hh = some (lvf, hhf)) : si_C l D cid ad k hh a hhf := by
  intro sz
  refine Met.ofW (cc := si_CC k) (maxL := si_ML k) (ret := none) ?_ rfl ?_
  · match k, hk with
    | 0, _ => decide
    | 1, _ => decide
    | 2, _ => decide
    | 3, _ => decide
    | n + 4, h => omega
  intro p e s m args below meth c s₁ Bd hml hv
  obtain ⟨rfl, ⟨hsz, hP, hK, hD0, hZ, hT, hN⟩, hN2⟩ := hv
  have hx := Bd.exec
  have hb := Bd.bytes
  have hrr := Bd.returns
  have hts := atoms_spec (ws := si_ws k) Bd.pre
  have hown : s.vm.findClass (sm_own k) = some m.cls := findClass_of_methodNamed Bd.named
  have hin : meth.name = "<init>" := (name_of_methodNamed Bd.named Bd.method).1
  subst hsz
  have hD := hD0.self (sz := s.heap.size)
  generalize hAe : va_A (sm_w cid ad (si_h hh)) s.heap.size = A at hD hZ hT ⊢
  have hA : ∀ q : Nat, s.heap.size ≤ q → A q := fun q h => by rw [← hAe]; exact Or.inr h
  have hS : va_S A s.heap s.heap [] := va_S.rf
  have hML : 1 ≤ si_ML k := by
    unfold si_ML
    split <;> decide
  have hl := lv_entry [.ref (ad a)] (n := si_ML k) hML
  rw [lg_entry_eq]
  generalize (lg_sl [Value.ref (ad a)] ++ List.replicate (si_ML k - (lg_sl [Value.ref (ad a)]).length) Slot.unset).toArray = ls at hl ⊢
  have hTb : ∀ w ∈ sm_tb, w ∈ si_ws k := fun w hw => List.mem_cons_of_mem _ hw
  have hfr : 1 ≤ (si_rm k).frames ∧ 100 ≤ (si_rm k).locals := by
    unfold si_rm
    constructor
    · show 1 ≤ if k < 2 then 1 else 2
      split <;> omega
    · show 100 ≤ if k < 2 then 100 else 200
      split <;> omega
  have O := sm_Ook k (si_ML k) (by omega) (fun _ => none) none none
  have E : ∀ ad' : Nat → Nat, ad' 998 = ad 998 → ad' 999 = ad 999 → sm_Env p (headSpec (si_ws k) (si_rm k)).room s m [Value.ref (ad a)].toArray c (si_CC k) (sm_own k) D sm_cl cid ad' (si_ws k) (si_B k).2.1 A := fun ad' _ h9 =>
    sm_env (p := p) (R := (headSpec (si_ws k) (si_rm k)).room) (A := A) (cid := cid) (ad := ad') (D := D) O (Ts := si_ws k) hTb hts hx hb hown hml hK (by rw [h9]; exact hZ) (by rw [h9]; exact hT) (fun q hq => by cases hq) hfr hN
  refine si_sims (B := si_B k) (o := k) (nL := si_ML k) (scr := none) (X := X) (stop := si_stop k) (b0 := ad 998) (k0 := ad 999) (n0 := hh.length) (ad0 := ad) (lvf := lvf) (hhf := hhf) E rfl rfl (by omega) hA (si_nf (fun w hw => hts w (hTb w hw)) rfl rfl rfl rfl) hN2 hTb (fun _ => hin) (fun pc i n h => si_dec k pc i n h) (si_calB hts hTb hN2 (fun h2 => by
    show 2 ≤ (if k < 2 then 1 else 2) ∧ 200 ≤ (if k < 2 then 100 else 200)
    rw [if_neg (by omega), if_neg (by omega)]
    exact ⟨Nat.le_refl _, Nat.le_refl _⟩) hk) hX ?_ (si_F k) 0 [(0, .ref a)] [] hh ad ls s.heap [] 0 0 rfl rfl (fun _ _ => rfl) (Nat.le_refl _) hr (by show 0 + si_F k * si_c1 k ≤ si_mc k; unfold si_mc; omega) (by show 0 + si_F k * si_s1 k ≤ si_ms k; unfold si_ms; omega) hl hP hD hS
  intro ad' ls H locs cells slots _ _ hag hc1 hc2 hl hP hD hS
  refine W.widen (k := si_mc k) (n := si_ms k) hc1 hc2 ?_
  exact W.vret hx hb hrr (fun t ht hW => by unfold si_Out; rw [hAe]; exact ⟨⟨rfl, ad', hag, by rw [ht]; exact hP, hD⟩, hS.F ht⟩) hS.2.2 (si_ret k hk)
