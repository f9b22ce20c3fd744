/-! Whole constructors. -/
abbrev si_X : Type := Nat → Nat → List si_E → Option (List si_E)
def si_rn (B : si_P) (X : si_X) (stop : Nat) : Nat → Nat → sm_L → List Value → List si_E → Option (sm_L × List si_E)
  | 0, _, _, _, _ => none
  | f + 1, pc, lv, st, hh => if pc = stop then (match st with
      | [] => some (lv, hh)
      | _ => none) else match B.1 pc with
    | none => none
    | some (i, n) => (match i with
      | .invokespecial x => if n = 3 ∧ si_wf hh lv st = true then (match st with
          | .ref a :: r => if (r.map fun v => v.category).sum ≤ 8 then (B.2.2.2.2.2.1 x).bind fun q => (match q with
            | none => si_rn B X stop f (pc + 3) lv r hh
            | some k => (X k a hh).bind fun hh' => if hh.length ≤ hh'.length then si_rn B X stop f (pc + 3) lv r hh' else none) else none
          | _ => none) else none
      | i => (si_step B i n pc lv st hh).bind fun t => si_rn B X stop f t.1 t.2.1 t.2.2.1 t.2.2.2)
/-- fuel; cells and places that one step may lay; in all -/
def si_F (k : Nat) : Nat := match k with
  | 0 => 20
  | 1 => 54
  | 2 => 260
  | _ => 200
def si_c1 (k : Nat) : Nat := match k with
  | 2 => 60
  | _ => 1
def si_s1 (k : Nat) : Nat := match k with
  | 0 => 40
  | 1 => 8
  | 2 => 800
  | _ => 3800
def si_mc (k : Nat) : Nat := si_F k * si_c1 k
def si_ms (k : Nat) : Nat := si_F k * si_s1 k
def si_rm (k : Nat) : Room := { frames := if k < 2 then 1 else 2, cells := si_mc k, slots := si_ms k, locals := if k < 2 then 100 else 200 }
def si_CC (k : Nat) : ByteArray := match k with
  | 0 => prog_2_method_1_code
  | 1 => prog_3_method_1_code
  | 2 => prog_1_method_1_code
  | _ => prog_5_method_1_code
def si_ML (k : Nat) : Nat := match k with
  | 0 => 1
  | 1 => 1
  | _ => 2
def si_ws (k : Nat) : List Jvm.Cond := .code (si_Y k) (si_CC k) (si_ML k) none :: sm_tb
def si_In (D : va_G) (cid : Nat → ClassId) (ad : Nat → Nat) (hh : List si_E) (sz : Nat) (U : State) : Prop := sm_In D sm_cl cid ad (si_h hh) sz U ∧ si_Ns U
def si_Out (D : va_G) (cid : Nat → ClassId) (ad : Nat → Nat) (hh : List si_E) (sz : Nat) (hh' : List si_E) : Array Value → State → Outcome → State → Prop := fun _ st oc t =>
  (oc = .returned none ∧ ∃ ad' : Nat → Nat, si_ag hh.length ad ad' ∧ va_P D sm_cl (sm_w cid ad' (si_h hh')) t.heap ∧ va_D (va_A (sm_w cid ad (si_h hh)) sz) (sm_w cid ad' (si_h hh'))) ∧ va_F (va_A (sm_w cid ad (si_h hh)) sz) st t
def si_C (l : Launch) (D : va_G) (cid : Nat → ClassId) (ad : Nat → Nat) (k : Nat) (hh : List si_E) (a : Nat) (hh' : List si_E) : Prop :=
  ∀ sz : Nat, Met l (si_Y k) (si_ws k) (si_rm k) (va_Pc [.ref (ad a)] (si_In D cid ad hh sz)) (si_Out D cid ad hh sz hh') (si_mc k) (si_ms k) (va_A (sm_w cid ad (si_h hh)) sz)
theorem si_In.blind {D : va_G} {cid : Nat → ClassId} {ad : Nat → Nat} {hh : List si_E} {sz a : Nat} : FrameBlind (va_Pc [.ref (ad a)] (si_In D cid ad hh sz)) := by
  intro b U g mk q
  obtain ⟨q0, ⟨q1, qP, qK, qD, qZ, qT, qN⟩, qM⟩ := q
  exact ⟨q0, ⟨q1, qP, va_K.moved (u := U) (U := U.calling g mk b) (Vm.Alike.refl U.vm) qK, qD, va_Z.moved (u := U) (U := U.calling g mk b) (Vm.Alike.refl U.vm) qZ, va_T.moved (u := U) (U := U.calling g mk b) (Vm.Alike.refl U.vm) qT, sm_Nst.same (u := U) (U := U.calling g mk b) rfl qN⟩, si_Ns.same (u := U) (U := U.calling g mk b) rfl qM⟩
section SIR
variable {p : Program} {l : Launch} {e : Env} {R : Room} {s : State} {m : MethodId} {args : Array Value} {below : List Frame} {meth : Method} {c : Code} {H : Heap} {locs : List Loc} {cells slots : Nat} {Q : State → Prop}
variable {cc : ByteArray} {pc : Nat} {ls : Array Slot} {D : va_G} {A : Nat → Prop} {cid : Nat → ClassId} {ad : Nat → Nat} {Ts : List Jvm.Cond} {B : si_P} {o nL : Nat} {scr : Option (Nat × (Nat → Int32))}
theorem si_back {hh hh' : List si_E} {st0 rest : List Value} {a : Array Value} {mc ms : Nat} (hr : va_Run p l e R s m args below meth c H locs cells slots mc ms (F0 m pc ls st0) rest (si_Out D cid ad hh H.size hh' a) (va_A (sm_w cid ad (si_h hh)) H.size)) (hD : va_D A (sm_w cid ad (si_h hh))) (hS : va_S A s.heap H locs) (hA : ∀ q : Nat, s.heap.size ≤ q → A q)
    (kk : ∀ (ad' : Nat → Nat) (H1 : Heap) (locs1 : List Loc), si_ag hh.length ad ad' → va_P D sm_cl (sm_w cid ad' (si_h hh')) H1 → va_D A (sm_w cid ad' (si_h hh')) → va_S A s.heap H1 locs1 → W p l e R s m args below meth c H1 locs1 (cells + mc) (slots + ms) Q (F0 m (pc + 3) ls rest)) : W p l e R s m args below meth c H locs cells slots Q (F0 m pc ls st0) := by
  have hF := sm_sub (cid := cid) (ad := ad) hD hS hA
  intro T hT X
  obtain ⟨v, st₀, t, T', L, h0, X', hL, e1, e2, ⟨⟨hv, ad', hag, hp, hd⟩, hz, hk⟩, st⟩ := hr T hT X
  cases hv
  rw [h0] at hz hk
  obtain ⟨t2, a1, b1⟩ := kk ad' T'.heap (locs ++ L) hag (by rw [e1]; exact hp) (hd.weaken (fun _ q _ hq => hF q.1 hq))
    ⟨Nat.le_trans hS.1 (by rw [e1]; exact hz), fun q h1 h2 => by rw [e1, hk q (Nat.lt_of_lt_of_le h1 hS.1) (fun z => h2 (hF q z))]; exact hS.2.1 q h1 h2, fun q hq => by
      rcases List.mem_append.mp hq with h | h
      · exact hS.2.2 q h
      · exact hF _ (hL q h)⟩ T' rfl X'
  exact ⟨t2, st t2 a1, b1⟩
def si_Cal (R : Room) (s : State) (args : Array Value) (own : String) (B : si_P) : Prop := ∀ x k, B.2.2.2.2.2.1 x = some (some k) → si_mc k ≤ B.2.2.2.2.2.2.2.1 ∧ si_ms k ≤ B.2.2.2.2.2.2.2.2 ∧ (si_Y k).name = "<init>" ∧ (Cond.instanceMethod (si_Y k)).before args s = true ∧
  ((∃ host, va_CN R s args own x (si_Y k) host (si_CC k) (si_ML k) none (si_ws k) (si_rm k) (si_mc k) (si_ms k) 0) ∨ CallB R s args own x (si_Y k) (si_CC k) (si_ML k) none (si_ws k) (si_rm k) (si_mc k) (si_ms k) 0)
set_option maxHeartbeats 4000000 in
theorem si_sims {X : si_X} {stop b0 k0 n0 : Nat} {ad0 : Nat → Nat} (E : ∀ ad' : Nat → Nat, ad' 998 = b0 → ad' 999 = k0 → sm_Env p R s m args c cc (sm_own o) D sm_cl cid ad' Ts B.2.1 A) (hK2 : B.2.1 = sm_Kn o nL scr) (ho : B.2.2.2.2.2.2.1 = o) (ho5 : o < 5) (hA : ∀ q : Nat, s.heap.size ≤ q → A q) (hF : si_NF B (sm_own o) args s) (hN : si_Ns s) (hTb : ∀ w ∈ sm_tb, w ∈ Ts) (hini : o < 4 → meth.name = "<init>") (hB : ∀ pc i n, B.1 pc = some (i, n) → decode cc pc = .ok (i, n)) (hcal : si_Cal R s args (sm_own o) B) (hX : ∀ k a hh hh' ad, X k a hh = some hh' → si_C l D cid ad k hh a hh')
    {lvf : sm_L} {hhf : List si_E} (fin : ∀ (ad' : Nat → Nat) (ls : Array Slot) (H : Heap) (locs : List Loc) (cells slots : Nat), ad' 998 = b0 → ad' 999 = k0 → si_ag n0 ad0 ad' → cells ≤ R.cells → slots ≤ R.slots → lv_has ls B.2.1.2.2.2.2.2.1 (sm_lv ad' lvf) → va_P D sm_cl (sm_w cid ad' (si_h hhf)) H → va_D A (sm_w cid ad' (si_h hhf)) → va_S A s.heap H locs → W p l e R s m args below meth c H locs cells slots Q (F0 m stop ls [])) :
    ∀ (f pc : Nat) (lv : sm_L) (st : List Value) (hh : List si_E) (ad : Nat → Nat) (ls : Array Slot) (H : Heap) (locs : List Loc) (cells slots : Nat), ad 998 = b0 → ad 999 = k0 → si_ag n0 ad0 ad → n0 ≤ hh.length → si_rn B X stop f pc lv st hh = some (lvf, hhf) → cells + f * B.2.2.2.2.2.2.2.1 ≤ R.cells → slots + f * B.2.2.2.2.2.2.2.2 ≤ R.slots → lv_has ls B.2.1.2.2.2.2.2.1 (sm_lv ad lv) → va_P D sm_cl (sm_w cid ad (si_h hh)) H → va_D A (sm_w cid ad (si_h hh)) → va_S A s.heap H locs → W p l e R s m args below meth c H locs cells slots Q (F0 m pc ls (st.map (sm_v ad))) := by
  intro f
  induction f with
  | zero => intro pc lv st hh ad ls H locs cells slots _ _ _ _ hr; cases hr
  | succ f ih =>
    intro pc lv st hh ad ls H locs cells slots a8 a9 ag0 hn0 hr q1 q2 hl hP hD hS
    rw [Nat.succ_mul] at q1 q2
    unfold si_rn at hr
    by_cases hpc : pc = stop
    · rw [if_pos hpc] at hr
      split at hr
      · cases hr
        subst hpc
        exact fin ad ls H locs cells slots a8 a9 ag0 (by omega) (by omega) hl hP hD hS
      · cases hr
    · rw [if_neg hpc] at hr
      split at hr
      · cases hr
      · rename_i i n hi
        have hd := hB pc i n hi
        split at hr
        · rename_i x
          obtain ⟨⟨hn3, hwf⟩, hr1⟩ := sm_if hr
          subst hn3
          split at hr1
          · rename_i a r
            obtain ⟨hcat, hr2⟩ := sm_if hr1
            obtain ⟨qk, hqk, hr3⟩ := sm_bd hr2
            obtain ⟨w1, w2, w3, w4⟩ := si_wf_s hwf
            have w5 : r.all (si_vk hh.length) = true := by
              rw [List.all_cons] at w4
              exact (sm_an w4).2
            have E0 := E ad a8 a9
            obtain ⟨hx, hb, hown, hml, hK, hts, -, -, -, -, hZ, hT, -, -, hRf, hRl, hNst⟩ := id E0
            have hcat' : ((r.map (sm_v ad)).map fun v => v.category).sum ≤ 8 := by rw [sm_cat_map]; exact hcat
            cases qk with
            | none =>
              obtain ⟨-, -, -, -, -, F6, F7, F8⟩ := hF
              rw [List.map_cons]
              refine W.objInit hx hb hown (F6 x hqk) F7 F8 (g := F0 m pc ls (.ref (ad a) :: r.map (sm_v ad))) rfl (by rw [hml]; exact hl.1) rfl hd hRf (by
                have z : (F0 m pc ls (.ref (ad a) :: r.map (sm_v ad))).monitorRoom = 0 := by simp [JFrame.monitorRoom]
                rw [z]
                omega) ?_
              exact ih (pc + 3) lv r hh ad ls H locs cells slots a8 a9 ag0 hn0 hr3 (by omega) (by omega) hl hP hD hS
            | some k =>
              obtain ⟨hh', hx', hr4⟩ := sm_bd hr3
              obtain ⟨hlen, hr5⟩ := sm_if hr4
              obtain ⟨m1, m2, hy, hinst, hc⟩ := hcal x k hqk
              have hS0 : CallFix p m c cc B.2.1.2.2.2.2.2.1 s args Ts (sm_own o) := ⟨hx, hb, hml, hown, hts⟩
              have hM := hX k a hh hh' ad hx' H.size
              have pre : PreS s H (va_Pc [.ref (ad a)] (si_In D cid ad hh H.size)) (.ref (ad a) :: []) := ⟨si_In.blind, fun U hU hW => ⟨rfl, (sm_pre (vs := []) hK hP hD hS hA hZ hT hNst U hU hW).2, si_Ns.warm hW hN⟩⟩
              have run : va_Run p l e R s m args below meth c H locs cells slots (si_mc k) (si_ms k) (F0 m pc ls (.ref (ad a) :: r.map (sm_v ad))) (r.map (sm_v ad)) (si_Out D cid ad hh H.size hh' (Value.ref (ad a) :: []).toArray) (va_A (sm_w cid ad (si_h hh)) H.size) := by
                rcases hc with ⟨host, cw⟩ | cw
                · exact va_runIN (As := []) (b := ad a) (g := F0 m pc ls (.ref (ad a) :: r.map (sm_v ad))) hS0 hM ⟨cw, hy, hinst⟩ pre rfl rfl hl.1 rfl (by simpa [JFrame.monitorRoom] using hcat') hd ⟨by omega, by omega⟩
                · exact va_runI (As := []) (b := ad a) (g := F0 m pc ls (.ref (ad a) :: r.map (sm_v ad))) hS0 hM ⟨cw, hy, hinst⟩ pre rfl rfl hl.1 rfl (by simpa [JFrame.monitorRoom] using hcat') hd ⟨by omega, by omega⟩
              rw [List.map_cons]
              refine si_back run hD hS hA ?_
              intro ad' H1 locs1 hag hP1 hD1 hS1
              have k9 := ih (pc + 3) lv r hh' ad' ls H1 locs1 (cells + si_mc k) (slots + si_ms k) ((hag 998 (Or.inr (by decide))).trans a8) ((hag 999 (Or.inr (by decide))).trans a9) (fun j hj => (hag j (by rcases hj with hj | hj; exact Or.inl (by omega); exact Or.inr hj)).trans (ag0 j hj)) (by omega) hr5 (by omega) (by omega) (by rw [si_lv_ag w3 hag]; exact hl) hP1 hD1 hS1
              rw [si_st_ag w5 hag] at k9
              exact k9
          · cases hr1
        · obtain ⟨⟨pc', lv', st', hh'⟩, ht, hr1⟩ := sm_bd hr
          refine si_sim (fun ad' h1 h2 => E ad' (h1.trans a8) (h2.trans a9)) hK2 ho ho5 hA hF hN hTb hini hd ht (by omega) (by omega) hl hP hD hS ?_
          intro ad' ls' H' locs' cells' slots' hag hlen c1 c2 hl' hP' hD' hS'
          exact ih pc' lv' st' hh' ad' ls' H' locs' cells' slots' ((hag 998 (Or.inr (by decide))).trans a8) ((hag 999 (Or.inr (by decide))).trans a9) (fun j hj => (hag j (by rcases hj with hj | hj; exact Or.inl (by omega); exact Or.inr hj)).trans (ag0 j hj)) (by omega) hr1 (by omega) (by omega) hl' hP' hD' hS'
end SIR
