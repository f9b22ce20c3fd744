/-! From the law's entry to its loop: the objects made, the world that they are. -/
def si_Bl : si_P := (la_tb, sm_Kn 4 4 none, si_nw 4, si_mn 4, si_an 4, si_sp 4, 4, 16000, 760000)
def si_run : Option (sm_L × List si_E) := si_rn si_Bl si_X2 16 9 0 [(0, .ref 998)] [] []
def si_H0 : List si_E := [.inl (2, [.ref 1, .ref 2, .ref 9, .ref 10, .ref 15, .ref 24, .ref 33, .ref 42, .ref 46, .ref 47, .ref 68, .int 0, .int 0, .long 0, .long 1]),
  .inr (.inl (0, 6, [(5, -1), (4, -1), (3, -1), (2, -1), (1, -1), (0, -1)])),
  .inr (.inr (2, [some 3, some 4, some 5, some 6, some 7, some 8])),
  .inr (.inl (0, 40, [])),
  .inr (.inl (0, 40, [])),
  .inr (.inl (0, 40, [])),
  .inr (.inl (0, 40, [])),
  .inr (.inl (0, 40, [])),
  .inr (.inl (0, 40, [])),
  .inr (.inl (0, 4, [(3, -1), (2, -1), (1, -1), (0, -1)])),
  .inr (.inr (3, [some 11, some 12, some 13, some 14])),
  .inr (.inl (1, 60, [])),
  .inr (.inl (1, 60, [])),
  .inr (.inl (1, 60, [])),
  .inr (.inl (1, 60, [])),
  .inl (1, [.int 0, .int 0, .int 0, .int (-9), .int 0, .ref 16, .ref 17, .ref 18, .ref 19, .ref 20, .ref 21, .ref 22, .ref 23]),
  .inr (.inl (0, 8, [])),
  .inr (.inl (0, 8, [])),
  .inr (.inl (0, 8, [])),
  .inr (.inl (0, 8, [])),
  .inr (.inl (0, 4, [])),
  .inr (.inl (0, 4, [])),
  .inr (.inl (0, 4, [])),
  .inr (.inl (0, 4, [])),
  .inl (1, [.int 0, .int 0, .int 0, .int (-9), .int 0, .ref 25, .ref 26, .ref 27, .ref 28, .ref 29, .ref 30, .ref 31, .ref 32]),
  .inr (.inl (0, 8, [])),
  .inr (.inl (0, 8, [])),
  .inr (.inl (0, 8, [])),
  .inr (.inl (0, 8, [])),
  .inr (.inl (0, 4, [])),
  .inr (.inl (0, 4, [])),
  .inr (.inl (0, 4, [])),
  .inr (.inl (0, 4, [])),
  .inl (1, [.int 0, .int 0, .int 0, .int (-9), .int 0, .ref 34, .ref 35, .ref 36, .ref 37, .ref 38, .ref 39, .ref 40, .ref 41]),
  .inr (.inl (0, 8, [])),
  .inr (.inl (0, 8, [])),
  .inr (.inl (0, 8, [])),
  .inr (.inl (0, 8, [])),
  .inr (.inl (0, 4, [])),
  .inr (.inl (0, 4, [])),
  .inr (.inl (0, 4, [])),
  .inr (.inl (0, 4, [])),
  .inl (0, [.int 0, .ref 43, .ref 44, .ref 45]),
  .inr (.inl (0, 40, [])),
  .inr (.inl (0, 40, [])),
  .inr (.inl (0, 40, [])),
  .inr (.inr (4, [some 69, some 73, some 77])),
  .inr (.inr (2, [some 48, some 49, some 50, some 51, some 52, some 53, some 54, some 55, some 56, some 57, some 58, some 59, some 60, some 61, some 62, some 63, some 64, some 65, some 66, some 67])),
  .inr (.inl (0, 8, [])),
  .inr (.inl (0, 8, [])),
  .inr (.inl (0, 8, [])),
  .inr (.inl (0, 8, [])),
  .inr (.inl (0, 8, [])),
  .inr (.inl (0, 8, [])),
  .inr (.inl (0, 8, [])),
  .inr (.inl (0, 8, [])),
  .inr (.inl (0, 8, [])),
  .inr (.inl (0, 8, [])),
  .inr (.inl (0, 8, [])),
  .inr (.inl (0, 8, [])),
  .inr (.inl (0, 8, [])),
  .inr (.inl (0, 8, [])),
  .inr (.inl (0, 8, [])),
  .inr (.inl (0, 8, [])),
  .inr (.inl (0, 8, [])),
  .inr (.inl (0, 8, [])),
  .inr (.inl (0, 8, [])),
  .inr (.inl (0, 8, [])),
  .inr (.inl (0, 6, [])),
  .inl (0, [.int (-1), .ref 70, .ref 71, .ref 72]),
  .inr (.inl (0, 40, [])),
  .inr (.inl (0, 40, [])),
  .inr (.inl (0, 40, [])),
  .inl (0, [.int (-1), .ref 74, .ref 75, .ref 76]),
  .inr (.inl (0, 40, [])),
  .inr (.inl (0, 40, [])),
  .inr (.inl (0, 40, [])),
  .inl (0, [.int (-1), .ref 78, .ref 79, .ref 80]),
  .inr (.inl (0, 40, [])),
  .inr (.inl (0, 40, [])),
  .inr (.inl (0, 40, [])),
  .inl (3, [.ref 82, .int 0, .ref 83, .ref 84, .int 0, .ref 85, .ref 86, .ref 87, .ref 88, .ref 89, .ref 90, .int 0, .long 0, .long 1, .int 0, .ref 91, .int 0, .int 0, .int 0, .int 0, .ref 92, .ref 93, .int 0, .ref 94, .ref 95, .ref 96, .ref 97]),
  .inr (.inl (0, 3800, [(2832, -1), (1888, -1), (944, -1), (2, -9)])),
  .inr (.inl (0, 8, [])),
  .inr (.inl (0, 8, [])),
  .inr (.inl (0, 4, [])),
  .inr (.inl (0, 4, [])),
  .inr (.inl (0, 6, [(5, -1), (4, -1), (3, -1), (2, -1), (1, -1), (0, -1)])),
  .inr (.inl (0, 240, [])),
  .inr (.inl (0, 4, [(3, -1), (2, -1), (1, -1), (0, -1)])),
  .inr (.inl (0, 240, [])),
  .inr (.inl (0, 6, [])),
  .inr (.inl (0, 8, [])),
  .inr (.inl (0, 8, [])),
  .inr (.inl (0, 12, [])),
  .inr (.inl (0, 168, [])),
  .inr (.inl (0, 4, [])),
  .inr (.inl (0, 5, []))]
def si_q (e f : si_E) : Bool := match e, f with
  | .inl (a, b), .inl (c, d) => decide (a = c) && decide (b = d)
  | .inr (.inl (a, b, u)), .inr (.inl (c, d, w)) => decide (a = c) && (decide (b = d) && decide (u = w))
  | .inr (.inr (a, b)), .inr (.inr (c, d)) => decide (a = c) && decide (b = d)
  | _, _ => false
theorem si_q_s {e f : si_E} (h : si_q e f = true) : e = f := by
  unfold si_q at h
  split at h
  · obtain ⟨h1, h2⟩ := sm_an h
    rw [of_decide_eq_true h1, of_decide_eq_true h2]
  · obtain ⟨h1, h2⟩ := sm_an h
    obtain ⟨h2, h3⟩ := sm_an h2
    rw [of_decide_eq_true h1, of_decide_eq_true h2, of_decide_eq_true h3]
  · obtain ⟨h1, h2⟩ := sm_an h
    rw [of_decide_eq_true h1, of_decide_eq_true h2]
  · cases h
def si_qs : List si_E → List si_E → Bool
  | [], [] => true
  | a :: r, b :: s => si_q a b && si_qs r s
  | _, _ => false
theorem si_qs_s : ∀ {a b : List si_E}, si_qs a b = true → a = b
  | [], [], _ => rfl
  | [], _ :: _, h => by cases h
  | _ :: _, [], h => by cases h
  | a :: r, b :: s, h => by
    obtain ⟨h1, h2⟩ := sm_an h
    rw [si_q_s h1, si_qs_s h2]
theorem si_go1 : si_run.map (fun q => decide (q.1 = [(2, .ref 81), (1, .ref 0), (0, .ref 998)]) && si_qs q.2 si_H0) = some true := by decide +kernel
theorem si_go : si_run = some ([(2, .ref 81), (1, .ref 0), (0, .ref 998)], si_H0) := by
  have h := si_go1
  cases hq : si_run with
  | none => rw [hq] at h; cases h
  | some q =>
    rw [hq] at h
    have h : some (decide (q.1 = [(2, .ref 81), (1, .ref 0), (0, .ref 998)]) && si_qs q.2 si_H0) = some true := h
    obtain ⟨h1, h2⟩ := sm_an (Option.some.inj h)
    have e1 := of_decide_eq_true h1
    have e2 := si_qs_s h2
    rw [← e1, ← e2]
theorem si_H0l : si_H0.length = 98 := by decide +kernel
/-- the cells' numbers in the contracts, and in the order in which they are made -/
def si_pi (k : Nat) : Nat := if 47 ≤ k ∧ k ≤ 58 then k + 22 else if 59 ≤ k ∧ k ≤ 80 then k - 12 else k
def si_ro (r : Nat) : Nat := if 69 ≤ r ∧ r ≤ 80 then r - 22 else if 47 ≤ r ∧ r ≤ 68 then r + 12 else r
theorem si_pr (r : Nat) : si_pi (si_ro r) = r := by
  unfold si_pi si_ro
  repeat' split
  all_goals omega
theorem si_rp (k : Nat) : si_ro (si_pi k) = k := by
  unfold si_pi si_ro
  repeat' split
  all_goals omega
def si_rv (v : Value) : Value := match v with
  | .ref r => .ref (si_ro r)
  | .int x => .int x
  | .long x => .long x
  | .float x => .float x
  | .double x => .double x
  | .null => .null
  | .retAddr x => .retAddr x
def si_ren (e : si_E) : si_E := match e with
  | .inl (ci, fs) => .inl (ci, fs.map si_rv)
  | .inr (.inl q) => .inr (.inl q)
  | .inr (.inr (t, cs)) => .inr (.inr (t, cs.map fun o => o.map si_ro))
theorem si_rv_v (ad : Nat → Nat) (v : Value) : sm_v (fun k => ad (si_pi k)) (si_rv v) = sm_v ad v := by
  cases v with
  | ref r =>
    show Value.ref (ad (si_pi (si_ro r))) = Value.ref (ad r)
    rw [si_pr]
  | int x => rfl
  | long x => rfl
  | float x => rfl
  | double x => rfl
  | null => rfl
  | retAddr x => rfl
theorem si_ren_e (cid : Nat → ClassId) (ad : Nat → Nat) (e : si_E) : sm_e cid (fun k => ad (si_pi k)) (si_d (si_ren e)) = sm_e cid ad (si_d e) := by
  match e with
  | .inl (ci, fs) =>
    show (Sum.inr (ci, (fs.map si_rv).map (sm_v fun k => ad (si_pi k))) : va_E) = Sum.inr (ci, fs.map (sm_v ad))
    have em : fs.map ((sm_v fun k => ad (si_pi k)) ∘ si_rv) = fs.map (sm_v ad) := List.map_congr_left (fun v _ => si_rv_v ad v)
    rw [List.map_map, em]
  | .inr (.inl _) => rfl
  | .inr (.inr (t, cs)) =>
    have ef : (fun j => (si_g (cs.map fun o => o.map si_ro) j).map (fun k => ad (si_pi k))) = fun j => (si_g cs j).map ad := funext fun j => by
      unfold si_g
      rw [List.getElem?_map]
      cases cs[j]? with
      | none => rfl
      | some o =>
        cases o with
        | none => rfl
        | some r =>
          show some (ad (si_pi (si_ro r))) = some (ad r)
          rw [si_pr]
    show (Sum.inl (cid t, (cs.map fun o => o.map si_ro).length, .inr (.inr (.inr (.inr (fun j => (si_g (cs.map fun o => o.map si_ro) j).map (fun k => ad (si_pi k))))))) : va_E) = Sum.inl (cid t, cs.length, .inr (.inr (.inr (.inr (fun j => (si_g cs j).map ad)))))
    rw [ef, List.length_map]
def si_H1 : List si_E := (List.range 98).map fun k => match si_H0[si_pi k]? with
  | some e => si_ren e
  | none => .inr (.inl (9, 0, []))
theorem si_pl {k : Nat} (h : k < 98) : si_pi k < 98 := by
  unfold si_pi
  repeat' split
  all_goals omega
theorem si_H1g {k : Nat} {x : si_E} (h : si_H1[k]? = some x) : ∃ e, si_H0[si_pi k]? = some e ∧ x = si_ren e := by
  unfold si_H1 at h
  rw [List.getElem?_map] at h
  by_cases hk : k < 98
  · rw [List.getElem?_range hk] at h
    have hl : si_pi k < si_H0.length := by rw [si_H0l]; exact si_pl hk
    have e := List.getElem?_eq_getElem hl
    refine ⟨_, e, ?_⟩
    have h : some (match si_H0[si_pi k]? with
      | some e => si_ren e
      | none => .inr (.inl (9, 0, []))) = some x := h
    rw [e] at h
    exact (Option.some.inj h).symm
  · rw [List.getElem?_eq_none (by rw [List.length_range]; omega)] at h
    cases h
theorem si_ent {cid : Nat → ClassId} {ad : Nat → Nat} {k : Nat} {x : Nat × va_E} (h : (sm_w cid (fun k => ad (si_pi k)) (si_h si_H1))[k]? = some x) : (sm_w cid ad (si_h si_H0))[si_pi k]? = some x := by
  unfold sm_w at h
  rw [List.getElem?_mapIdx, List.getElem?_map] at h
  cases hk : si_H1[k]? with
  | none => rw [hk] at h; cases h
  | some y =>
    rw [hk] at h
    obtain ⟨e, he, rfl⟩ := si_H1g hk
    have h : some (ad (si_pi k), sm_e cid (fun k => ad (si_pi k)) (si_d (si_ren e))) = some x := h
    rw [si_ren_e] at h
    rw [← h]
    exact sm_w_get (si_h_get he)
theorem si_permP {D : va_G} {cid : Nat → ClassId} {ad : Nat → Nat} {H : Heap} (hP : va_P D sm_cl (sm_w cid ad (si_h si_H0)) H) : va_P D sm_cl (sm_w cid (fun k => ad (si_pi k)) (si_h si_H1)) H := fun k x h => hP _ x (si_ent h)
theorem si_permD {A : Nat → Prop} {cid : Nat → ClassId} {ad : Nat → Nat} (hD : va_D A (sm_w cid ad (si_h si_H0))) : va_D A (sm_w cid (fun k => ad (si_pi k)) (si_h si_H1)) :=
  ⟨fun i j x y hi hj hxy => by
    have h := hD.1 _ _ x y (si_ent hi) (si_ent hj) hxy
    rw [← si_rp i, h, si_rp], fun k x h => hD.2 _ x (si_ent h)⟩
/-! The first world fits. -/
def si_in (x : Int) (r : ar_R) : Bool := r.any fun q => decide (q.1 ≤ x) && decide (x ≤ q.2)
theorem si_in_s {x : Int} {r : ar_R} (h : si_in x r = true) : ar_in x r := by
  obtain ⟨q, hq, h⟩ := List.any_eq_true.mp h
  obtain ⟨h1, h2⟩ := sm_an h
  exact ⟨q, hq, of_decide_eq_true h1, of_decide_eq_true h2⟩
def si_m (v : aw_V) (w : Value) : Bool := match v, w with
  | .inl k, .ref r => Nat.beq k r
  | .inr (false, r), .int x => si_in x.toInt r
  | .inr (true, r), .long x => si_in x.toInt r
  | _, _ => false
theorem si_m_s {v : aw_V} {w : Value} (h : si_m v w = true) : aw_m v w := by
  unfold si_m at h
  split at h
  · rw [Nat.eq_of_beq_eq_true h]
    rfl
  · exact ⟨_, rfl, si_in_s h⟩
  · exact ⟨_, rfl, si_in_s h⟩
  · cases h
def si_mm : List aw_V → List Value → Bool
  | [], [] => true
  | v :: vs, w :: ws => si_m v w && si_mm vs ws
  | _, _ => false
theorem si_mm_s : ∀ {vs : List aw_V} {fs : List Value}, si_mm vs fs = true → fs.length = vs.length ∧ ∀ (k : Nat) (v : aw_V) (w : Value), vs[k]? = some v → fs[k]? = some w → aw_m v w
  | [], [], _ => ⟨rfl, fun k v w h => by cases h⟩
  | [], _ :: _, h => by cases h
  | _ :: _, [], h => by cases h
  | v0 :: vs, w0 :: ws, h => by
    obtain ⟨h1, h2⟩ := sm_an h
    obtain ⟨i1, i2⟩ := si_mm_s h2
    refine ⟨by rw [List.length_cons, List.length_cons, i1], fun k v w hv hw => ?_⟩
    cases k with
    | zero =>
      cases hv
      cases hw
      exact si_m_s h1
    | succ k => exact i2 k v w hv hw
def si_c (c : aw_A) (e : si_E) : Bool := match c, e with
  | .inr (.inr (.inr _)), _ => true
  | .inl (ci, vs), .inl (ci', fs) => Nat.beq ci ci' && si_mm vs fs
  | .inr (.inl (t, n, sg, tr)), .inr (.inl (t', n', us)) => Nat.beq t t' && (Nat.beq n n' && ((sg.all fun q => (List.range (q.2.1 + 1 - q.1)).all fun d => si_in (si_f us (q.1 + d)).toInt q.2.2) && tr.all fun q => Nat.blt q.1 n && si_in (si_f us q.1).toInt q.2))
  | .inr (.inr (.inl (t, cs))), .inr (.inr (t', cs')) => Nat.beq t t' && (Nat.ble 2 t && (Nat.blt t 5 && decide (cs' = cs.map some)))
  | _, _ => false
theorem si_c_s {c : aw_A} {e : si_E} (h : si_c c e = true) : aw_c c (si_d e) := by
  unfold si_c at h
  split at h
  · trivial
  · obtain ⟨h1, h2⟩ := sm_an h
    have h1 := Nat.eq_of_beq_eq_true h1
    subst h1
    obtain ⟨i1, i2⟩ := si_mm_s h2
    exact ⟨_, rfl, i1, i2⟩
  · rename_i t n sg tr t' n' us
    obtain ⟨h1, h⟩ := sm_an h
    obtain ⟨h2, h⟩ := sm_an h
    obtain ⟨h3, h4⟩ := sm_an h
    have h1 := Nat.eq_of_beq_eq_true h1
    have h2 := Nat.eq_of_beq_eq_true h2
    subst h1
    subst h2
    refine ⟨si_f us, rfl, fun q hq j a b => ?_, fun q hq => ?_⟩
    · have g := List.all_eq_true.mp (List.all_eq_true.mp h3 q hq) (j - q.1) (List.mem_range.mpr (by omega))
      rw [show q.1 + (j - q.1) = j by omega] at g
      exact si_in_s g
    · obtain ⟨g1, g2⟩ := sm_an (List.all_eq_true.mp h4 q hq)
      exact ⟨Nat.le_of_ble_eq_true g1, si_in_s g2⟩
  · rename_i t cs t' cs'
    obtain ⟨h1, h⟩ := sm_an h
    obtain ⟨h2, h⟩ := sm_an h
    obtain ⟨h3, h4⟩ := sm_an h
    have h1 := Nat.eq_of_beq_eq_true h1
    subst h1
    have h4 := of_decide_eq_true h4
    subst h4
    refine ⟨Nat.le_of_ble_eq_true h2, Nat.le_of_ble_eq_true h3, si_g (cs.map some), ?_, fun j b hj => ?_⟩
    · show (Sum.inl (t, (cs.map some).length, .inr (.inr (.inr (.inr (si_g (cs.map some)))))) : va_E) = _
      rw [List.length_map]
    · unfold si_g
      rw [List.getElem?_map, hj]
      rfl
  · cases h
theorem si_aw {H : aw_H} {hh : List si_E} (b : (H.all fun q => match hh[q.1]? with
    | some e => si_c q.2 e
    | none => false) = true) : aw_h H (si_h hh) := by
  intro q hq
  have g := List.all_eq_true.mp b q hq
  split at g
  · rename_i e he
    exact ⟨_, si_h_get he, si_c_s g⟩
  · cases g
theorem si_ps : ps_h (si_h si_H1) := by
  have z : ∀ c, si_H1[c + 1]? = some (.inr (.inl (0, 40, []))) → si_H1[c + 1 + 1]? = some (.inr (.inl (0, 40, []))) → si_H1[c + 1 + 2]? = some (.inr (.inl (0, 40, []))) → ps_1 (c + 1) (si_h si_H1) := fun c h1 h2 h3 =>
    ⟨si_f [], si_f [], si_f [], si_h_get h1, si_h_get h2, si_h_get h3, fun d _ h => absurd (show ((0 : Int32).toInt = 1) from h) (by decide)⟩
  intro c hc
  unfold ps_C at hc
  simp only [List.mem_cons, List.not_mem_nil, or_false] at hc
  rcases hc with rfl | rfl | rfl | rfl
  · exact z 42 (by rfl) (by rfl) (by rfl)
  · exact z 47 (by rfl) (by rfl) (by rfl)
  · exact z 51 (by rfl) (by rfl) (by rfl)
  · exact z 55 (by rfl) (by rfl) (by rfl)

