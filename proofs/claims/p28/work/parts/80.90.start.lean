/-! From the law's entry to its loop: the objects made, the world that they are. -/
def si_Bl : si_P := (la_tb, sm_Kn 4 4 none, si_nw 4, si_mn 4, si_an 4, si_sp 4, 4, 16000, 760000)
def si_run : Option (sm_L × List si_E) := si_rn si_Bl si_X2 16 9 0 [(0, .ref 998)] [] []
def si_H0 : List si_E := [.inl (2, [.ref 1, .ref 2, .ref 9, .ref 10, .ref 15, .ref 24, .ref 33, .ref 42, .ref 46, .ref 47, .ref 68, .int 0, .int 0, .long 0, .long 1]),
  .inr (.inl (0, 6, [(5, -1), (4, -1), (3, -1), (2, -1), (1, -1), (0, -1)])),
  .inr (.inr (2, [some 3, some 4, some 5, some 6, some 7, some 8])),
  .inr (.inl (0, 40, [])),
  .inr (.inl (0, 40, [])),
  .inr (.inl (0, 40, [])),
  .inr (.inl (0, 40, [])),
  .inr (.inl (0, 40, [])),
  .inr (.inl (0, 40, [])),
  .inr (.inl (0, 4, [(3, -1), (2, -1), (1, -1), (0, -1)])),
  .inr (.inr (3, [some 11, some 12, some 13, some 14])),
  .inr (.inl (1, 60, [])),
  .inr (.inl (1, 60, [])),
  .inr (.inl (1, 60, [])),
  .inr (.inl (1, 60, [])),
  .inl (1, [.int 0, .int 0, .int 0, .int (-9), .int 0, .ref 16, .ref 17, .ref 18, .ref 19, .ref 20, .ref 21, .ref 22, .ref 23]),
  .inr (.inl (0, 8, [])),
  .inr (.inl (0, 8, [])),
  .inr (.inl (0, 8, [])),
  .inr (.inl (0, 8, [])),
  .inr (.inl (0, 4, [])),
  .inr (.inl (0, 4, [])),
  .inr (.inl (0, 4, [])),
  .inr (.inl (0, 4, [])),
  .inl (1, [.int 0, .int 0, .int 0, .int (-9), .int 0, .ref 25, .ref 26, .ref 27, .ref 28, .ref 29, .ref 30, .ref 31, .ref 32]),
  .inr (.inl (0, 8, [])),
  .inr (.inl (0, 8, [])),
  .inr (.inl (0, 8, [])),
  .inr (.inl (0, 8, [])),
  .inr (.inl (0, 4, [])),
  .inr (.inl (0, 4, [])),
  .inr (.inl (0, 4, [])),
  .inr (.inl (0, 4, [])),
  .inl (1, [.int 0, .int 0, .int 0, .int (-9), .int 0, .ref 34, .ref 35, .ref 36, .ref 37, .ref 38, .ref 39, .ref 40, .ref 41]),
  .inr (.inl (0, 8, [])),
  .inr (.inl (0, 8, [])),
  .inr (.inl (0, 8, [])),
  .inr (.inl (0, 8, [])),
  .inr (.inl (0, 4, [])),
  .inr (.inl (0, 4, [])),
  .inr (.inl (0, 4, [])),
  .inr (.inl (0, 4, [])),
  .inl (0, [.int 0, .ref 43, .ref 44, .ref 45]),
  .inr (.inl (0, 40, [])),
  .inr (.inl (0, 40, [])),
  .inr (.inl (0, 40, [])),
  .inr (.inr (4, [some 69, some 73, some 77])),
  .inr (.inr (2, [some 48, some 49, some 50, some 51, some 52, some 53, some 54, some 55, some 56, some 57, some 58, some 59, some 60, some 61, some 62, some 63, some 64, some 65, some 66, some 67])),
  .inr (.inl (0, 8, [])),
  .inr (.inl (0, 8, [])),
  .inr (.inl (0, 8, [])),
  .inr (.inl (0, 8, [])),
  .inr (.inl (0, 8, [])),
  .inr (.inl (0, 8, [])),
  .inr (.inl (0, 8, [])),
  .inr (.inl (0, 8, [])),
  .inr (.inl (0, 8, [])),
  .inr (.inl (0, 8, [])),
  .inr (.inl (0, 8, [])),
  .inr (.inl (0, 8, [])),
  .inr (.inl (0, 8, [])),
  .inr (.inl (0, 8, [])),
  .inr (.inl (0, 8, [])),
  .inr (.inl (0, 8, [])),
  .inr (.inl (0, 8, [])),
  .inr (.inl (0, 8, [])),
  .inr (.inl (0, 8, [])),
  .inr (.inl (0, 8, [])),
  .inr (.inl (0, 6, [])),
  .inl (0, [.int (-1), .ref 70, .ref 71, .ref 72]),
  .inr (.inl (0, 40, [])),
  .inr (.inl (0, 40, [])),
  .inr (.inl (0, 40, [])),
  .inl (0, [.int (-1), .ref 74, .ref 75, .ref 76]),
  .inr (.inl (0, 40, [])),
  .inr (.inl (0, 40, [])),
  .inr (.inl (0, 40, [])),
  .inl (0, [.int (-1), .ref 78, .ref 79, .ref 80]),
  .inr (.inl (0, 40, [])),
  .inr (.inl (0, 40, [])),
  .inr (.inl (0, 40, [])),
  .inl (3, [.ref 82, .int 0, .ref 83, .ref 84, .int 0, .ref 85, .ref 86, .ref 87, .ref 88, .ref 89, .ref 90, .int 0, .long 0, .long 1, .int 0, .ref 91, .int 0, .int 0, .int 0, .int 0, .ref 92, .ref 93, .int 0, .ref 94, .ref 95, .ref 96, .ref 97]),
  .inr (.inl (0, 3800, [(2832, -1), (1888, -1), (944, -1), (2, -9)])),
  .inr (.inl (0, 8, [])),
  .inr (.inl (0, 8, [])),
  .inr (.inl (0, 4, [])),
  .inr (.inl (0, 4, [])),
  .inr (.inl (0, 6, [(5, -1), (4, -1), (3, -1), (2, -1), (1, -1), (0, -1)])),
  .inr (.inl (0, 240, [])),
  .inr (.inl (0, 4, [(3, -1), (2, -1), (1, -1), (0, -1)])),
  .inr (.inl (0, 240, [])),
  .inr (.inl (0, 6, [])),
  .inr (.inl (0, 8, [])),
  .inr (.inl (0, 8, [])),
  .inr (.inl (0, 12, [])),
  .inr (.inl (0, 168, [])),
  .inr (.inl (0, 4, [])),
  .inr (.inl (0, 5, []))]
def si_q (e f : si_E) : Bool := match e, f with
  | .inl (a, b), .inl (c, d) => decide (a = c) && decide (b = d)
  | .inr (.inl (a, b, u)), .inr (.inl (c, d, w)) => decide (a = c) && (decide (b = d) && decide (u = w))
  | .inr (.inr (a, b)), .inr (.inr (c, d)) => decide (a = c) && decide (b = d)
  | _, _ => false
theorem si_q_s {e f : si_E} (h : si_q e f = true) : e = f := by
  unfold si_q at h
  split at h
  · obtain ⟨h1, h2⟩ := sm_an h
    rw [of_decide_eq_true h1, of_decide_eq_true h2]
  · obtain ⟨h1, h2⟩ := sm_an h
    obtain ⟨h2, h3⟩ := sm_an h2
    rw [of_decide_eq_true h1, of_decide_eq_true h2, of_decide_eq_true h3]
  · obtain ⟨h1, h2⟩ := sm_an h
    rw [of_decide_eq_true h1, of_decide_eq_true h2]
  · cases h
def si_qs : List si_E → List si_E → Bool
  | [], [] => true
  | a :: r, b :: s => si_q a b && si_qs r s
  | _, _ => false
theorem si_qs_s : ∀ {a b : List si_E}, si_qs a b = true → a = b
  | [], [], _ => rfl
  | [], _ :: _, h => by cases h
  | _ :: _, [], h => by cases h
  | a :: r, b :: s, h => by
    obtain ⟨h1, h2⟩ := sm_an h
    rw [si_q_s h1, si_qs_s h2]
theorem si_go1 : si_run.map (fun q => decide (q.1 = [(2, .ref 81), (1, .ref 0), (0, .ref 998)]) && si_qs q.2 si_H0) = some true := by decide +kernel
theorem si_go : si_run = some ([(2, .ref 81), (1, .ref 0), (0, .ref 998)], si_H0) := by
  have h := si_go1
  cases hq : si_run with
  | none => rw [hq] at h; cases h
  | some q =>
    rw [hq] at h
    have h : some (decide (q.1 = [(2, .ref 81), (1, .ref 0), (0, .ref 998)]) && si_qs q.2 si_H0) = some true := h
    obtain ⟨h1, h2⟩ := sm_an (Option.some.inj h)
    have e1 := of_decide_eq_true h1
    have e2 := si_qs_s h2
    rw [← e1, ← e2]
theorem si_H0l : si_H0.length = 98 := by decide +kernel
/-- the cells' numbers in the contracts, and in the order in which they are made -/
def si_pi (k : Nat) : Nat := if 47 ≤ k ∧ k ≤ 58 then k + 22 else if 59 ≤ k ∧ k ≤ 80 then k - 12 else k
def si_ro (r : Nat) : Nat := if 69 ≤ r ∧ r ≤ 80 then r - 22 else if 47 ≤ r ∧ r ≤ 68 then r + 12 else r
theorem si_pr (r : Nat) : si_pi (si_ro r) = r := by
  unfold si_pi si_ro
  repeat' split
  all_goals omega
theorem si_rp (k : Nat) : si_ro (si_pi k) = k := by
  unfold si_pi si_ro
  repeat' split
  all_goals omega
def si_rv (v : Value) : Value := match v with
  | .ref r => .ref (si_ro r)
  | .int x => .int x
  | .long x => .long x
  | .float x => .float x
  | .double x => .double x
  | .null => .null
  | .retAddr x => .retAddr x
def si_ren (e : si_E) : si_E := match e with
  | .inl (ci, fs) => .inl (ci, fs.map si_rv)
  | .inr (.inl q) => .inr (.inl q)
  | .inr (.inr (t, cs)) => .inr (.inr (t, cs.map fun o => o.map si_ro))
theorem si_rv_v (ad : Nat → Nat) (v : Value) : sm_v (fun k => ad (si_pi k)) (si_rv v) = sm_v ad v := by
  cases v with
  | ref r =>
    show Value.ref (ad (si_pi (si_ro r))) = Value.ref (ad r)
    rw [si_pr]
  | int x => rfl
  | long x => rfl
  | float x => rfl
  | double x => rfl
  | null => rfl
  | retAddr x => rfl
theorem si_ren_e (cid : Nat → ClassId) (ad : Nat → Nat) (e : si_E) : sm_e cid (fun k => ad (si_pi k)) (si_d (si_ren e)) = sm_e cid ad (si_d e) := by
  match e with
  | .inl (ci, fs) =>
    show (Sum.inr (ci, (fs.map si_rv).map (sm_v fun k => ad (si_pi k))) : va_E) = Sum.inr (ci, fs.map (sm_v ad))
    have em : fs.map ((sm_v fun k => ad (si_pi k)) ∘ si_rv) = fs.map (sm_v ad) := List.map_congr_left (fun v _ => si_rv_v ad v)
    rw [List.map_map, em]
  | .inr (.inl _) => rfl
  | .inr (.inr (t, cs)) =>
    have ef : (fun j => (si_g (cs.map fun o => o.map si_ro) j).map (fun k => ad (si_pi k))) = fun j => (si_g cs j).map ad := funext fun j => by
      unfold si_g
      rw [List.getElem?_map]
      cases cs[j]? with
      | none => rfl
      | some o =>
        cases o with
        | none => rfl
        | some r =>
          show some (ad (si_pi (si_ro r))) = some (ad r)
          rw [si_pr]
    show (Sum.inl (cid t, (cs.map fun o => o.map si_ro).length, .inr (.inr (.inr (.inr (fun j => (si_g (cs.map fun o => o.map si_ro) j).map (fun k => ad (si_pi k))))))) : va_E) = Sum.inl (cid t, cs.length, .inr (.inr (.inr (.inr (fun j => (si_g cs j).map ad)))))
    rw [ef, List.length_map]
def si_H1 : List si_E := (List.range 98).map fun k => match si_H0[si_pi k]? with
  | some e => si_ren e
  | none => .inr (.inl (9, 0, []))
theorem si_pl {k : Nat} (h : k < 98) : si_pi k < 98 := by
  unfold si_pi
  repeat' split
  all_goals omega
theorem si_H1g {k : Nat} {x : si_E} (h : si_H1[k]? = some x) : ∃ e, si_H0[si_pi k]? = some e ∧ x = si_ren e := by
  unfold si_H1 at h
  rw [List.getElem?_map] at h
  by_cases hk : k < 98
  · rw [List.getElem?_range hk] at h
    have hl : si_pi k < si_H0.length := by rw [si_H0l]; exact si_pl hk
    have e := List.getElem?_eq_getElem hl
    refine ⟨_, e, ?_⟩
    have h : some (match si_H0[si_pi k]? with
      | some e => si_ren e
      | none => .inr (.inl (9, 0, []))) = some x := h
    rw [e] at h
    exact (Option.some.inj h).symm
  · rw [List.getElem?_eq_none (by rw [List.length_range]; omega)] at h
    cases h
theorem si_ent {cid : Nat → ClassId} {ad : Nat → Nat} {k : Nat} {x : Nat × va_E} (h : (sm_w cid (fun k => ad (si_pi k)) (si_h si_H1))[k]? = some x) : (sm_w cid ad (si_h si_H0))[si_pi k]? = some x := by
  unfold sm_w at h
  rw [List.getElem?_mapIdx, List.getElem?_map] at h
  cases hk : si_H1[k]? with
  | none => rw [hk] at h; cases h
  | some y =>
    rw [hk] at h
    obtain ⟨e, he, rfl⟩ := si_H1g hk
    have h : some (ad (si_pi k), sm_e cid (fun k => ad (si_pi k)) (si_d (si_ren e))) = some x := h
    rw [si_ren_e] at h
    rw [← h]
    exact sm_w_get (si_h_get he)
theorem si_permP {D : va_G} {cid : Nat → ClassId} {ad : Nat → Nat} {H : Heap} (hP : va_P D sm_cl (sm_w cid ad (si_h si_H0)) H) : va_P D sm_cl (sm_w cid (fun k => ad (si_pi k)) (si_h si_H1)) H := fun k x h => hP _ x (si_ent h)
theorem si_permD {A : Nat → Prop} {cid : Nat → ClassId} {ad : Nat → Nat} (hD : va_D A (sm_w cid ad (si_h si_H0))) : va_D A (sm_w cid (fun k => ad (si_pi k)) (si_h si_H1)) :=
  ⟨fun i j x y hi hj hxy => by
    have h := hD.1 _ _ x y (si_ent hi) (si_ent hj) hxy
    rw [← si_rp i, h, si_rp], fun k x h => hD.2 _ x (si_ent h)⟩
/-! The first world fits. -/
def si_in (x : Int) (r : ar_R) : Bool := r.any fun q => decide (q.1 ≤ x) && decide (x ≤ q.2)
theorem si_in_s {x : Int} {r : ar_R} (h : si_in x r = true) : ar_in x r := by
  obtain ⟨q, hq, h⟩ := List.any_eq_true.mp h
  obtain ⟨h1, h2⟩ := sm_an h
  exact ⟨q, hq, of_decide_eq_true h1, of_decide_eq_true h2⟩
def si_m (v : aw_V) (w : Value) : Bool := match v, w with
  | .inl k, .ref r => Nat.beq k r
  | .inr (false, r), .int x => si_in x.toInt r
  | .inr (true, r), .long x => si_in x.toInt r
  | _, _ => false
theorem si_m_s {v : aw_V} {w : Value} (h : si_m v w = true) : aw_m v w := by
  unfold si_m at h
  split at h
  · rw [Nat.eq_of_beq_eq_true h]
    rfl
  · exact ⟨_, rfl, si_in_s h⟩
  · exact ⟨_, rfl, si_in_s h⟩
  · cases h
def si_mm : List aw_V → List Value → Bool
  | [], [] => true
  | v :: vs, w :: ws => si_m v w && si_mm vs ws
  | _, _ => false
theorem si_mm_s : ∀ {vs : List aw_V} {fs : List Value}, si_mm vs fs = true → fs.length = vs.length ∧ ∀ (k : Nat) (v : aw_V) (w : Value), vs[k]? = some v → fs[k]? = some w → aw_m v w
  | [], [], _ => ⟨rfl, fun k v w h => by cases h⟩
  | [], _ :: _, h => by cases h
  | _ :: _, [], h => by cases h
  | v0 :: vs, w0 :: ws, h => by
    obtain ⟨h1, h2⟩ := sm_an h
    obtain ⟨i1, i2⟩ := si_mm_s h2
    refine ⟨by rw [List.length_cons, List.length_cons, i1], fun k v w hv hw => ?_⟩
    cases k with
    | zero =>
      cases hv
      cases hw
      exact si_m_s h1
    | succ k => exact i2 k v w hv hw
def si_c (c : aw_A) (e : si_E) : Bool := match c, e with
  | .inr (.inr (.inr _)), _ => true
  | .inl (ci, vs), .inl (ci', fs) => Nat.beq ci ci' && si_mm vs fs
  | .inr (.inl (t, n, sg, tr)), .inr (.inl (t', n', us)) => Nat.beq t t' && (Nat.beq n n' && ((sg.all fun q => (List.range (q.2.1 + 1 - q.1)).all fun d => si_in (si_f us (q.1 + d)).toInt q.2.2) && tr.all fun q => Nat.blt q.1 n && si_in (si_f us q.1).toInt q.2))
  | .inr (.inr (.inl (t, cs))), .inr (.inr (t', cs')) => Nat.beq t t' && (Nat.ble 2 t && (Nat.blt t 5 && decide (cs' = cs.map some)))
  | _, _ => false
theorem si_c_s {c : aw_A} {e : si_E} (h : si_c c e = true) : aw_c c (si_d e) := by
  unfold si_c at h
  split at h
  · trivial
  · obtain ⟨h1, h2⟩ := sm_an h
    have h1 := Nat.eq_of_beq_eq_true h1
    subst h1
    obtain ⟨i1, i2⟩ := si_mm_s h2
    exact ⟨_, rfl, i1, i2⟩
  · rename_i t n sg tr t' n' us
    obtain ⟨h1, h⟩ := sm_an h
    obtain ⟨h2, h⟩ := sm_an h
    obtain ⟨h3, h4⟩ := sm_an h
    have h1 := Nat.eq_of_beq_eq_true h1
    have h2 := Nat.eq_of_beq_eq_true h2
    subst h1
    subst h2
    refine ⟨si_f us, rfl, fun q hq j a b => ?_, fun q hq => ?_⟩
    · have g := List.all_eq_true.mp (List.all_eq_true.mp h3 q hq) (j - q.1) (List.mem_range.mpr (by omega))
      rw [show q.1 + (j - q.1) = j by omega] at g
      exact si_in_s g
    · obtain ⟨g1, g2⟩ := sm_an (List.all_eq_true.mp h4 q hq)
      exact ⟨Nat.le_of_ble_eq_true g1, si_in_s g2⟩
  · rename_i t cs t' cs'
    obtain ⟨h1, h⟩ := sm_an h
    obtain ⟨h2, h⟩ := sm_an h
    obtain ⟨h3, h4⟩ := sm_an h
    have h1 := Nat.eq_of_beq_eq_true h1
    subst h1
    have h4 := of_decide_eq_true h4
    subst h4
    refine ⟨Nat.le_of_ble_eq_true h2, Nat.le_of_ble_eq_true h3, si_g (cs.map some), ?_, fun j b hj => ?_⟩
    · show (Sum.inl (t, (cs.map some).length, .inr (.inr (.inr (.inr (si_g (cs.map some)))))) : va_E) = _
      rw [List.length_map]
    · unfold si_g
      rw [List.getElem?_map, hj]
      rfl
  · cases h
theorem si_aw {H : aw_H} {hh : List si_E} (b : (H.all fun q => match hh[q.1]? with
    | some e => si_c q.2 e
    | none => false) = true) : aw_h H (si_h hh) := by
  intro q hq
  have g := List.all_eq_true.mp b q hq
  split at g
  · rename_i e he
    exact ⟨_, si_h_get he, si_c_s g⟩
  · cases g
theorem si_ps : ps_h (si_h si_H1) := by
  have z : ∀ c, si_H1[c + 1]? = some (.inr (.inl (0, 40, []))) → si_H1[c + 1 + 1]? = some (.inr (.inl (0, 40, []))) → si_H1[c + 1 + 2]? = some (.inr (.inl (0, 40, []))) → ps_1 (c + 1) (si_h si_H1) := fun c h1 h2 h3 =>
    ⟨si_f [], si_f [], si_f [], si_h_get h1, si_h_get h2, si_h_get h3, fun d _ h => absurd (show ((0 : Int32).toInt = 1) from h) (by decide)⟩
  intro c hc
  unfold ps_C at hc
  simp only [List.mem_cons, List.not_mem_nil, or_false] at hc
  rcases hc with rfl | rfl | rfl | rfl
  · exact z 42 (by rfl) (by rfl) (by rfl)
  · exact z 47 (by rfl) (by rfl) (by rfl)
  · exact z 51 (by rfl) (by rfl) (by rfl)
  · exact z 55 (by rfl) (by rfl) (by rfl)
theorem mg_go2 {c : ak_C} {d : Nat} {W : aw_H} {li mi : ar_R} {te : List (Nat × Nat × ar_R)} (hc : ak_ok ps_h (sm_Ex 200 sm_ML sm_B d) c) (hk : fz_G c.1 = true) (b : mg_b W c = true) {h : List va_E} (hI : aw_h (mw li mi te) h) (hW : aw_h W h) (hp : ps_h h) {vs : List Value} (ha : ak_as c.2.1 vs) : ∃ o h', sm_Ex 200 sm_ML sm_B d c.1 vs h o h' ∧ ps_h h' ∧ (∀ a, a ∉ c.2.2.2.1 → h'[a]? = h[a]?) ∧ (∀ a, a < 81 → h'[a]? = h[a]?) ∧ aw_h (mw li mi te) h' ∧ ak_end c vs o h' := by
  obtain ⟨b1, b⟩ := sm_an b
  obtain ⟨b2, b3⟩ := sm_an b
  obtain ⟨o, h', x1, x2, x3, x4⟩ := hc vs h ha (ah_sub_s b1 hW) hp
  have w : ∀ a, a ∈ c.2.2.2.1 → 81 ≤ a ∧ a ≠ 86 := by
    intro a ha
    obtain ⟨w1, w2⟩ := sm_an (List.all_eq_true.mp b2 a ha)
    refine ⟨Nat.le_of_ble_eq_true w1, fun z => ?_⟩
    subst z
    cases w2
  refine ⟨o, h', x1, x2, x3, fun a ha => x3 a (fun z => by have := (w a z).1; omega), ?_, x4⟩
  obtain ⟨q, hq, q1, q2, q3⟩ := x4
  exact mw_keep hI (ah_sub_s (List.all_eq_true.mp b3 q hq) (ak_hp_s hW q3 x3)) (x3 86 (fun z => (w 86 z).2 rfl)) (fz_run _ _ _ _ _ _ hk x1)
theorem kg_go2 {c : ak_C} {d : Nat} (hc : ak_ok ps_h (sm_Ex 200 sm_ML sm_B d) c) (b : kg_b c = true) {h : List va_E} (hI : aw_h kw h) (hp : ps_h h) {vs : List Value} (ha : ak_as c.2.1 vs) : ∃ o h', sm_Ex 200 sm_ML sm_B d c.1 vs h o h' ∧ ps_h h' ∧ (∀ a, a ∉ c.2.2.2.1 → h'[a]? = h[a]?) ∧ (∀ a, 81 ≤ a → h'[a]? = h[a]?) ∧ aw_h kw h' ∧ ak_end c vs o h' := by
  obtain ⟨b1, b⟩ := sm_an b
  obtain ⟨b2, b3⟩ := sm_an b
  obtain ⟨o, h', x1, x2, x3, x4⟩ := hc vs h ha (ah_sub_s b1 hI) hp
  refine ⟨o, h', x1, x2, x3, fun a ha => x3 a (fun z => ?_), ?_, x4⟩
  · have := Nat.le_of_ble_eq_true (List.all_eq_true.mp b2 a z)
    omega
  · obtain ⟨q, hq, q1, q2, q3⟩ := x4
    exact ah_sub_s (List.all_eq_true.mp b3 q hq) (ak_hp_s hI q3 x3)
/-! Both sides' public methods from any world of theirs, called with places of the script. -/
def lw_R (b : Bool) (o : Option Value) : Prop := ∃ w, o = some w ∧ w.category = (if b then 2 else 1)
def lr_r (b : Bool) (v : Option aw_V) : Bool := match v with
  | some (.inr (b', _)) => b == b'
  | _ => false
theorem lr_s {b : Bool} {v : Option aw_V} {o : Option Value} (h : lr_r b v = true) (hr : ak_res v o) : lw_R b o := by
  match v, h with
  | some (.inr (b', r)), h =>
    have e : b = b' := by simpa [lr_r] using h
    subst e
    cases o with
    | none => exact hr.elim
    | some w =>
      cases b with
      | false => obtain ⟨x, rfl, -⟩ := hr; exact ⟨_, rfl, rfl⟩
      | true => obtain ⟨x, rfl, -⟩ := hr; exact ⟨_, rfl, rfl⟩
/-- the script's places i + j, i + j + 1, .. -/
def la_vs (xs : Nat → Int32) (i : Nat) : Nat → Nat → List Value
  | 0, _ => []
  | n + 1, j => .int (xs (i + j)) :: la_vs xs i n (j + 1)
theorem la_len (xs : Nat → Int32) (i : Nat) : ∀ n j : Nat, (la_vs xs i n j).length = n
  | 0, _ => rfl
  | n + 1, j => by rw [la_vs, List.length_cons, la_len xs i n (j + 1)]
theorem la_as (xs : Nat → Int32) (i : Nat) : ∀ n j : Nat, ak_as (List.replicate n (.inr (false, ar_t32))) (la_vs xs i n j)
  | 0, _ => trivial
  | n + 1, j => ⟨⟨_, rfl, ar_in32 _⟩, la_as xs i n (j + 1)⟩
def kd_ok (b : Bool) (k : Nat) (S : List Nat) (vs : List Value) : Prop := ∀ h : List va_E, aw_h kw h → ps_h h → ∃ o h', sm_Ex 200 sm_ML sm_B 12 k vs h o h' ∧ ps_h h' ∧ (∀ a, 81 ≤ a ∨ a ∈ S → h'[a]? = h[a]?) ∧ aw_h kw h' ∧ lw_R b o
def md_ok (b : Bool) (k : Nat) (S : List Nat) (vs : List Value) : Prop := ∀ (m : Nat) (h : List va_E), m < 5 → aw_h (mwm m) h → ps_h h → ∃ o h', sm_Ex 200 sm_ML sm_B 12 k vs h o h' ∧ ps_h h' ∧ (∀ a, a < 81 ∨ a ∈ S → h'[a]? = h[a]?) ∧ (∃ m', m' < 5 ∧ aw_h (mwm m') h') ∧ lw_R b o
def lr_b (b : Bool) (c : ak_C) : Bool := c.2.2.2.2.all fun q => lr_r b q.2.1
def fr_b (S : List Nat) (c : ak_C) : Bool := S.all fun a => !decide (a ∈ c.2.2.2.1)
theorem fr_s {S : List Nat} {c : ak_C} (h : fr_b S c = true) : ∀ a ∈ S, a ∉ c.2.2.2.1 := fun a ha => by
  have e := List.all_eq_true.mp h a ha
  intro z
  rw [decide_eq_true z] at e
  cases e
theorem kd_c {S : List Nat} {c : ak_C} {d n i j : Nat} {b : Bool} {xs : Nat → Int32} (hc : ak_ok ps_h (sm_Ex 200 sm_ML sm_B d) c) (hd : d ≤ 12) (bb : (kg_b c && (lr_b b c && fr_b S c)) = true) (ha : c.2.1 = .inl 0 :: List.replicate n (.inr (false, ar_t32))) : kd_ok b c.1 S (.ref 0 :: la_vs xs i n j) := by
  obtain ⟨b1, b2⟩ := sm_an bb
  obtain ⟨b2, b3⟩ := sm_an b2
  intro h hk hp
  obtain ⟨o, h', x1, x2, x0, x3, x4, q, hq, q1, q2, q3⟩ := kg_go2 (ak_ok_le 12 hd hc) b1 hk hp (vs := .ref 0 :: la_vs xs i n j) (by rw [ha]; exact ⟨rfl, la_as xs i n j⟩)
  exact ⟨o, h', x1, x2, fun a ha => ha.elim (x3 a) (fun z => x0 a (fr_s b3 a z)), x4, lr_s (List.all_eq_true.mp b2 q hq) q2⟩
theorem mwm_G : ∀ m, m < 5 → ah_sub (mwm m) mwG = true := by decide +kernel
/-- a contract for the worlds W, mice m -/
def md_1 (b : Bool) (k n : Nat) (S : List Nat) (m : Nat) : Prop := ∃ (c : ak_C) (W : aw_H), c.1 = k ∧ ak_ok ps_h (sm_Ex 200 sm_ML sm_B 12) c ∧ fz_G k = true ∧ (mg_b W c && (lr_b b c && fr_b S c)) = true ∧ c.2.1 = .inl 81 :: List.replicate n (.inr (false, ar_t32)) ∧ ah_sub (mwm m) W = true
theorem md_c {b : Bool} {k n : Nat} {S : List Nat} (hc : ∀ m, m < 5 → md_1 b k n S m) {i j : Nat} {xs : Nat → Int32} : md_ok b k S (.ref 81 :: la_vs xs i n j) := by
  intro m h hm hI hp
  obtain ⟨c, W, rfl, hc, hk, bb, ha, hs⟩ := hc m hm
  obtain ⟨b1, b2⟩ := sm_an bb
  obtain ⟨b2, b3⟩ := sm_an b2
  obtain ⟨o, h', x1, x2, x0, x3, x4, q, hq, q1, q2, q3⟩ := mg_go2 hc hk b1 hI (ah_sub_s hs hI) hp (vs := .ref 81 :: la_vs xs i n j) (by rw [ha]; exact ⟨rfl, la_as xs i n j⟩)
  exact ⟨o, h', x1, x2, fun a ha => ha.elim (x3 a) (fun z => x0 a (fr_s b3 a z)), ⟨m, hm, x4⟩, lr_s (List.all_eq_true.mp b2 q hq) q2⟩
theorem md_G {S : List Nat} {b : Bool} {c : ak_C} {d n : Nat} (hc : ak_ok ps_h (sm_Ex 200 sm_ML sm_B d) c) (hd : d ≤ 12) (hk : fz_G c.1 = true) (bb : (mg_b mwG c && (lr_b b c && fr_b S c)) = true) (ha : c.2.1 = .inl 81 :: List.replicate n (.inr (false, ar_t32))) : ∀ m, m < 5 → md_1 b c.1 n S m := fun m hm => ⟨c, mwG, rfl, ak_ok_le 12 hd hc, hk, bb, ha, mwm_G m hm⟩
def mwA : aw_H := mw [(0, 8)] [(0, 0)] []
def mwB : aw_H := mw [(1, 8)] [(1, 4)] []
/-! Every public method, by its contract. -/
theorem kd0 {xs : Nat → Int32} {i : Nat} : kd_ok false 0 [2, 9, 10, 11, 12, 13, 14] (.ref 0 :: la_vs xs i 2 1) := kd_c (c := kcc12) (ko12 ps_P ko_h) (by decide) (by decide +kernel) rfl
theorem md0_1 : ∀ m, m < 5 → md_1 false 103 2 [89, 90] m := md_G (c := mgc6) (mgo6 ps_P) (by decide) rfl (by decide +kernel) rfl
theorem md0 {xs : Nat → Int32} {i : Nat} : md_ok false 103 [89, 90] (.ref 81 :: la_vs xs i 2 1) := md_c md0_1
theorem kd1 {xs : Nat → Int32} {i : Nat} : kd_ok false 3 [1, 2, 9, 10, 11, 12, 13, 14] (.ref 0 :: la_vs xs i 3 1) := kd_c (c := kcc15) (ko15 ps_P ko_h) (by decide) (by decide +kernel) rfl
theorem md1_1 : ∀ m, m < 5 → md_1 false 108 3 [87, 89, 90] m := md_G (c := mgc10) (mgo10 ps_P) (by decide) rfl (by decide +kernel) rfl
theorem md1 {xs : Nat → Int32} {i : Nat} : md_ok false 108 [87, 89, 90] (.ref 81 :: la_vs xs i 3 1) := md_c md1_1
theorem kd2 {xs : Nat → Int32} {i : Nat} : kd_ok false 6 [1, 2, 3, 4, 5, 6, 7, 8, 9, 10, 11, 12, 13, 14] (.ref 0 :: la_vs xs i 2 1) := kd_c (c := kcc16) (ko16 ps_P ko_h) (by decide) (by decide +kernel) rfl
theorem md2_1 : ∀ m, m < 5 → md_1 false 111 2 [87, 88, 89, 90] m := md_G (c := mgc11) (mgo11 ps_P) (by decide) rfl (by decide +kernel) rfl
theorem md2 {xs : Nat → Int32} {i : Nat} : md_ok false 111 [87, 88, 89, 90] (.ref 81 :: la_vs xs i 2 1) := md_c md2_1
theorem kd3 {xs : Nat → Int32} {i : Nat} : kd_ok false 7 [2, 3, 4, 5, 6, 7, 8, 9, 10, 11, 12, 13, 14] (.ref 0 :: la_vs xs i 1 1) := kd_c (c := kcc17) (ko17 ps_P ko_h) (by decide) (by decide +kernel) rfl
theorem md3_1 : ∀ m, m < 5 → md_1 false 112 1 [88, 89, 90] m := md_G (c := mgc12) (mgo12 ps_P) (by decide) rfl (by decide +kernel) rfl
theorem md3 {xs : Nat → Int32} {i : Nat} : md_ok false 112 [88, 89, 90] (.ref 81 :: la_vs xs i 1 1) := md_c md3_1
theorem kd4 {xs : Nat → Int32} {i : Nat} : kd_ok false 8 [1, 2, 9, 10, 11, 12, 13, 14] (.ref 0 :: la_vs xs i 5 1) := kd_c (c := kcc9) (ko9 ko_h) (by decide) (by decide +kernel) rfl
theorem md4_1 : ∀ m, m < 5 → md_1 false 113 5 [87, 89, 90] m := md_G (c := mgc0) (mgo0 ps_P) (by decide) rfl (by decide +kernel) rfl
theorem md4 {xs : Nat → Int32} {i : Nat} : md_ok false 113 [87, 89, 90] (.ref 81 :: la_vs xs i 5 1) := md_c md4_1
theorem kd5 {xs : Nat → Int32} {i : Nat} : kd_ok false 10 [1, 2, 3, 4, 5, 6, 7, 8, 9, 10, 11, 12, 13, 14] (.ref 0 :: la_vs xs i 1 1) := kd_c (c := kcc18) (ko18 ps_P ko_h) (by decide) (by decide +kernel) rfl
theorem md5_1 : ∀ m, m < 5 → md_1 false 115 1 [87, 88, 89, 90] m := md_G (c := mgc13) (mgo13 ps_P) (by decide) rfl (by decide +kernel) rfl
theorem md5 {xs : Nat → Int32} {i : Nat} : md_ok false 115 [87, 88, 89, 90] (.ref 81 :: la_vs xs i 1 1) := md_c md5_1
theorem kd6 {xs : Nat → Int32} {i : Nat} : kd_ok false 11 [1, 2, 3, 4, 5, 6, 7, 8, 10] (.ref 0 :: la_vs xs i 2 1) := kd_c (c := kcc20) (ko20 ps_P ko_h) (by decide) (by decide +kernel) rfl
theorem md6_1 : ∀ m, m < 5 → md_1 false 116 2 [87, 88] m := md_G (c := mgc16) (mgo16 ps_P) (by decide) rfl (by decide +kernel) rfl
theorem md6 {xs : Nat → Int32} {i : Nat} : md_ok false 116 [87, 88] (.ref 81 :: la_vs xs i 2 1) := md_c md6_1
theorem kd7 {xs : Nat → Int32} {i : Nat} : kd_ok false 13 [1, 2, 3, 4, 5, 6, 7, 8, 9, 10] (.ref 0 :: la_vs xs i 3 1) := kd_c (c := kcc21) (ko21 ps_P ko_h) (by decide) (by decide +kernel) rfl
theorem md7_1 : ∀ m, m < 5 → md_1 false 118 3 [87, 88, 89] m := md_G (c := mgc18) (mgo18 ps_P) (by decide) rfl (by decide +kernel) rfl
theorem md7 {xs : Nat → Int32} {i : Nat} : md_ok false 118 [87, 88, 89] (.ref 81 :: la_vs xs i 3 1) := md_c md7_1
theorem kd10 {xs : Nat → Int32} {i : Nat} : kd_ok false 24 [1, 2, 3, 4, 5, 6, 7, 8, 9, 10, 11, 12, 13, 14] (.ref 0 :: la_vs xs i 2 1) := kd_c (c := kcc983) (ko983 ps_P ko_h) (by decide) (by decide +kernel) rfl
theorem md10_1 : ∀ m, m < 5 → md_1 false 130 2 [87, 88, 89, 90] m := md_G (c := mgc6338) (mgo6338 ps_P) (by decide) rfl (by decide +kernel) rfl
theorem md10 {xs : Nat → Int32} {i : Nat} : md_ok false 130 [87, 88, 89, 90] (.ref 81 :: la_vs xs i 2 1) := md_c md10_1
theorem kd11 {xs : Nat → Int32} {i : Nat} : kd_ok false 32 [1, 2, 3, 4, 5, 6, 7, 8, 9, 10, 11, 12, 13, 14] (.ref 0 :: la_vs xs i 2 1) := kd_c (c := kcc987) (ko987 ps_P ko_h) (by decide) (by decide +kernel) rfl
theorem md11_1 : ∀ m, m < 5 → md_1 false 139 2 [87, 88, 89, 90] m := md_G (c := mgc6344) (mgo6344 ps_P) (by decide) rfl (by decide +kernel) rfl
theorem md11 {xs : Nat → Int32} {i : Nat} : md_ok false 139 [87, 88, 89, 90] (.ref 81 :: la_vs xs i 2 1) := md_c md11_1
theorem kd12 {xs : Nat → Int32} {i : Nat} : kd_ok false 36 [1, 2, 3, 4, 5, 6, 7, 8, 9, 10, 11, 12, 13, 14] (.ref 0 :: la_vs xs i 2 1) := kd_c (c := kcc993) (ko993 ps_P ko_h) (by decide) (by decide +kernel) rfl
theorem md12_1 : ∀ m, m < 5 → md_1 false 143 2 [87, 88, 89, 90] m := fun m hm => match m, hm with
  | 0, _ => ⟨m0c4, (mwm 0), rfl, ak_ok_le 12 (by decide) (m0o4 ps_P), rfl, by decide +kernel, rfl, by decide +kernel⟩
  | 1, _ => ⟨m1c14, (mwm 1), rfl, ak_ok_le 12 (by decide) (m1o14 ps_P), rfl, by decide +kernel, rfl, by decide +kernel⟩
  | 2, _ => ⟨m2c14, (mwm 2), rfl, ak_ok_le 12 (by decide) (m2o14 ps_P), rfl, by decide +kernel, rfl, by decide +kernel⟩
  | 3, _ => ⟨m3c14, (mwm 3), rfl, ak_ok_le 12 (by decide) (m3o14 ps_P), rfl, by decide +kernel, rfl, by decide +kernel⟩
  | 4, _ => ⟨m4c14, (mwm 4), rfl, ak_ok_le 12 (by decide) (m4o14 ps_P), rfl, by decide +kernel, rfl, by decide +kernel⟩
  | n + 5, hm => absurd hm (by omega)
theorem md12 {xs : Nat → Int32} {i : Nat} : md_ok false 143 [87, 88, 89, 90] (.ref 81 :: la_vs xs i 2 1) := md_c md12_1
theorem kd13 {xs : Nat → Int32} {i : Nat} : kd_ok false 42 [1, 2, 3, 4, 5, 6, 7, 8, 9, 10, 11, 12, 13, 14] (.ref 0 :: la_vs xs i 0 1) := kd_c (c := kcc997) (ko997 ps_P ko_h) (by decide) (by decide +kernel) rfl
theorem md13_1 : ∀ m, m < 5 → md_1 false 148 0 [87, 88, 89, 90] m := md_G (c := mgc6347) (mgo6347 ps_P) (by decide) rfl (by decide +kernel) rfl
theorem md13 {xs : Nat → Int32} {i : Nat} : md_ok false 148 [87, 88, 89, 90] (.ref 81 :: la_vs xs i 0 1) := md_c md13_1
theorem kd14 {xs : Nat → Int32} {i : Nat} : kd_ok false 47 [1, 2, 3, 4, 5, 6, 7, 8, 9, 10, 11, 12, 13, 14] (.ref 0 :: la_vs xs i 2 1) := kd_c (c := kcc1000) (ko1000 ps_P ko_h) (by decide) (by decide +kernel) rfl
theorem md14_1 : ∀ m, m < 5 → md_1 false 151 2 [87, 88, 89, 90] m := md_G (c := mgc6349) (mgo6349 ps_P) (by decide) rfl (by decide +kernel) rfl
theorem md14 {xs : Nat → Int32} {i : Nat} : md_ok false 151 [87, 88, 89, 90] (.ref 81 :: la_vs xs i 2 1) := md_c md14_1
theorem kd15 {xs : Nat → Int32} {i : Nat} : kd_ok false 48 [1, 2, 3, 4, 5, 6, 7, 8, 9, 10, 11, 12, 13, 14] (.ref 0 :: la_vs xs i 1 1) := kd_c (c := kcc1005) (ko1005 ps_P ko_h) (by decide) (by decide +kernel) rfl
theorem md15_1 : ∀ m, m < 5 → md_1 false 152 1 [87, 88, 89, 90] m := md_G (c := mgc6350) (mgo6350 ps_P) (by decide) rfl (by decide +kernel) rfl
theorem md15 {xs : Nat → Int32} {i : Nat} : md_ok false 152 [87, 88, 89, 90] (.ref 81 :: la_vs xs i 1 1) := md_c md15_1
theorem kd16 {xs : Nat → Int32} {i : Nat} : kd_ok false 49 [1, 2, 3, 4, 5, 6, 7, 8, 9, 10, 11, 12, 13, 14] (.ref 0 :: la_vs xs i 1 1) := kd_c (c := kcc1008) (ko1008 ps_P ko_h) (by decide) (by decide +kernel) rfl
theorem md16_1 : ∀ m, m < 5 → md_1 false 153 1 [87, 88, 89, 90] m := md_G (c := mgc6351) (mgo6351 ps_P) (by decide) rfl (by decide +kernel) rfl
theorem md16 {xs : Nat → Int32} {i : Nat} : md_ok false 153 [87, 88, 89, 90] (.ref 81 :: la_vs xs i 1 1) := md_c md16_1
theorem kd17 {xs : Nat → Int32} {i : Nat} : kd_ok false 50 [1, 2, 3, 4, 5, 6, 7, 8, 9, 10, 11, 12, 13, 14] (.ref 0 :: la_vs xs i 1 1) := kd_c (c := kcc1009) (ko1009 ps_P ko_h) (by decide) (by decide +kernel) rfl
theorem kd18 {xs : Nat → Int32} {i : Nat} : kd_ok false 52 [1, 2, 3, 4, 5, 6, 7, 8, 9, 10, 11, 12, 13, 14] (.ref 0 :: la_vs xs i 1 1) := kd_c (c := kcc1011) (ko1011 ps_P ko_h) (by decide) (by decide +kernel) rfl
theorem md18_1 : ∀ m, m < 5 → md_1 false 155 1 [87, 88, 89, 90] m := md_G (c := mgc6358) (mgo6358 ps_P) (by decide) rfl (by decide +kernel) rfl
theorem md18 {xs : Nat → Int32} {i : Nat} : md_ok false 155 [87, 88, 89, 90] (.ref 81 :: la_vs xs i 1 1) := md_c md18_1
theorem kd19 {xs : Nat → Int32} {i : Nat} : kd_ok false 55 [1, 2, 3, 4, 5, 6, 7, 8, 9, 10, 11, 12, 13, 14] (.ref 0 :: la_vs xs i 1 1) := kd_c (c := kcc1012) (ko1012 ps_P ko_h) (by decide) (by decide +kernel) rfl
theorem md19_1 : ∀ m, m < 5 → md_1 false 157 1 [87, 88, 89, 90] m := md_G (c := mgc6362) (mgo6362 ps_P) (by decide) rfl (by decide +kernel) rfl
theorem md19 {xs : Nat → Int32} {i : Nat} : md_ok false 157 [87, 88, 89, 90] (.ref 81 :: la_vs xs i 1 1) := md_c md19_1
theorem kd20 {xs : Nat → Int32} {i : Nat} : kd_ok false 56 [1, 2, 3, 4, 5, 6, 7, 8, 9, 10, 11, 12, 13, 14] (.ref 0 :: la_vs xs i 4 1) := kd_c (c := kcc1013) (ko1013 ps_P ko_h) (by decide) (by decide +kernel) rfl
theorem md20_1 : ∀ m, m < 5 → md_1 false 158 4 [87, 88, 89, 90] m := md_G (c := mgc6366) (mgo6366 ps_P) (by decide) rfl (by decide +kernel) rfl
theorem md20 {xs : Nat → Int32} {i : Nat} : md_ok false 158 [87, 88, 89, 90] (.ref 81 :: la_vs xs i 4 1) := md_c md20_1
theorem kd21 {xs : Nat → Int32} {i : Nat} : kd_ok false 57 [1, 2, 3, 4, 5, 6, 7, 8, 9, 10, 11, 12, 13, 14] (.ref 0 :: la_vs xs i 2 1) := kd_c (c := kcc1021) (ko1021 ps_P ko_h) (by decide) (by decide +kernel) rfl
theorem md21_1 : ∀ m, m < 5 → md_1 false 159 2 [87, 88, 89, 90] m := md_G (c := mgc6374) (mgo6374 ps_P) (by decide) rfl (by decide +kernel) rfl
theorem md21 {xs : Nat → Int32} {i : Nat} : md_ok false 159 [87, 88, 89, 90] (.ref 81 :: la_vs xs i 2 1) := md_c md21_1
theorem kd22 {xs : Nat → Int32} {i : Nat} : kd_ok false 60 [1, 2, 3, 4, 5, 6, 7, 8, 9, 10, 11, 12, 13, 14] (.ref 0 :: la_vs xs i 1 1) := kd_c (c := kcc1023) (ko1023 ps_P ko_h) (by decide) (by decide +kernel) rfl
theorem md22_1 : ∀ m, m < 5 → md_1 false 162 1 [87, 88, 89, 90] m := md_G (c := mgc6376) (mgo6376 ps_P) (by decide) rfl (by decide +kernel) rfl
theorem md22 {xs : Nat → Int32} {i : Nat} : md_ok false 162 [87, 88, 89, 90] (.ref 81 :: la_vs xs i 1 1) := md_c md22_1
theorem kd23 {xs : Nat → Int32} {i : Nat} : kd_ok false 62 [1, 2, 3, 4, 5, 6, 7, 8, 9, 10, 11, 12, 13, 14] (.ref 0 :: la_vs xs i 1 1) := kd_c (c := kcc1024) (ko1024 ps_P ko_h) (by decide) (by decide +kernel) rfl
theorem md23_1 : ∀ m, m < 5 → md_1 false 164 1 [87, 88, 89, 90] m := md_G (c := mgc6377) (mgo6377 ps_P) (by decide) rfl (by decide +kernel) rfl
theorem md23 {xs : Nat → Int32} {i : Nat} : md_ok false 164 [87, 88, 89, 90] (.ref 81 :: la_vs xs i 1 1) := md_c md23_1
theorem kd24 {xs : Nat → Int32} {i : Nat} : kd_ok false 63 [1, 2, 3, 4, 5, 6, 7, 8, 9, 10, 11, 12, 13, 14] (.ref 0 :: la_vs xs i 2 1) := kd_c (c := kcc1026) (ko1026 ps_P ko_h) (by decide) (by decide +kernel) rfl
theorem md24_1 : ∀ m, m < 5 → md_1 false 165 2 [87, 88, 89, 90] m := md_G (c := mgc6380) (mgo6380 ps_P) (by decide) rfl (by decide +kernel) rfl
theorem md24 {xs : Nat → Int32} {i : Nat} : md_ok false 165 [87, 88, 89, 90] (.ref 81 :: la_vs xs i 2 1) := md_c md24_1
theorem kd25 {xs : Nat → Int32} {i : Nat} : kd_ok false 65 [1, 2, 3, 4, 5, 6, 7, 8, 9, 10, 11, 12, 13, 14] (.ref 0 :: la_vs xs i 1 1) := kd_c (c := kcc1028) (ko1028 ps_P ko_h) (by decide) (by decide +kernel) rfl
theorem md25_1 : ∀ m, m < 5 → md_1 false 167 1 [87, 88, 89, 90] m := md_G (c := mgc6382) (mgo6382 ps_P) (by decide) rfl (by decide +kernel) rfl
theorem md25 {xs : Nat → Int32} {i : Nat} : md_ok false 167 [87, 88, 89, 90] (.ref 81 :: la_vs xs i 1 1) := md_c md25_1
theorem kd26 {xs : Nat → Int32} {i : Nat} : kd_ok false 67 [1, 2, 3, 4, 5, 6, 7, 8, 9, 10, 11, 12, 13, 14] (.ref 0 :: la_vs xs i 2 1) := kd_c (c := kcc1031) (ko1031 ps_P ko_h) (by decide) (by decide +kernel) rfl
theorem md26_1 : ∀ m, m < 5 → md_1 false 169 2 [87, 88, 89, 90] m := md_G (c := mgc6386) (mgo6386 ps_P) (by decide) rfl (by decide +kernel) rfl
theorem md26 {xs : Nat → Int32} {i : Nat} : md_ok false 169 [87, 88, 89, 90] (.ref 81 :: la_vs xs i 2 1) := md_c md26_1
theorem kd27 {xs : Nat → Int32} {i : Nat} : kd_ok false 70 [1, 2, 3, 4, 5, 6, 7, 8, 9, 10, 11, 12, 13, 14] (.ref 0 :: la_vs xs i 2 1) := kd_c (c := kcc1033) (ko1033 ps_P ko_h) (by decide) (by decide +kernel) rfl
theorem md27_1 : ∀ m, m < 5 → md_1 false 172 2 [87, 88, 89, 90] m := md_G (c := mgc6388) (mgo6388 ps_P) (by decide) rfl (by decide +kernel) rfl
theorem md27 {xs : Nat → Int32} {i : Nat} : md_ok false 172 [87, 88, 89, 90] (.ref 81 :: la_vs xs i 2 1) := md_c md27_1
theorem kd28 {xs : Nat → Int32} {i : Nat} : kd_ok false 72 [1, 2, 3, 4, 5, 6, 7, 8, 9, 10, 11, 12, 13, 14] (.ref 0 :: la_vs xs i 2 1) := kd_c (c := kcc1037) (ko1037 ps_P ko_h) (by decide) (by decide +kernel) rfl
theorem md28_1 : ∀ m, m < 5 → md_1 false 174 2 [87, 88, 89, 90] m := md_G (c := mgc6390) (mgo6390 ps_P) (by decide) rfl (by decide +kernel) rfl
theorem md28 {xs : Nat → Int32} {i : Nat} : md_ok false 174 [87, 88, 89, 90] (.ref 81 :: la_vs xs i 2 1) := md_c md28_1
theorem kd29 {xs : Nat → Int32} {i : Nat} : kd_ok false 76 [1, 2, 3, 4, 5, 6, 7, 8, 9, 10, 11, 12, 13, 14] (.ref 0 :: la_vs xs i 1 1) := kd_c (c := kcc1041) (ko1041 ps_P ko_h) (by decide) (by decide +kernel) rfl
theorem md29_1 : ∀ m, m < 5 → md_1 false 176 1 [87, 88, 89, 90] m := md_G (c := mgc6394) (mgo6394 ps_P) (by decide) rfl (by decide +kernel) rfl
theorem md29 {xs : Nat → Int32} {i : Nat} : md_ok false 176 [87, 88, 89, 90] (.ref 81 :: la_vs xs i 1 1) := md_c md29_1
theorem kd30 {xs : Nat → Int32} {i : Nat} : kd_ok false 80 [1, 2, 3, 4, 5, 6, 7, 8, 9, 10, 11, 12, 13, 14] (.ref 0 :: la_vs xs i 1 1) := kd_c (c := kcc1042) (ko1042 ps_P ko_h) (by decide) (by decide +kernel) rfl
theorem md30_1 : ∀ m, m < 5 → md_1 false 179 1 [87, 88, 89, 90] m := md_G (c := mgc6395) (mgo6395 ps_P) (by decide) rfl (by decide +kernel) rfl
theorem md30 {xs : Nat → Int32} {i : Nat} : md_ok false 179 [87, 88, 89, 90] (.ref 81 :: la_vs xs i 1 1) := md_c md30_1
theorem kd31 {xs : Nat → Int32} {i : Nat} : kd_ok false 81 [1, 2, 3, 4, 5, 6, 7, 8, 9, 10, 11, 12, 13, 14] (.ref 0 :: la_vs xs i 3 1) := kd_c (c := kcc1053) (ko1053 ps_P ko_h) (by decide) (by decide +kernel) rfl
theorem md31_1 : ∀ m, m < 5 → md_1 false 180 3 [87, 88, 89, 90] m := md_G (c := mgc1) (mgo1 ps_P) (by decide) rfl (by decide +kernel) rfl
theorem md31 {xs : Nat → Int32} {i : Nat} : md_ok false 180 [87, 88, 89, 90] (.ref 81 :: la_vs xs i 3 1) := md_c md31_1
theorem kd32 {xs : Nat → Int32} {i : Nat} : kd_ok false 83 [1, 2, 3, 4, 5, 6, 7, 8, 9, 10, 11, 12, 13, 14] (.ref 0 :: la_vs xs i 2 1) := kd_c (c := kcc1057) (ko1057 ps_P ko_h) (by decide) (by decide +kernel) rfl
theorem md32_1 : ∀ m, m < 5 → md_1 false 184 2 [87, 88, 89, 90] m := fun m hm => match m, hm with
  | 0, _ => ⟨m0c13, (mwm 0), rfl, ak_ok_le 12 (by decide) (m0o13 ps_P), rfl, by decide +kernel, rfl, by decide +kernel⟩
  | 1, _ => ⟨m1c31, (mwm 1), rfl, ak_ok_le 12 (by decide) (m1o31 ps_P), rfl, by decide +kernel, rfl, by decide +kernel⟩
  | 2, _ => ⟨m2c41, (mwm 2), rfl, ak_ok_le 12 (by decide) (m2o41 ps_P), rfl, by decide +kernel, rfl, by decide +kernel⟩
  | 3, _ => ⟨m3c65, (mwm 3), rfl, ak_ok_le 12 (by decide) (m3o65 ps_P), rfl, by decide +kernel, rfl, by decide +kernel⟩
  | 4, _ => ⟨m4c121, (mwm 4), rfl, ak_ok_le 12 (by decide) (m4o121 ps_P), rfl, by decide +kernel, rfl, by decide +kernel⟩
  | n + 5, hm => absurd hm (by omega)
theorem md32 {xs : Nat → Int32} {i : Nat} : md_ok false 184 [87, 88, 89, 90] (.ref 81 :: la_vs xs i 2 1) := md_c md32_1
theorem kd33 {xs : Nat → Int32} {i : Nat} : kd_ok false 87 [1, 2, 3, 4, 5, 6, 7, 8, 9, 10, 11, 12, 13, 14] (.ref 0 :: la_vs xs i 1 1) := kd_c (c := kcc1058) (ko1058 ps_P ko_h) (by decide) (by decide +kernel) rfl
theorem md33_1 : ∀ m, m < 5 → md_1 false 187 1 [87, 88, 89, 90] m := fun m hm => match m, hm with
  | 0, _ => ⟨m0c14, (mwm 0), rfl, ak_ok_le 12 (by decide) (m0o14 ps_P), rfl, by decide +kernel, rfl, by decide +kernel⟩
  | 1, _ => ⟨m1c33, (mwm 1), rfl, ak_ok_le 12 (by decide) (m1o33 ps_P), rfl, by decide +kernel, rfl, by decide +kernel⟩
  | 2, _ => ⟨m2c43, (mwm 2), rfl, ak_ok_le 12 (by decide) (m2o43 ps_P), rfl, by decide +kernel, rfl, by decide +kernel⟩
  | 3, _ => ⟨m3c67, (mwm 3), rfl, ak_ok_le 12 (by decide) (m3o67 ps_P), rfl, by decide +kernel, rfl, by decide +kernel⟩
  | 4, _ => ⟨m4c123, (mwm 4), rfl, ak_ok_le 12 (by decide) (m4o123 ps_P), rfl, by decide +kernel, rfl, by decide +kernel⟩
  | n + 5, hm => absurd hm (by omega)
theorem md33 {xs : Nat → Int32} {i : Nat} : md_ok false 187 [87, 88, 89, 90] (.ref 81 :: la_vs xs i 1 1) := md_c md33_1
theorem kd34 {xs : Nat → Int32} {i : Nat} : kd_ok false 88 [1, 2, 3, 4, 5, 6, 7, 8, 9, 10, 11, 12, 13, 14] (.ref 0 :: la_vs xs i 2 1) := kd_c (c := kcc1067) (ko1067 ps_P ko_h) (by decide) (by decide +kernel) rfl
theorem md34_1 : ∀ m, m < 5 → md_1 false 188 2 [87, 88, 89, 90] m := fun m hm => match m, hm with
  | 0, _ => ⟨mac4, mwA, rfl, ak_ok_le 12 (by decide) (mao4 ps_P), rfl, by decide +kernel, rfl, by decide +kernel⟩
  | 1, _ => ⟨mbc71, mwB, rfl, ak_ok_le 12 (by decide) (mbo71 ps_P), rfl, by decide +kernel, rfl, by decide +kernel⟩
  | 2, _ => ⟨mbc71, mwB, rfl, ak_ok_le 12 (by decide) (mbo71 ps_P), rfl, by decide +kernel, rfl, by decide +kernel⟩
  | 3, _ => ⟨mbc71, mwB, rfl, ak_ok_le 12 (by decide) (mbo71 ps_P), rfl, by decide +kernel, rfl, by decide +kernel⟩
  | 4, _ => ⟨mbc71, mwB, rfl, ak_ok_le 12 (by decide) (mbo71 ps_P), rfl, by decide +kernel, rfl, by decide +kernel⟩
  | n + 5, hm => absurd hm (by omega)
theorem md34 {xs : Nat → Int32} {i : Nat} : md_ok false 188 [87, 88, 89, 90] (.ref 81 :: la_vs xs i 2 1) := md_c md34_1
theorem kd35 {xs : Nat → Int32} {i : Nat} : kd_ok false 90 [1, 2, 3, 4, 5, 6, 7, 8, 9, 10, 11, 12, 13, 14] (.ref 0 :: la_vs xs i 0 1) := kd_c (c := kcc1068) (ko1068 ps_P ko_h) (by decide) (by decide +kernel) rfl
theorem md35_1 : ∀ m, m < 5 → md_1 false 190 0 [87, 88, 89, 90] m := md_G (c := mgc6396) (mgo6396 ps_P) (by decide) rfl (by decide +kernel) rfl
theorem md35 {xs : Nat → Int32} {i : Nat} : md_ok false 190 [87, 88, 89, 90] (.ref 81 :: la_vs xs i 0 1) := md_c md35_1
theorem kd36 {xs : Nat → Int32} {i : Nat} : kd_ok true 91 [1, 2, 3, 4, 5, 6, 7, 8, 9, 10, 11, 12, 13, 14] (.ref 0 :: la_vs xs i 0 1) := kd_c (c := kcc1069) (ko1069 ps_P ko_h) (by decide) (by decide +kernel) rfl
theorem md36_1 : ∀ m, m < 5 → md_1 true 191 0 [87, 88, 89, 90] m := md_G (c := mgc6397) (mgo6397 ps_P) (by decide) rfl (by decide +kernel) rfl
theorem md36 {xs : Nat → Int32} {i : Nat} : md_ok true 191 [87, 88, 89, 90] (.ref 81 :: la_vs xs i 0 1) := md_c md36_1
theorem kd37 {xs : Nat → Int32} {i : Nat} : kd_ok true 92 [1, 2, 3, 4, 5, 6, 7, 8, 9, 10, 11, 12, 13, 14] (.ref 0 :: la_vs xs i 0 1) := kd_c (c := kcc1070) (ko1070 ps_P ko_h) (by decide) (by decide +kernel) rfl
theorem md37_1 : ∀ m, m < 5 → md_1 true 192 0 [87, 88, 89, 90] m := md_G (c := mgc6398) (mgo6398 ps_P) (by decide) rfl (by decide +kernel) rfl
theorem md37 {xs : Nat → Int32} {i : Nat} : md_ok true 192 [87, 88, 89, 90] (.ref 81 :: la_vs xs i 0 1) := md_c md37_1
theorem kd38 {xs : Nat → Int32} {i : Nat} : kd_ok false 93 [1, 2, 3, 4, 5, 6, 7, 8, 9, 10, 11, 12, 13, 14] (.ref 0 :: la_vs xs i 1 1) := kd_c (c := kcc1077) (ko1077 ps_P ko_h) (by decide) (by decide +kernel) rfl
theorem md38_1 : ∀ m, m < 5 → md_1 false 193 1 [87, 88, 89, 90] m := md_G (c := mgc6407) (mgo6407 ps_P) (by decide) rfl (by decide +kernel) rfl
theorem md38 {xs : Nat → Int32} {i : Nat} : md_ok false 193 [87, 88, 89, 90] (.ref 81 :: la_vs xs i 1 1) := md_c md38_1
theorem kd39 {xs : Nat → Int32} {i : Nat} : kd_ok false 98 [1, 2, 3, 4, 5, 6, 7, 8, 9, 10, 11, 12, 13, 14] (.ref 0 :: la_vs xs i 0 1) := kd_c (c := kcc1078) (ko1078 ps_P ko_h) (by decide) (by decide +kernel) rfl
theorem md39_1 : ∀ m, m < 5 → md_1 false 197 0 [87, 88, 89, 90] m := md_G (c := mgc6408) (mgo6408 ps_P) (by decide) rfl (by decide +kernel) rfl
theorem md39 {xs : Nat → Int32} {i : Nat} : md_ok false 197 [87, 88, 89, 90] (.ref 81 :: la_vs xs i 0 1) := md_c md39_1
theorem kd40 {xs : Nat → Int32} {i : Nat} : kd_ok false 99 [1, 2, 3, 4, 5, 6, 7, 8, 9, 10, 11, 12, 13, 14] (.ref 0 :: la_vs xs i 1 1) := kd_c (c := kcc1079) (ko1079 ps_P ko_h) (by decide) (by decide +kernel) rfl
theorem md40_1 : ∀ m, m < 5 → md_1 false 198 1 [87, 88, 89, 90] m := md_G (c := mgc6410) (mgo6410 ps_P) (by decide) rfl (by decide +kernel) rfl
theorem md40 {xs : Nat → Int32} {i : Nat} : md_ok false 198 [87, 88, 89, 90] (.ref 81 :: la_vs xs i 1 1) := md_c md40_1
theorem kd41 {xs : Nat → Int32} {i : Nat} : kd_ok true 100 [1, 2, 3, 4, 5, 6, 7, 8, 9, 10, 11, 12, 13, 14] (.ref 0 :: la_vs xs i 0 1) := kd_c (c := kcc1082) (ko1082 ps_P ko_h) (by decide) (by decide +kernel) rfl
theorem md41_1 : ∀ m, m < 5 → md_1 true 199 0 [87, 88, 89, 90] m := md_G (c := mgc6411) (mgo6411 ps_P) (by decide) rfl (by decide +kernel) rfl
theorem md41 {xs : Nat → Int32} {i : Nat} : md_ok true 199 [87, 88, 89, 90] (.ref 81 :: la_vs xs i 0 1) := md_c md41_1
