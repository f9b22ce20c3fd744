/-! The worlds' bounds as numbers, kept by fault and register. -/
def kwL : List wo_O := [(1, 0, 5, -1, 40), (9, 0, 3, -1, 60), (15, 0, 0, 0, 8), (15, 1, 1, 0, 4), (22, 0, 3, 0, 7), (23, 0, 3, 0, 7), (24, 0, 0, 0, 8), (24, 1, 1, 0, 4), (31, 0, 3, 0, 7), (32, 0, 3, 0, 7), (33, 0, 0, 0, 8), (33, 1, 1, 0, 4), (40, 0, 3, 0, 7), (41, 0, 3, 0, 7), (42, 0, 0, 0, 40), (47, 0, 0, -1, 40), (51, 0, 0, -1, 40), (55, 0, 0, -1, 40)]
theorem kw_o : kw.flatMap wo_o = kwL := by decide +kernel
theorem kw_c : kw.all wo_c = true := by decide +kernel
def sgL : List wo_O := wo_o (82, ms_r [(0, [(-1, 40)])])
def mwL (m : Nat) : List wo_O := (81, 1, 1, (if m = 0 then 0 else 1), 8) :: (81, 4, 4, (m : Int), (m : Int)) :: (81, 16, 16, 0, 180) :: (81, 17, 17, 0, 60) :: (81, 18, 18, -1, 60) :: (81, 19, 19, 0, 8) :: (81, 22, 22, 0, 4) :: (sgL ++ ((if m = 0 then [] else [(86, 0, m - 1, 1, 9)]) ++ [(87, 0, 5, -1, 40), (89, 0, 3, -1, 60), (94, 1, 1, 0, 7), (94, 4, 4, 0, 7), (94, 7, 7, 0, 7), (94, 10, 10, 0, 7), (96, 0, 3, 0, 9)]))
theorem mw_o : ∀ m, m < 5 → (mwm m).flatMap wo_o = mwL m := fun m hm => match m, hm with
  | 0, _ => by decide +kernel
  | 1, _ => by decide +kernel
  | 2, _ => by decide +kernel
  | 3, _ => by decide +kernel
  | 4, _ => by decide +kernel
  | n + 5, hm => absurd hm (by omega)
theorem mw_c : ∀ m, m < 5 → (mwm m).all wo_c = true := by decide +kernel
def kz (X : fl_M) : Prop := ∀ o ∈ kwL, wo_h X o
/-- the reference's long row, within bounds -/
def sgP (X : fl_M) : Prop := ∀ o ∈ sgL, wo_h X o
theorem sg_82 : ∀ o ∈ sgL, o.1 = 82 := by decide +kernel
theorem sg_k : ∀ o ∈ sgL, (o.2.2.2.1 ≤ 0 ∧ 0 ≤ o.2.2.2.2) ∧ ¬ (o.2.1 ≤ 2 ∧ 2 ≤ o.2.2.1) ∧ ¬ (o.2.1 ≤ 11 ∧ 4 ≤ o.2.2.1) ∧ ((o.2.1 ≤ 23 ∧ 20 ≤ o.2.2.1) → o.2.2.2.1 ≤ 0 ∧ 7 ≤ o.2.2.2.2) ∧ ((o.2.1 ≤ 944 ∧ 944 ≤ o.2.2.1) → o.2.2.2.1 ≤ -1 ∧ -1 ≤ o.2.2.2.2) ∧ ((o.2.1 ≤ 1888 ∧ 1888 ≤ o.2.2.1) → o.2.2.2.1 ≤ -1 ∧ -1 ≤ o.2.2.2.2) ∧ ((o.2.1 ≤ 2832 ∧ 2832 ≤ o.2.2.1) → o.2.2.2.1 ≤ -1 ∧ -1 ≤ o.2.2.2.2) := by decide +kernel
theorem sg_c {X Y : fl_M} (h : sgP X) (e : Y 82 = X 82) : sgP Y := fun o ho j h1 h2 => by
  have g := h o ho j h1 h2
  rw [sg_82 o ho] at g ⊢
  rw [e]
  exact g
theorem sg_u {X : fl_M} {j : Nat} {v : Int32} (h : sgP X) (hc : ∀ o ∈ sgL, o.2.1 ≤ j → j ≤ o.2.2.1 → o.2.2.2.1 ≤ v.toInt ∧ v.toInt ≤ o.2.2.2.2) : sgP (fl_u X 82 j v) := fun o ho i h1 h2 => by
  by_cases e : i = j
  · rw [sg_82 o ho, e, fl_us]
    exact hc o ho (by omega) (by omega)
  · rw [sg_82 o ho, fl_uo (Or.inr e)]
    have g := h o ho i h1 h2
    rw [sg_82 o ho] at g
    exact g
theorem sg_39 {B : fl_M} (h : sgP B) : sgP (lr_129_39 B) := fun o ho i h1 h2 => by
  rw [rg_39]
  split
  · exact (sg_k o ho).1
  · exact h o ho i h1 h2
theorem fx_kj {P : fl_M → Prop} {s : Nat → fl_M → fl_M} {n : Nat} {M : fl_M} (h0 : P M) (hs : ∀ m q, m < n → P q → P (s m q)) : P (fx_it s n M) := by
  induction n with
  | zero => exact h0
  | succ n ih => exact hs n _ (Nat.lt_succ_self n) (ih (fun m q hm => hs m q (Nat.lt_succ_of_lt hm)))
theorem sg_85 {Y : fl_M} (h : sgP Y) (h8 : (Y 81 1).toNatClampNeg ≤ 8) : sgP (lr_129_85 Y) := by
  refine fx_kj h (fun m q hm hq => ?_)
  have en := fi_at (m := m) (by omega)
  have e4 := fj_nn (fj_pa (x := 4) (y := Int32.ofNat m) (a := 4) (c := m) rfl (fi_ti (by omega)) (by omega))
  unfold ls_129_85
  rw [en, e4]
  exact sg_u (sg_c (sg_c hq (fl_un (by decide))) (fl_un (by decide))) (fun o ho h1 h2 => absurd (⟨by omega, by omega⟩ : o.2.1 ≤ 11 ∧ 4 ≤ o.2.2.1) (sg_k o ho).2.2.1)
theorem sg_139 {Y : fl_M} (h : sgP Y) (h4 : (Y 81 4).toNatClampNeg ≤ 4) (h9 : ∀ j : Nat, (j = 1 ∨ j = 4 ∨ j = 7 ∨ j = 10) → 0 ≤ (Y 94 j).toInt ∧ (Y 94 j).toInt ≤ 7) : sgP (lr_129_139 Y) := by
  refine (fx_kj (P := fun q => sgP q ∧ q 94 = Y 94) ⟨h, rfl⟩ (fun m q hm hq => ?_)).1
  obtain ⟨hq, e9⟩ := hq
  have en := fi_at (m := m) (by omega)
  have e20 := fj_nn (fj_pa (x := 20) (y := Int32.ofNat m) (a := 20) (c := m) rfl (fi_ti (by omega)) (by omega))
  have e3 : (3 * Int32.ofNat m).toInt = ((3 * m : Nat) : Int) := by
    have em := fi_ti (m := m) (by omega)
    rw [fi_mul (by rw [em, fi_i3]; omega) (by rw [em, fi_i3]; omega), em, fi_i3]
    omega
  have e31 := fj_nn (fj_pa (x := 3 * Int32.ofNat m) (y := 1) (a := 3 * m) (c := 1) e3 rfl (by omega))
  unfold ls_129_139
  rw [en, e20, e31]
  have g := h9 (3 * m + 1) (by omega)
  rw [← e9] at g
  refine ⟨sg_c (sg_u (sg_c hq (fl_un (by decide))) (fun o ho h1 h2 => ?_)) (fl_un (by decide)), by rw [fl_un (by decide), fl_un (by decide), fl_un (by decide)]; exact e9⟩
  have k := (sg_k o ho).2.2.2.1 ⟨by omega, by omega⟩
  omega
theorem sg_204 {Y : fl_M} (h : sgP Y) : sgP (lr_129_204 Y) := by
  refine fx_kj h (fun m q hm hq => ?_)
  have em := fi_ti (m := 1 + m) (by omega)
  have e9 : (944 * Int32.ofNat (1 + m)).toInt = ((944 * (1 + m) : Nat) : Int) := by
    rw [fi_mul (by rw [em, show (944 : Int32).toInt = 944 from rfl]; omega) (by rw [em, show (944 : Int32).toInt = 944 from rfl]; omega), em, show (944 : Int32).toInt = 944 from rfl]
    omega
  have e := fj_nn e9
  have m1 : (-1 : Int32).toInt = -1 := rfl
  unfold ls_129_204
  rw [Int32.add_zero, e]
  refine sg_u hq (fun o ho h1 h2 => ?_)
  rw [m1]
  have k := (sg_k o ho).2.2.2.2
  have : m = 0 ∨ m = 1 ∨ m = 2 := by omega
  rcases this with rfl | rfl | rfl
  · exact k.1 ⟨h1, h2⟩
  · exact k.2.1 ⟨h1, h2⟩
  · exact k.2.2 ⟨h1, h2⟩
/-- the reference's bounds, with m mice -/
def mz (m : Nat) (X : fl_M) : Prop := (0 ≤ (X 81 1).toInt ∧ (X 81 1).toInt ≤ 8) ∧ (0 < m → 1 ≤ (X 81 1).toInt) ∧ (X 81 4).toInt = m ∧ (0 ≤ (X 81 16).toInt ∧ (X 81 16).toInt ≤ 180) ∧ (0 ≤ (X 81 17).toInt ∧ (X 81 17).toInt ≤ 60) ∧ (-1 ≤ (X 81 18).toInt ∧ (X 81 18).toInt ≤ 60) ∧ (0 ≤ (X 81 19).toInt ∧ (X 81 19).toInt ≤ 8) ∧ (0 ≤ (X 81 22).toInt ∧ (X 81 22).toInt ≤ 4) ∧ sgP X ∧
  (∀ j, j < m → 1 ≤ (X 86 j).toInt ∧ (X 86 j).toInt ≤ 9) ∧ (∀ j, j < 6 → -1 ≤ (X 87 j).toInt ∧ (X 87 j).toInt ≤ 40) ∧ (∀ j, j < 4 → -1 ≤ (X 89 j).toInt ∧ (X 89 j).toInt ≤ 60) ∧ (∀ j : Nat, (j = 1 ∨ j = 4 ∨ j = 7 ∨ j = 10) → 0 ≤ (X 94 j).toInt ∧ (X 94 j).toInt ≤ 7) ∧ ∀ j, j < 4 → 0 ≤ (X 96 j).toInt ∧ (X 96 j).toInt ≤ 9
theorem mz_e {m : Nat} {X Y : fl_M} (g : mz m X) (e81 : ∀ j, (j = 1 ∨ j = 4 ∨ j = 16 ∨ j = 17 ∨ j = 18 ∨ j = 19 ∨ j = 22) → Y 81 j = X 81 j) (ec : ∀ c, (c = 82 ∨ c = 86 ∨ c = 87 ∨ c = 89 ∨ c = 94 ∨ c = 96) → Y c = X c) : mz m Y := by
  obtain ⟨a1, a2, a4, a16, a17, a18, a19, a22, b0, b86, b87, b89, b94, b96⟩ := g
  exact ⟨by rw [e81 1 (by decide)]; exact a1, by rw [e81 1 (by decide)]; exact a2, by rw [e81 4 (by decide)]; exact a4, by rw [e81 16 (by decide)]; exact a16, by rw [e81 17 (by decide)]; exact a17, by rw [e81 18 (by decide)]; exact a18, by rw [e81 19 (by decide)]; exact a19, by rw [e81 22 (by decide)]; exact a22, sg_c b0 (ec 82 (by decide)), by rw [ec 86 (by decide)]; exact b86, by rw [ec 87 (by decide)]; exact b87, by rw [ec 89 (by decide)]; exact b89, by rw [ec 94 (by decide)]; exact b94, by rw [ec 96 (by decide)]; exact b96⟩
theorem wo_one {X : fl_M} {a k : Nat} {lo hi : Int} (h : lo ≤ (X a k).toInt ∧ (X a k).toInt ≤ hi) : wo_h X (a, k, k, lo, hi) := fun j h1 h2 => by
  have : j = k := Nat.le_antisymm h2 h1
  rw [this]
  exact h
theorem wo_all {X : fl_M} {a k : Nat} {lo hi : Int} (h : ∀ j, j < k + 1 → lo ≤ (X a j).toInt ∧ (X a j).toInt ≤ hi) : wo_h X (a, 0, k, lo, hi) := fun j _ h2 => h j (Nat.lt_succ_of_le h2)
theorem mz_l {m : Nat} {X : fl_M} (h : mz m X) : ∀ o ∈ mwL m, wo_h X o := by
  obtain ⟨a1, a2, a4, a16, a17, a18, a19, a22, b0, b86, b87, b89, b94, b96⟩ := h
  unfold mwL
  refine List.forall_mem_cons.mpr ⟨wo_one ⟨?_, a1.2⟩, List.forall_mem_cons.mpr ⟨wo_one ⟨by omega, by omega⟩, List.forall_mem_cons.mpr ⟨wo_one a16, List.forall_mem_cons.mpr ⟨wo_one a17, List.forall_mem_cons.mpr ⟨wo_one a18, List.forall_mem_cons.mpr ⟨wo_one a19, List.forall_mem_cons.mpr ⟨wo_one a22, List.forall_mem_append.mpr ⟨b0, List.forall_mem_append.mpr ⟨?_, ?_⟩⟩⟩⟩⟩⟩⟩⟩⟩
  · split
    · exact a1.1
    · exact a2 (by omega)
  · split
    · exact fun o ho => absurd ho List.not_mem_nil
    · exact List.forall_mem_cons.mpr ⟨wo_all (fun j hj => b86 j (by omega)), fun o ho => absurd ho List.not_mem_nil⟩
  · exact List.forall_mem_cons.mpr ⟨wo_all b87, List.forall_mem_cons.mpr ⟨wo_all b89, List.forall_mem_cons.mpr ⟨wo_one (b94 1 (by decide)), List.forall_mem_cons.mpr ⟨wo_one (b94 4 (by decide)), List.forall_mem_cons.mpr ⟨wo_one (b94 7 (by decide)), List.forall_mem_cons.mpr ⟨wo_one (b94 10 (by decide)), List.forall_mem_cons.mpr ⟨wo_all b96, fun o ho => absurd ho List.not_mem_nil⟩⟩⟩⟩⟩⟩⟩
theorem l_mz {m : Nat} {X : fl_M} (h : ∀ o ∈ mwL m, wo_h X o) : mz m X := by
  unfold mwL at h
  obtain ⟨q1, h⟩ := List.forall_mem_cons.mp h
  obtain ⟨q4, h⟩ := List.forall_mem_cons.mp h
  obtain ⟨q16, h⟩ := List.forall_mem_cons.mp h
  obtain ⟨q17, h⟩ := List.forall_mem_cons.mp h
  obtain ⟨q18, h⟩ := List.forall_mem_cons.mp h
  obtain ⟨q19, h⟩ := List.forall_mem_cons.mp h
  obtain ⟨q22, h⟩ := List.forall_mem_cons.mp h
  obtain ⟨q82, h⟩ := List.forall_mem_append.mp h
  obtain ⟨q86, h⟩ := List.forall_mem_append.mp h
  obtain ⟨q87, h⟩ := List.forall_mem_cons.mp h
  obtain ⟨q89, h⟩ := List.forall_mem_cons.mp h
  obtain ⟨p1, h⟩ := List.forall_mem_cons.mp h
  obtain ⟨p4, h⟩ := List.forall_mem_cons.mp h
  obtain ⟨p7, h⟩ := List.forall_mem_cons.mp h
  obtain ⟨p10, h⟩ := List.forall_mem_cons.mp h
  obtain ⟨q96, h⟩ := List.forall_mem_cons.mp h
  have a1 : (if m = 0 then (0 : Int) else 1) ≤ (X 81 1).toInt ∧ (X 81 1).toInt ≤ 8 := q1 1 (Nat.le_refl _) (Nat.le_refl _)
  have a4 : (m : Int) ≤ (X 81 4).toInt ∧ (X 81 4).toInt ≤ (m : Int) := q4 4 (Nat.le_refl _) (Nat.le_refl _)
  refine ⟨⟨?_, a1.2⟩, fun hm => ?_, by omega, q16 16 (Nat.le_refl _) (Nat.le_refl _), q17 17 (Nat.le_refl _) (Nat.le_refl _), q18 18 (Nat.le_refl _) (Nat.le_refl _), q19 19 (Nat.le_refl _) (Nat.le_refl _), q22 22 (Nat.le_refl _) (Nat.le_refl _), q82, fun j hj => ?_, fun j hj => q87 j (Nat.zero_le _) (show j ≤ 5 by omega), fun j hj => q89 j (Nat.zero_le _) (show j ≤ 3 by omega), fun j hj => ?_, fun j hj => q96 j (Nat.zero_le _) (show j ≤ 3 by omega)⟩
  · have := a1.1
    split at this <;> omega
  · have := a1.1
    rw [if_neg (by omega)] at this
    exact this
  · rw [if_neg (show ¬ m = 0 by omega)] at q86
    exact (List.forall_mem_cons.mp q86).1 j (Nat.zero_le _) (show j ≤ m - 1 by omega)
  · rcases hj with rfl | rfl | rfl | rfl
    · exact p1 1 (Nat.le_refl _) (Nat.le_refl _)
    · exact p4 4 (Nat.le_refl _) (Nat.le_refl _)
    · exact p7 7 (Nat.le_refl _) (Nat.le_refl _)
    · exact p10 10 (Nat.le_refl _) (Nat.le_refl _)
theorem ps_n {h : List va_E} (hh : fl_sh h) (hp : wo_p (fm_i h)) : ps_h h := by
  intro c hc
  have hc' : c = 42 ∨ c = 47 ∨ c = 51 ∨ c = 55 := by unfold ps_C at hc; simp only [List.mem_cons, List.not_mem_nil, or_false] at hc; exact hc
  have g := hp c hc'
  have a : ∀ a : Nat, fl_kd a = 0 → a < 98 → fl_len a = 40 → h[a]? = some (.inl (0, 40, .inl (fm_i h a))) := fun a k l e => by rw [← e]; exact fw_arr hh k (by decide) l
  rcases hc' with rfl | rfl | rfl | rfl <;> exact ⟨_, _, _, a _ rfl (by decide) rfl, a _ rfl (by decide) rfl, a _ rfl (by decide) rfl, g⟩
theorem n_ps {h : List va_E} (hh : fl_sh h) (hp : ps_h h) : wo_p (fm_i h) := by
  intro c hc d hd h1
  obtain ⟨fw, fl, fa, g0, g1, g2, g3⟩ := hp c (by unfold ps_C; simp only [List.mem_cons, List.not_mem_nil, or_false]; exact hc)
  rw [fm_i_arr hh g0] at h1
  rw [show c + 2 = c + 1 + 1 from rfl, fm_i_arr hh g1]
  exact g3 d hd h1
theorem I_n {h : List va_E} (hh : fl_sh h) (k : kz (fm_i h)) {m : Nat} (hm : m < 5) (g : mz m (fm_i h)) (p : wo_p (fm_i h)) : lw_I h := ⟨ps_n hh p, wo_hs hh kw_c (by rw [kw_o]; exact k), m, hm, wo_hs hh (mw_c m hm) (by rw [mw_o m hm]; exact mz_l g)⟩
theorem n_I {h : List va_E} (hh : fl_sh h) (hI : lw_I h) : kz (fm_i h) ∧ wo_p (fm_i h) ∧ ∃ m, m < 5 ∧ mz m (fm_i h) := by
  obtain ⟨hp, hk, m, hm, hw⟩ := hI
  refine ⟨?_, n_ps hh hp, m, hm, l_mz ?_⟩
  · have g := wo_hr hh hk
    rw [kw_o] at g
    exact g
  · have g := wo_hr hh hw
    rw [mw_o m hm] at g
    exact g
theorem kz_u {X : fl_M} {a j : Nat} {v : Int32} (h : kz X) (hc : ∀ o ∈ kwL, o.1 = a → o.2.1 ≤ j → j ≤ o.2.2.1 → o.2.2.2.1 ≤ v.toInt ∧ v.toInt ≤ o.2.2.2.2) : kz (fl_u X a j v) := fun o ho i h1 h2 => by
  by_cases e : o.1 = a
  · by_cases e2 : i = j
    · rw [e, e2, fl_us]
      exact hc o ho e (by omega) (by omega)
    · rw [fl_uo (Or.inr e2)]
      exact h o ho i h1 h2
  · rw [fl_un e]
    exact h o ho i h1 h2
/-- a cell that no bound names -/
theorem kz_n {X : fl_M} {a j : Nat} {v : Int32} (h : kz X) (ha : (kwL.all fun o => !(Nat.beq o.1 a)) = true) : kz (fl_u X a j v) := kz_u h (fun o ho e => by
  have g := List.all_eq_true.mp ha o ho
  rw [e, Nat.beq_refl] at g
  cases g)
def kz_b (a j : Nat) (lo hi : Int) : Bool := kwL.all fun o => !(Nat.beq o.1 a && (Nat.ble o.2.1 j && Nat.ble j o.2.2.1)) || (decide (o.2.2.2.1 ≤ lo) && decide (hi ≤ o.2.2.2.2))
theorem kz_v {X : fl_M} {a j : Nat} {v : Int32} {lo hi : Int} (h : kz X) (hb : kz_b a j lo hi = true) (h1 : lo ≤ v.toInt) (h2 : v.toInt ≤ hi) : kz (fl_u X a j v) := kz_u h (fun o ho e e1 e2 => by
  have g := List.all_eq_true.mp hb o ho
  rw [e, Nat.beq_refl, Nat.ble_eq_true_of_le e1, Nat.ble_eq_true_of_le e2] at g
  obtain ⟨g1, g2⟩ := sm_an (show (decide (o.2.2.2.1 ≤ lo) && decide (hi ≤ o.2.2.2.2)) = true from g)
  have g1 := of_decide_eq_true g1
  have g2 := of_decide_eq_true g2
  exact ⟨by omega, by omega⟩)
def kz_d (a : Nat) (lo hi : Int) : Bool := kwL.all fun o => !(Nat.beq o.1 a) || (decide (o.2.2.2.1 ≤ lo) && decide (hi ≤ o.2.2.2.2))
theorem kz_w {X : fl_M} {a j : Nat} {v : Int32} {lo hi : Int} (h : kz X) (hb : kz_d a lo hi = true) (h1 : lo ≤ v.toInt) (h2 : v.toInt ≤ hi) : kz (fl_u X a j v) := kz_u h (fun o ho e _ _ => by
  have g := List.all_eq_true.mp hb o ho
  rw [e, Nat.beq_refl] at g
  obtain ⟨g1, g2⟩ := sm_an (show (decide (o.2.2.2.1 ≤ lo) && decide (hi ≤ o.2.2.2.2)) = true from g)
  have g1 := of_decide_eq_true g1
  have g2 := of_decide_eq_true g2
  exact ⟨by omega, by omega⟩)
theorem kz_31 {X : fl_M} (h : kz X) : ∀ j : Nat, j < 4 → 0 ≤ (X 31 j).toInt ∧ (X 31 j).toInt ≤ 7 := fun j hj => h (31, 0, 3, 0, 7) (by decide) j (Nat.zero_le _) (show j ≤ 3 by omega)
theorem kz_32 {X : fl_M} (h : kz X) : ∀ j : Nat, j < 4 → 0 ≤ (X 32 j).toInt ∧ (X 32 j).toInt ≤ 7 := fun j hj => h (32, 0, 3, 0, 7) (by decide) j (Nat.zero_le _) (show j ≤ 3 by omega)
theorem kz_24 {X : fl_M} (h : kz X) : (0 ≤ (X 24 0).toInt ∧ (X 24 0).toInt ≤ 8) ∧ 0 ≤ (X 24 1).toInt ∧ (X 24 1).toInt ≤ 4 := ⟨h (24, 0, 0, 0, 8) (by decide) 0 (Nat.le_refl _) (Nat.le_refl _), h (24, 1, 1, 0, 4) (by decide) 1 (Nat.le_refl _) (Nat.le_refl _)⟩
theorem kz_15 {X : fl_M} (h : kz X) : (0 ≤ (X 15 0).toInt ∧ (X 15 0).toInt ≤ 8) ∧ 0 ≤ (X 15 1).toInt ∧ (X 15 1).toInt ≤ 4 := ⟨h (15, 0, 0, 0, 8) (by decide) 0 (Nat.le_refl _) (Nat.le_refl _), h (15, 1, 1, 0, 4) (by decide) 1 (Nat.le_refl _) (Nat.le_refl _)⟩
/-- what is read, in the class' aside -/
theorem kz_ra {C : fl_M} {t : Int32} (h : kz C) (hK : C 999 = sm_kl) (h0 : 0 ≤ t.toInt) (h3 : t.toInt ≤ 3) : kz (ra_M C t) := by
  obtain ⟨⟨i0, i1, -⟩, q32, q31⟩ := cq_ra hK h0 h3 (kz_31 h)
  have az := az_ra C t
  have same : ∀ o ∈ kwL, (o.1 < 24 ∨ 32 < o.1) → wo_h (ra_M C t) o := fun o ho hc j h1 h2 => by rw [az o.1 hc]; exact h o ho j h1 h2
  have l : ∀ o ∈ kwL, (o.1 < 24 ∨ 32 < o.1) ∨ o = (24, 0, 0, 0, 8) ∨ o = (24, 1, 1, 0, 4) ∨ o = (31, 0, 3, 0, 7) ∨ o = (32, 0, 3, 0, 7) := by decide
  intro o ho
  rcases l o ho with hc | rfl | rfl | rfl | rfl
  · exact same o ho hc
  · exact wo_one i0
  · exact wo_one i1
  · exact wo_all q31
  · exact wo_all (fun j hj => by rw [q32]; exact kz_32 h j hj)
theorem fx_ki {P : fl_M → Prop} {s : Nat → fl_M → fl_M} {n : Nat} {M : fl_M} (h0 : P M) (hs : ∀ m q, m < n → P q → P (s m q)) : P (fx_it s n M) := by
  induction n with
  | zero => exact h0
  | succ n ih => exact hs n _ (Nat.lt_succ_self n) (ih (fun m q hm => hs m q (Nat.lt_succ_of_lt hm)))
theorem kz_bgn {X : fl_M} (h : kz X) : kz (bgn 24 X) := by
  unfold bgn
  have a : kz (fl_u (fl_u (fl_u X 24 2 0) 24 3 (-9)) 24 4 0) := kz_v (lo := 0) (hi := 0) (kz_v (lo := -9) (hi := -9) (kz_v (lo := 0) (hi := 0) h (by decide) (by decide) (by decide)) (by decide) (by decide) (by decide)) (by decide) (by decide) (by decide)
  have b : kz (lr_22_18 24 (fl_u (fl_u (fl_u X 24 2 0) 24 3 (-9)) 24 4 0)) := fx_ki a (fun m q _ hq => kz_n (kz_n hq (by decide)) (by decide))
  have hb := kz_24 b
  have cb := fi_cl (lr_22_18 24 (fl_u (fl_u (fl_u X 24 2 0) 24 3 (-9)) 24 4 0) 24 1)
  refine fx_ki b (fun m q hm hq => ?_)
  have e : (Int32.ofNat m).toNatClampNeg = m := fi_at (by omega)
  unfold ls_22_53
  rw [e]
  have g := kz_31 hq m (by omega)
  exact kz_w (lo := 0) (hi := 7) hq (by decide) g.1 g.2
theorem kz_23 {X : fl_M} (h : kz X) : kz (m_23 15 24 X) := by
  unfold m_23
  have h24 := kz_24 h
  have a0 : kz (fl_u X 15 0 (X 24 0)) := kz_v (lo := 0) (hi := 8) h (by decide) h24.1.1 h24.1.2
  have a1 : kz (fl_u (fl_u X 15 0 (X 24 0)) 15 1 ((fl_u X 15 0 (X 24 0)) 24 1)) := kz_v (lo := 0) (hi := 4) a0 (by decide) (kz_24 a0).2.1 (kz_24 a0).2.2
  have t : ∀ (Y : fl_M) (j : Nat) (v : Int32), (j = 2 ∨ j = 3 ∨ j = 4) → kz Y → kz (fl_u Y 15 j v) := fun Y j v hj hY => kz_u hY (fun o ho e e1 e2 => by
    have l : ∀ o ∈ kwL, o.1 = 15 → o.2.2.1 ≤ 1 := by decide
    have := l o ho e
    omega)
  have b : kz (fl_u (fl_u (fl_u (fl_u (fl_u X 15 0 (X 24 0)) 15 1 ((fl_u X 15 0 (X 24 0)) 24 1)) 15 2 ((fl_u (fl_u X 15 0 (X 24 0)) 15 1 ((fl_u X 15 0 (X 24 0)) 24 1)) 24 2)) 15 3 ((fl_u (fl_u (fl_u X 15 0 (X 24 0)) 15 1 ((fl_u X 15 0 (X 24 0)) 24 1)) 15 2 ((fl_u (fl_u X 15 0 (X 24 0)) 15 1 ((fl_u X 15 0 (X 24 0)) 24 1)) 24 2)) 24 3)) 15 4 ((fl_u (fl_u (fl_u (fl_u X 15 0 (X 24 0)) 15 1 ((fl_u X 15 0 (X 24 0)) 24 1)) 15 2 ((fl_u (fl_u X 15 0 (X 24 0)) 15 1 ((fl_u X 15 0 (X 24 0)) 24 1)) 24 2)) 15 3 ((fl_u (fl_u (fl_u X 15 0 (X 24 0)) 15 1 ((fl_u X 15 0 (X 24 0)) 24 1)) 15 2 ((fl_u (fl_u X 15 0 (X 24 0)) 15 1 ((fl_u X 15 0 (X 24 0)) 24 1)) 24 2)) 24 3)) 24 4)) := t _ _ _ (by decide) (t _ _ _ (by decide) (t _ _ _ (by decide) a1))
  have c : ∀ Y : fl_M, kz Y → kz (lr_23_42 15 24 Y) := fun Y hY => fx_ki hY (fun m q _ hq => kz_n (kz_n (kz_n (kz_n hq (by decide)) (by decide)) (by decide)) (by decide))
  have d : ∀ Y : fl_M, kz Y → kz (lr_23_106 15 24 Y) := fun Y hY => by
    have hb := (kz_15 hY).2
    have cb := fi_cl (Y 15 1)
    refine fx_ki hY (fun m q hm hq => ?_)
    have e : (Int32.ofNat m).toNatClampNeg = m := fi_at (by omega)
    unfold ls_23_106
    rw [e]
    have z1 : kz (fl_u q 20 m (q 29 m)) := kz_n hq (by decide)
    have z2 : kz (fl_u (fl_u q 20 m (q 29 m)) 21 m ((fl_u q 20 m (q 29 m)) 30 m)) := kz_n z1 (by decide)
    have g := kz_31 z2 m (by omega)
    have z3 : kz (fl_u (fl_u (fl_u q 20 m (q 29 m)) 21 m ((fl_u q 20 m (q 29 m)) 30 m)) 22 m ((fl_u (fl_u q 20 m (q 29 m)) 21 m ((fl_u q 20 m (q 29 m)) 30 m)) 31 m)) := kz_w (lo := 0) (hi := 7) z2 (by decide) g.1 g.2
    have g := kz_32 z3 m (by omega)
    exact kz_w (lo := 0) (hi := 7) z3 (by decide) g.1 g.2
  exact d _ (c _ b)
theorem kz_66 {X : fl_M} (h : kz X) : kz (lr_21_66 (fl_u X 42 0 0)) := by
  have a : kz (fl_u X 42 0 0) := kz_v (lo := 0) (hi := 0) h (by decide) (by decide) (by decide)
  refine fx_ki a (fun m q hm hq => ?_)
  have e : (Int32.ofNat m).toNatClampNeg = m := fi_at (by omega)
  unfold ls_21_66
  rw [e]
  have : m = 0 ∨ m = 1 ∨ m = 2 := by omega
  rcases this with rfl | rfl | rfl <;> exact kz_v (lo := -1) (hi := -1) hq (by decide) (by decide) (by decide)
/-- cells that register leaves alone on the class' side -/
theorem rg_fr {X : fl_M} {c : Nat} (h1 : c < 15 ∨ 32 < c) (h2 : c ≠ 42 ∧ c ≠ 47 ∧ c ≠ 51 ∧ c ≠ 55) : lr_21_66 (fl_u (m_23 15 24 (bgn 24 X)) 42 0 0) c = X c := by
  have a : ∀ Y : fl_M, lr_21_66 Y c = Y c := fun Y => by
    refine fx_ki (P := fun Z => Z c = Y c) rfl (fun m q hm hq => ?_)
    have e : (Int32.ofNat m).toNatClampNeg = m := fi_at (by omega)
    unfold ls_21_66
    rw [e]
    have : m = 0 ∨ m = 1 ∨ m = 2 := by omega
    rcases this with rfl | rfl | rfl
    · exact (fl_un (show c ≠ 47 by omega)).trans hq
    · exact (fl_un (show c ≠ 51 by omega)).trans hq
    · exact (fl_un (show c ≠ 55 by omega)).trans hq
  rw [a, fl_un h2.1]
  funext j
  rw [fr_23 (by omega)]
  unfold bgn
  rw [fr_22_53 (by omega), fr_22_18 (by omega), fl_un (by omega), fl_un (by omega), fl_un (by omega)]
theorem wo_pc {X Y : fl_M} (h : wo_p X) (e : ∀ c, (43 ≤ c ∧ c ≤ 58 ∧ c ≠ 47 ∧ c ≠ 51 ∧ c ≠ 55) → Y c = X c) : wo_p Y := fun c hc d hd h1 => by
  rw [e (c + 1) (by omega)] at h1
  rw [e (c + 2) (by omega)]
  exact h c hc d hd h1
/-! What is told stays, where nobody tells: the class' object's fields finding, upper, lower. -/
def fy_R (h h' : List va_E) : Prop := ∀ fs, h[0]? = some (.inr (2, fs)) → ∃ fs', h'[0]? = some (.inr (2, fs')) ∧ fs'[11]? = fs[11]? ∧ fs'[13]? = fs[13]? ∧ fs'[14]? = fs[14]?
theorem fy_rf (h : List va_E) : fy_R h h := fun fs hf => ⟨fs, hf, rfl, rfl, rfl⟩
theorem fy_tr {h h1 h2 : List va_E} (a : fy_R h h1) (b : fy_R h1 h2) : fy_R h h2 := fun fs hf => by
  obtain ⟨f1, x1, x2, x3, x4⟩ := a fs hf
  obtain ⟨f2, y1, y2, y3, y4⟩ := b f1 x1
  exact ⟨f2, y1, y2.trans x2, y3.trans x3, y4.trans x4⟩
def fy_L : List Nat := [5, 23, 25, 28, 29, 30, 31, 35, 46, 81, 82]
def fy_G (k : Nat) : Bool := fy_L.any fun q => Nat.beq q k
def fy_c (k : Nat) (i : Instr) : Bool := match i with
  | .putfield x => match sm_lk (sm_fl (sm_O k)) x with
    | some (ci, j, _) => !(Nat.beq ci 2 && (Nat.beq j 11 || (Nat.beq j 13 || Nat.beq j 14)))
    | none => true
  | .invokevirtual x => match sm_lk (sm_ca (sm_O k)) x with
    | some (_, k', _) => fy_G k'
    | none => true
  | .invokestatic x => match sm_lk (sm_ca (sm_O k)) x with
    | some (_, k', _) => fy_G k'
    | none => true
  | _ => true
def fy_k (k : Nat) : Bool := (sm_tl.getD k []).all fun u => u.2.all fun q => fy_c k q.2.1
theorem fy_all : ((List.range 200).all fun k => !(fy_G k) || fy_k k) = true := by decide +kernel
theorem fy_in {k pc n : Nat} {i : Instr} (hk : k < 200) (hg : fy_G k = true) (hi : (sm_B k).1 pc = some (i, n)) : fy_c k i = true := by
  have h1 := List.all_eq_true.mp fy_all k (List.mem_range.mpr hk)
  rw [hg] at h1
  have h1 : fy_k k = true := h1
  obtain ⟨u, hu, hm⟩ := sm_ch_s hi
  exact List.all_eq_true.mp (List.all_eq_true.mp h1 u hu) _ hm
theorem fy_rn {k : Nat} (hk : k < 200) (hg : fy_G k = true) {X : sm_X} (hX : ∀ k' vs h o h', fy_G k' = true → X k' vs h o h' → fy_R h h') : ∀ (f pc : Nat) (lv : sm_L) (st : List Value) (h : List va_E) (o : Option Value) (h' : List va_E), sm_rn (sm_B k) X f pc lv st h o h' → fy_R h h' := by
  intro f
  induction f with
  | zero => intro pc lv st h o h' hr; exact hr.elim
  | succ f ih =>
    intro pc lv st h o h' hr
    obtain ⟨i, n, hi, hr⟩ := hr
    have hc := fy_in hk hg hi
    rcases hr with ⟨-, rfl⟩ | ⟨t, hs, hr⟩ | ⟨k', vs, r, o1, h1, hcl, hx, hr⟩
    · exact fy_rf _
    · refine fy_tr ?_ (ih _ _ _ _ _ _ hr)
      rcases fz_step hs with e | ⟨a, e, e', h1, h2⟩ | ⟨x, a, ci, j, ty, v, fs, rfl, h1, h2, h3⟩
      · rw [e]; exact fy_rf _
      · intro fs hf
        refine ⟨fs, ?_, rfl, rfl, rfl⟩
        rw [h2, List.getElem?_set_ne (fun z => by rw [z, hf] at h1; cases h1)]
        exact hf
      · have h1 : sm_lk (sm_fl (sm_O k)) x = some (ci, j, ty) := h1
        have hc : (match sm_lk (sm_fl (sm_O k)) x with
          | some (ci, j, _) => !(Nat.beq ci 2 && (Nat.beq j 11 || (Nat.beq j 13 || Nat.beq j 14)))
          | none => true) = true := hc
        rw [h1] at hc
        dsimp only at hc
        intro fs0 hf
        by_cases ha : a = 0
        · subst ha
          rw [hf] at h2
          cases h2
          have hj : j ≠ 11 ∧ j ≠ 13 ∧ j ≠ 14 := by
            refine ⟨fun z => ?_, fun z => ?_, fun z => ?_⟩
            · subst z; exact absurd hc (by decide)
            · subst z; exact absurd hc (by decide)
            · subst z; exact absurd hc (by decide)
          refine ⟨_, by rw [h3]; exact sm_set_s hf, ?_, ?_, ?_⟩
          · rw [List.getElem?_set_ne hj.1]
          · rw [List.getElem?_set_ne hj.2.1]
          · rw [List.getElem?_set_ne hj.2.2]
        · exact ⟨fs0, by rw [h3, List.getElem?_set_ne ha]; exact hf, rfl, rfl, rfl⟩
    · refine fy_tr (hX k' vs h o1 h1 ?_ hx) (ih _ _ _ _ _ _ hr)
      obtain ⟨-, -, hcl⟩ := hcl
      rcases hcl with ⟨x, ci, b, As, rfl, hca, -⟩ | ⟨x, ci, rfl, hca, -⟩ | ⟨x, ci, rfl, hca, -⟩
      all_goals
        have hca : sm_lk (sm_ca (sm_O k)) x = _ := hca
        have hc : (match sm_lk (sm_ca (sm_O k)) x with
          | some (_, k', _) => fy_G k'
          | none => true) = true := hc
        rw [hca] at hc
        exact hc
theorem fy_run : ∀ (d k : Nat) (vs : List Value) (h : List va_E) (o : Option Value) (h' : List va_E), fy_G k = true → sm_Ex 200 sm_ML sm_B d k vs h o h' → fy_R h h' := by
  intro d
  induction d with
  | zero => intro k vs h o h' _ hx; exact hx.elim
  | succ d ih =>
    intro k vs h o h' hg hx
    obtain ⟨hk, -, f, hr⟩ := hx
    exact fy_rn hk hg (fun k' vs h o h' a b => ih k' vs h o h' a b) f _ _ _ _ _ _ hr
theorem fy_M {h h' : List va_E} (hh : fl_sh h) (hh' : fl_sh h') (r : fy_R h h') : fm_i h' 0 11 = fm_i h 0 11 ∧ fm_l h' 0 13 = fm_l h 0 13 ∧ fm_l h' 0 14 = fm_l h 0 14 := by
  obtain ⟨fs, hf, hl⟩ := fw_obj hh (a := 0) (ci := 2) rfl (by decide)
  have hf := sm_obj_s hf
  obtain ⟨fs', hf', e1, e3, e4⟩ := r fs hf
  have l15 : fs.length = 15 := hl
  have g : ∀ k, k < 15 → ∃ v, fs[k]? = some v ∧ fl_tv 2 0 k v := fun k hk => ⟨_, List.getElem?_eq_getElem (by omega), fl_ty_int hh hf (List.getElem?_eq_getElem (by omega))⟩
  obtain ⟨v11, a11, x11, rfl⟩ := g 11 (by decide)
  obtain ⟨v13, a13, x13, rfl⟩ := g 13 (by decide)
  obtain ⟨v14, a14, x14, rfl⟩ := g 14 (by decide)
  exact ⟨by rw [fm_i_fld hh hf a11, fm_i_fld hh' hf' (e1.trans a11)], by rw [fm_l_fld hf a13, fm_l_fld hf' (e3.trans a13)], by rw [fm_l_fld hf a14, fm_l_fld hf' (e4.trans a14)]⟩
/-! Fault and register: what they leave alone, within bounds. -/
theorem kz_c {X Y : fl_M} (h : kz X) (e : ∀ c, c < 81 → Y c = X c) : kz Y := fun o ho j h1 h2 => by
  have l : ∀ o ∈ kwL, o.1 < 81 := by decide
  rw [e o.1 (l o ho)]
  exact h o ho j h1 h2
theorem mz_r {m : Nat} {R X : fl_M} (g : mz m R) (a : fz R X) (z : rz X) : mz m X := by
  obtain ⟨a1, a2, a4, a16, a17, a18, a19, a22, b0, b86, b87, b89, b94, b96⟩ := g
  obtain ⟨⟨r1, r2, r3, r4⟩, r5⟩ := z
  refine ⟨by rw [a.2 1 (by decide)]; exact a1, by rw [a.2 1 (by decide)]; exact a2, by rw [a.2 4 (by decide)]; exact a4, r1, ⟨r2.1, by omega⟩, ⟨by omega, r2.2.2⟩, r3, r4, sg_c b0 (a.1 82 (by decide)), by rw [a.1 86 (by decide)]; exact b86, by rw [a.1 87 (by decide)]; exact b87, by rw [a.1 89 (by decide)]; exact b89, r5, by rw [a.1 96 (by decide)]; exact b96⟩
theorem mz_no {m : Nat} {R : fl_M} (g : mz m R) {v w : Int32} : mz m (fl_u (fl_u R 81 14 v) 91 1 w) := mz_e g (fun j hj => by rw [fl_un (by decide), fl_uo (Or.inr (by omega))]) (fun c hc => by rw [fl_un (by omega), fl_un (by omega)])
section FAR
variable {C R : fl_M} {t : Int32}
theorem fa_C (h : kz C) (hK : C 999 = sm_kl) : kz (m_14 t C) ∧ ∀ c, (c ≠ 0 ∧ c ≠ 80 ∧ (c < 24 ∨ 32 < c)) → m_14 t C c = C c := by
  unfold m_14
  by_cases c1 : (t < 0) ∨ (¬ (t < 4))
  · rw [if_pos c1]; exact ⟨h, fun _ _ => rfl⟩
  · rw [if_neg c1]
    obtain ⟨t0, t1⟩ := t4 c1
    by_cases c2 : C 9 t.toNatClampNeg = -1
    · rw [if_pos c2]
      exact ⟨kz_n (kz_n h (by decide)) (by decide), fun c hc => by rw [fl_un hc.2.1, fl_un hc.1]⟩
    · rw [if_neg c2]
      exact ⟨kz_ra h hK t0 (by omega), fun c hc => az_ra C t c hc.2.2⟩
theorem re_C (h : kz C) (hK : C 999 = sm_kl) : kz (m_21 t C) ∧ ∀ c, (c ≠ 0 ∧ c ≠ 80 ∧ (c < 15 ∨ 32 < c) ∧ c ≠ 42 ∧ c ≠ 47 ∧ c ≠ 51 ∧ c ≠ 55) → m_21 t C c = C c := by
  unfold m_21
  by_cases c1 : (t < 0) ∨ (¬ (t < 4))
  · rw [if_pos c1]; exact ⟨h, fun _ _ => rfl⟩
  · rw [if_neg c1]
    obtain ⟨t0, t1⟩ := t4 c1
    by_cases c2 : C 9 t.toNatClampNeg = -1
    · rw [if_pos c2]
      exact ⟨kz_n (kz_n h (by decide)) (by decide), fun c hc => by rw [fl_un hc.2.1, fl_un hc.1]⟩
    · rw [if_neg c2]
      have hr := kz_ra h hK t0 (by omega)
      by_cases c3 : ra_v C t = -9
      · rw [if_pos c3]
        exact ⟨kz_66 (kz_23 (kz_bgn hr)), fun c hc => (rg_fr (X := ra_M C t) hc.2.2.1 hc.2.2.2).trans (az_ra C t c (by omega))⟩
      · rw [if_neg c3]
        exact ⟨hr, fun c hc => az_ra C t c (by omega)⟩
theorem fa_R {m : Nat} (g : mz m R) : mz m (m_119 t R) ∧ ∀ c, (c ≠ 81 ∧ c ≠ 91 ∧ c ≠ 92 ∧ c ≠ 93 ∧ c ≠ 94) → m_119 t R c = R c := by
  unfold m_119
  by_cases c1 : (¬ (t < 0)) ∧ (¬ (3 < t))
  · rw [if_pos c1]
    obtain ⟨t0, t1⟩ := t3 c1
    by_cases c2 : R 89 t.toNatClampNeg < 0
    · rw [if_pos c2]
      exact ⟨mz_no g, fun c hc => by rw [fl_un hc.2.1, fl_un hc.1]⟩
    · rw [if_neg c2]
      rw [fi_l, fi_i0] at c2
      have b89 := g.2.2.2.2.2.2.2.2.2.2.2.1 _ (tq t0 t1)
      exact ⟨mz_r g (fz_fo R t) (rz_fo t0 (by omega) (by omega) b89.2 g.2.2.2.2.2.2.2.2.2.2.2.2.1), fun c hc => (fz_fo R t).1 c ⟨hc.1, hc.2.2⟩⟩
  · rw [if_neg c1]; exact ⟨g, fun _ _ => rfl⟩
theorem re_R {m : Nat} (hm5 : m < 5) (g : mz m R) {D : fl_M} (h2 : t2 D (m_129 t R)) : (∃ m', m' < 5 ∧ mz m' (m_129 t R)) ∧ ∀ c, ((c < 81 ∨ 94 < c) ∨ (87 ≤ c ∧ c ≤ 90)) → m_129 t R c = R c := by
  have ht := h2.1
  unfold m_129 at ht ⊢
  by_cases c1 : (¬ (t < 0)) ∧ (¬ (3 < t))
  · rw [if_pos c1] at ht ⊢
    obtain ⟨t0, t1⟩ := t3 c1
    by_cases c2 : R 89 t.toNatClampNeg < 0
    · rw [if_pos c2]
      exact ⟨⟨m, hm5, mz_no g⟩, fun c hc => by rw [fl_un (by omega), fl_un (by omega)]⟩
    · rw [if_neg c2] at ht ⊢
      rw [fi_l, fi_i0] at c2
      have b89 := g.2.2.2.2.2.2.2.2.2.2.2.1 _ (tq t0 t1)
      have fzz := fz_fo R t
      have z := rz_fo t0 (by omega) (by omega) b89.2 g.2.2.2.2.2.2.2.2.2.2.2.2.1
      have gz := mz_r g fzz z
      by_cases c3 : fo_v R t = -9
      · rw [if_pos c3] at ht ⊢
        obtain ⟨⟨r1, r2, r3, r4⟩, r5⟩ := z
        have k8 := fi_cl (fo_M R t 81 19)
        have k4 := fi_cl (fo_M R t 81 22)
        obtain ⟨rr, -⟩ := rg_R (A := fun _ j => if j = 0 then fo_M R t 81 19 else fo_M R t 81 22) (B := fo_M R t) (Z := lr_129_39 (fo_M R t)) (rg_39 _) rfl rfl (by rw [if_pos rfl]; omega) (by rw [if_neg (by decide)]; omega)
        have e81 : ∀ j, (j ≠ 1 ∧ j ≠ 4) → lr_129_204 (lr_129_139 (lr_129_85 (fl_u (fl_u (fl_u (lr_129_39 (fo_M R t)) 82 2 (-9)) 81 1 ((lr_129_39 (fo_M R t)) 81 19)) 81 4 ((lr_129_39 (fo_M R t)) 81 22)))) 81 j = fo_M R t 81 j := fun j hj => by
          rw [rr 81 j (by omega), if_neg (by omega), if_neg (by omega), if_neg (by omega), if_neg (by omega), if_neg (by omega), if_neg (by omega), if_neg (by omega), if_neg (by omega), if_neg (by omega), if_neg (by omega)]
        have ec : ∀ c, ((c < 81 ∨ 86 < c)) → lr_129_204 (lr_129_139 (lr_129_85 (fl_u (fl_u (fl_u (lr_129_39 (fo_M R t)) 82 2 (-9)) 81 1 ((lr_129_39 (fo_M R t)) 81 19)) 81 4 ((lr_129_39 (fo_M R t)) 81 22)))) c = fo_M R t c := fun c hc => by
          funext j
          rw [rr c j (by omega), if_neg (by omega), if_neg (by omega), if_neg (by omega), if_neg (by omega), if_neg (by omega), if_neg (by omega), if_neg (by omega), if_neg (by omega), if_neg (by omega), if_neg (by omega)]
        obtain ⟨⟨⟨s1, s2, s3, s4, s5, s6⟩, d1, d2, d3, d4, d5, d6⟩, ⟨k1, k2, k3, -⟩, k5, -⟩ := ht
        rw [s1] at s3 d5
        rw [s2] at s4 s6 d5
        have x81 : ∀ j, fl_u (fl_u (fl_u (lr_129_39 (fo_M R t)) 82 2 (-9)) 81 1 ((lr_129_39 (fo_M R t)) 81 19)) 81 4 ((lr_129_39 (fo_M R t)) 81 22) 81 1 = fo_M R t 81 19 ∧ fl_u (fl_u (fl_u (lr_129_39 (fo_M R t)) 82 2 (-9)) 81 1 ((lr_129_39 (fo_M R t)) 81 19)) 81 4 ((lr_129_39 (fo_M R t)) 81 22) 81 4 = fo_M R t 81 22 ∧ fl_u (fl_u (fl_u (lr_129_39 (fo_M R t)) 82 2 (-9)) 81 1 ((lr_129_39 (fo_M R t)) 81 19)) 81 4 ((lr_129_39 (fo_M R t)) 81 22) 94 j = fo_M R t 94 j := fun j => by
          refine ⟨?_, ?_, ?_⟩
          · rw [fl_uo (Or.inr (by decide)), fl_us, rg_39, if_neg (by omega)]
          · rw [fl_us, rg_39, if_neg (by omega)]
          · rw [fl_un (by decide), fl_un (by decide), fl_un (by decide), rg_39, if_neg (by omega)]
        have s0 : sgP (fl_u (fl_u (fl_u (lr_129_39 (fo_M R t)) 82 2 (-9)) 81 1 ((lr_129_39 (fo_M R t)) 81 19)) 81 4 ((lr_129_39 (fo_M R t)) 81 22)) := sg_c (sg_c (sg_u (sg_39 gz.2.2.2.2.2.2.2.2.1) (fun o ho h1 h2 => absurd ⟨h1, h2⟩ (sg_k o ho).2.1)) (fl_un (by decide))) (fl_un (by decide))
        have s85 := sg_85 s0 (by rw [(x81 0).1]; omega)
        have y9 : ∀ c j, ¬ (c = 82 ∨ c = 83 ∨ c = 84) → lr_129_85 (fl_u (fl_u (fl_u (lr_129_39 (fo_M R t)) 82 2 (-9)) 81 1 ((lr_129_39 (fo_M R t)) 81 19)) 81 4 ((lr_129_39 (fo_M R t)) 81 22)) c j = fl_u (fl_u (fl_u (lr_129_39 (fo_M R t)) 82 2 (-9)) 81 1 ((lr_129_39 (fo_M R t)) 81 19)) 81 4 ((lr_129_39 (fo_M R t)) 81 22) c j := fun c j hc => by
          rw [rg_85 (by rw [(x81 0).1]; omega), if_neg (by omega), if_neg (by omega), if_neg (by omega)]
        have sZ := sg_204 (sg_139 s85 (by rw [y9 81 4 (by decide), (x81 0).2.1]; omega) (fun j hj => by rw [y9 94 j (by decide), (x81 j).2.2]; exact r5 j hj))
        obtain ⟨Z, hZ⟩ : ∃ Z : fl_M, Z = lr_129_204 (lr_129_139 (lr_129_85 (fl_u (fl_u (fl_u (lr_129_39 (fo_M R t)) 82 2 (-9)) 81 1 ((lr_129_39 (fo_M R t)) 81 19)) 81 4 ((lr_129_39 (fo_M R t)) 81 22)))) := ⟨_, rfl⟩
        rw [← hZ] at sZ e81 ec s1 s2 s3 s4 s5 s6 d1 d2 d3 d4 d5 d6 k1 ⊢
        have cm := fi_cl (Z 81 4)
        refine ⟨⟨(Z 81 4).toNatClampNeg, by omega, s3, fun hm => ?_, by omega, by rw [e81 16 (by decide)]; exact r1, by rw [e81 17 (by decide)]; exact ⟨r2.1, by omega⟩, by rw [e81 18 (by decide)]; exact ⟨by omega, r2.2.2⟩, by rw [e81 19 (by decide)]; exact r3, by rw [e81 22 (by decide)]; exact r4, sZ, fun j hj => ?_, by rw [ec 87 (by decide)]; exact gz.2.2.2.2.2.2.2.2.2.2.1, by rw [ec 89 (by decide)]; exact gz.2.2.2.2.2.2.2.2.2.2.2.1, by rw [ec 94 (by decide)]; exact r5, by rw [ec 96 (by decide)]; exact gz.2.2.2.2.2.2.2.2.2.2.2.2.2⟩, fun c hc => (ec c (by omega)).trans (fzz.1 c (by omega))⟩
        · have := (d5 0 hm).2
          omega
        · obtain ⟨-, q2, q3⟩ := s6 j hj
          rw [q2] at q3
          exact q3
      · rw [if_neg c3]
        exact ⟨⟨m, hm5, gz⟩, fun c hc => fzz.1 c (by omega)⟩
  · rw [if_neg c1]; exact ⟨⟨m, hm5, g⟩, fun _ _ => rfl⟩
end FAR
