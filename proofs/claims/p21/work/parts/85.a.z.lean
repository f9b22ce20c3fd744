/-! The reference's undo: a run is there, and bounds are kept. -/
section UN
variable (d : Nat) (J : fl_J) (n k : Int32)
set_option maxRecDepth 8000 in
theorem fs_154_67 (M : fl_M) (i : Int32) : fw d fB154 (67, [.ref 81, .int n, .int k, .int i], [], M, J) := by
  have hB : fw_B fB154 := fw_sB (k := 154) (by decide)
  exact fw_n (s' := (73, [.ref 81, .int n, .int k, .int i], [.int n, .int 0, .ref 82], M, J)) hB 4 rfl <|
  fw_ia2 hB rfl rfl (by decide) (by decide) (by decide) <|
  fw_n (s' := (75, [.ref 81, .int n, .int k, .int i], [.int k], (fl_u M 82 0 n), J)) hB 1 rfl <|
  fw_ri rfl rfl
set_option maxRecDepth 8000 in
theorem fs_154_29 (M : fl_M) (i : Int32) (hi : 0 ≤ i.toInt) (h0 : 0 ≤ n.toInt) (h4 : 0 < k → n.toInt ≤ 39) (q1 : (i < 23) → (0 < k) → fw d fB154 (29, [.ref 81, .int n, .int k, .int (i + 1)], [], (fl_u M 82 ((1 + i).toNatClampNeg) (M 82 (((24 + (23 * n)) + i).toNatClampNeg))), J)) : fw d fB154 (29, [.ref 81, .int n, .int k, .int i], [], M, J) := by
  have hB : fw_B fB154 := fw_sB (k := 154) (by decide)
  exact fw_n (s' := (32, [.ref 81, .int n, .int k, .int i], [.int 23, .int i], M, J)) hB 2 rfl <|
  fw_icN hB (t := 67) rfl rfl fl_nlt (fun h1 =>
   fw_n (s' := (36, [.ref 81, .int n, .int k, .int i], [.int k], M, J)) hB 1 rfl <|
   fw_ifN hB (t := 67) rfl rfl fl_nle (fun h2 => by
    have z1 : i.toInt < 23 := fi_l.mp h1
    have z2 := h4 h2
    have i23 : (23 : Int32).toInt = 23 := rfl
    have i24 : (24 : Int32).toInt = 24 := rfl
    have e1 : (23 * n).toInt = 23 * n.toInt := by rw [fi_mul (by rw [i23]; omega) (by rw [i23]; omega), i23]
    have e2 : (24 + 23 * n).toInt = 24 + 23 * n.toInt := by rw [fi_add (by rw [i24, e1]; omega) (by rw [i24, e1]; omega), i24, e1]
    have e3 : (24 + 23 * n + i).toInt = 24 + 23 * n.toInt + i.toInt := by rw [fi_add (by rw [e2]; omega) (by rw [e2]; omega), e2]
    have e4 : (1 + i).toInt = 1 + i.toInt := by rw [fi_add (by rw [fi_i1]; omega) (by rw [fi_i1]; omega), fi_i1]
    exact fw_n (s' := (59, [.ref 81, .int n, .int k, .int i], [.int ((24 + (23 * n)) + i), .ref 82, .int (1 + i), .ref 82], M, J)) hB 14 rfl <|
    fw_ia hB rfl rfl (by decide) (by rw [e3]; omega) (by show (24 + 23 * n + i).toInt < 3800; rw [e3]; omega) <|
    fw_ia2 hB rfl rfl (by decide) (by rw [e4]; omega) (by show (1 + i).toInt < 3800; rw [e4]; omega) <|
    fw_n (s' := (29, [.ref 81, .int n, .int k, .int (i + 1)], [], (fl_u M 82 ((1 + i).toNatClampNeg) (M 82 (((24 + (23 * n)) + i).toNatClampNeg))), J)) hB 2 rfl <|
    q1 h1 h2) (fun _ => fs_154_67 d J n k M i)) (fun _ => fs_154_67 d J n k M i)
theorem fq_154 (h0 : 0 ≤ n.toInt) (h4 : 0 < k → n.toInt ≤ 39) : ∀ (m : Nat) (i : Int32) (M : fl_M), 0 ≤ i.toInt → 23 ≤ i.toInt + m → fw d fB154 (29, [.ref 81, .int n, .int k, .int i], [], M, J) := by
  intro m
  induction m with
  | zero => intro i M hi hn; exact fs_154_29 d J n k M i hi h0 h4 (fun z => by have z : i.toInt < 23 := fi_l.mp z; omega)
  | succ m ih =>
    intro i M hi hn
    refine fs_154_29 d J n k M i hi h0 h4 (fun z _ => ?_)
    have z : i.toInt < 23 := fi_l.mp z
    have e := fi_p1 (p := i) (by omega)
    exact ih _ _ (by omega) (by omega)
theorem un_n {R : fl_M} (hr : (R 82 0).toInt ≤ 40) (h : (¬ (n < 0)) ∧ (¬ (R 82 0 < n))) : 0 ≤ n.toInt ∧ n.toInt ≤ 40 ∧ (0 < R 82 0 - n → n.toInt ≤ 39) := by
  obtain ⟨h1, h2⟩ := h
  rw [fi_l, fi_i0] at h1
  rw [fi_l] at h2
  refine ⟨by omega, by omega, fun z => ?_⟩
  rw [fi_l, fi_i0, fi_sub (by omega) (by omega)] at z
  omega
set_option maxRecDepth 8000 in
theorem fs_154 (M : fl_M) (hr : (M 82 0).toInt ≤ 40) : fw (d + 1) fB154 (0, [.ref 81, .int n, .null, .null], [], M, J) := by
  have hB : fw_B fB154 := fw_sB (k := 154) (by decide)
  exact fw_n (s' := (8, [.ref 81, .int n, .null, .null], [.int 0, .ref 82, .long 0, .long n.toInt64], M, J)) hB 6 rfl <|
  fw_ia hB rfl rfl (by decide) (by decide) (by decide) <|
  fw_n (s' := (10, [.ref 81, .int n, .null, .null], [.long ((M 82 0).toInt64), .long 0, .long n.toInt64], M, J)) hB 1 rfl <|
  fw_cs hB (st0 := []) (o := some (.int (if (¬ (n < 0)) ∧ (¬ (M 82 0 < n)) then 1 else 0))) rfl rfl (by decide) rfl rfl (show (0 : Nat) ≤ 8 by decide) (ct_105i _ M J n 0 (M 82 0)) rfl <|
  fw_sh (s := (13, [.ref 81, .int n, .null, .null], [.int (if (¬ (n < 0)) ∧ (¬ (M 82 0 < n)) then 1 else 0)], M, J)) <|
  fw_if hB (t := 18) rfl rfl fl_b1 (fun h1 =>
   fw_n (s' := (23, [.ref 81, .int n, .null, .null], [.int 0, .ref 82], M, J)) hB 3 rfl <|
   fw_ia hB rfl rfl (by decide) (by decide) (by decide) <|
   fw_n (s' := (29, [.ref 81, .int n, .int ((M 82 0) - n), .int 0], [], M, J)) hB 5 rfl <|
   fq_154 (d + 1) J n ((M 82 0) - n) (un_n n hr h1).1 (un_n n hr h1).2.2 23 0 M (by decide) (by decide)) (fun _ =>
   fw_n (s' := (17, [.ref 81, .int n, .null, .null], [.int (-1)], M, J)) hB 1 rfl <|
   fw_ri rfl rfl)
theorem fwu_154 (M : fl_M) (hr : (M 82 0).toInt ≤ 40) : fw_C (d + 2) 154 [.ref 81, .int n] M J := by
  refine fw_Co (d := d + 1) (B := fB154) (by decide) rfl rfl (show (2 : Nat) ≤ 4 by decide) ?_ (fs_154 d J n M hr)
  intro i v hv hn
  match i, hv with
  | 0, hv => cases hv; rfl
  | 1, hv => cases hv; rfl
  | 2, hv => cases hv; exact absurd rfl hn
  | 3, hv => cases hv; exact absurd rfl hn
  | _ + 4, hv => cases hv
end UN
theorem un_s1 : ∀ o ∈ sgL, ((o.2.1 ≤ 0 ∧ 0 ≤ o.2.2.1) → o.2.2.2.1 ≤ 0 ∧ 40 ≤ o.2.2.2.2) ∧ ((o.2.1 ≤ 23 ∧ 1 ≤ o.2.2.1) → o.2.1 = 20 ∧ o.2.2.1 = 23 ∧ o.2.2.2.1 ≤ 0 ∧ 7 ≤ o.2.2.2.2) := by decide +kernel
theorem un_s2 : ∀ e, e < 40 → (82, 24 + 23 * e + 19, 24 + 23 * e + 22, 0, 7) ∈ sgL := by decide +kernel
theorem un_s3 : (82, 0, 0, -1, 40) ∈ sgL := by decide +kernel
theorem un_40 {X : fl_M} (h : sgP X) : -1 ≤ (X 82 0).toInt ∧ (X 82 0).toInt ≤ 40 := h _ un_s3 0 (Nat.le_refl _) (Nat.le_refl _)
theorem un_sg {X : fl_M} {n : Int32} (h : sgP X) : sgP (m_154 n X) ∧ ∀ c, c ≠ 82 → m_154 n X c = X c := by
  unfold m_154
  by_cases c1 : (¬ (n < 0)) ∧ (¬ (X 82 0 < n))
  · rw [if_pos c1]
    obtain ⟨n0, n40, n39⟩ := un_n n (un_40 h).2 c1
    have hk : n.toInt = (n.toInt.toNat : Int) := by omega
    have key : ∀ Y : fl_M, (∀ c, c ≠ 82 → Y c = X c) → (∀ j, (1 ≤ j ∧ j < 24) → Y 82 j = X 82 j ∨ (n.toInt ≤ 39 ∧ Y 82 j = X 82 (24 + 23 * n.toInt.toNat + (j - 1)))) → (∀ j, (j < 1 ∨ 24 ≤ j) → Y 82 j = X 82 j) → sgP (fl_u Y 82 0 n) ∧ ∀ c, c ≠ 82 → fl_u Y 82 0 n c = X c := by
      intro Y y0 y1 y2
      refine ⟨fun o ho j j1 j2 => ?_, fun c hc => (fl_un hc).trans (y0 c hc)⟩
      have e82 := sg_82 o ho
      have g := h o ho j j1 j2
      rw [e82] at g ⊢
      by_cases j0 : j = 0
      · rw [j0, fl_us]
        have := (un_s1 o ho).1 ⟨by omega, by omega⟩
        omega
      · rw [fl_uo (Or.inr j0)]
        by_cases j24 : j < 24
        · rcases y1 j ⟨by omega, j24⟩ with e | ⟨m39, e⟩
          · rw [e]; exact g
          · rw [e]
            obtain ⟨s1, s2, s3, s4⟩ := (un_s1 o ho).2 ⟨by omega, by omega⟩
            have := h _ (un_s2 n.toInt.toNat (by omega)) (24 + 23 * n.toInt.toNat + (j - 1)) (show 24 + 23 * n.toInt.toNat + 19 ≤ _ by omega) (show _ ≤ 24 + 23 * n.toInt.toNat + 22 by omega)
            have a1 : 0 ≤ (X 82 (24 + 23 * n.toInt.toNat + (j - 1))).toInt := this.1
            have a2 : (X 82 (24 + 23 * n.toInt.toNat + (j - 1))).toInt ≤ 7 := this.2
            omega
        · rw [y2 j (Or.inr (by omega))]; exact g
    by_cases c2 : 0 < X 82 0 - n
    · have e := un_e (R := X) hk (by omega) c2
      refine key _ (fun c hc => ?_) (fun j hj => Or.inr ⟨n39 c2, ?_⟩) (fun j hj => ?_)
      · funext j
        rw [e, if_neg (fun z => hc z.1)]
      · rw [e, if_pos ⟨rfl, hj.1, by omega⟩]
      · rw [e, if_neg (by omega)]
    · rw [un_0 c2]
      exact key _ (fun _ _ => rfl) (fun _ _ => Or.inl rfl) (fun _ _ => rfl)
  · rw [if_neg c1]
    exact ⟨h, fun _ _ => rfl⟩
theorem un_mz {m : Nat} {X : fl_M} {n : Int32} (g : mz m X) : mz m (m_154 n X) := by
  obtain ⟨a1, a2, a4, a16, a17, a18, a19, a22, b0, b86, b87, b89, b94, b96⟩ := g
  obtain ⟨s, e⟩ := un_sg (n := n) b0
  have e81 := e 81 (by decide)
  exact ⟨by rw [e81]; exact a1, by rw [e81]; exact a2, by rw [e81]; exact a4, by rw [e81]; exact a16, by rw [e81]; exact a17, by rw [e81]; exact a18, by rw [e81]; exact a19, by rw [e81]; exact a22, s, by rw [e 86 (by decide)]; exact b86, by rw [e 87 (by decide)]; exact b87, by rw [e 89 (by decide)]; exact b89, by rw [e 94 (by decide)]; exact b94, by rw [e 96 (by decide)]; exact b96⟩
