/-! Duel of the reference: it comes to 1 (or is refused), and leaves alone what the tie sees. -/
def fD (R X : fl_M) : Prop := (∀ c, (c ≠ 81 ∧ c ≠ 82 ∧ c ≠ 96 ∧ c ≠ 97) → X c = R c) ∧ (∀ j, j ≠ 11 → X 81 j = R 81 j) ∧ ∀ j, j < 3776 → X 82 j = R 82 j
def dw_m (l : Nat → Int) (T : Int) : Int := if T < 0 then 0 else if T = 0 then 1 + (10 - l 0) * 1000000 else if T = 1 then 1 + (9 - l 0) * 1000000 + (10 - l 1) * 10000 else if T = 2 then 1 + (9 - l 0) * 1000000 + (9 - l 1) * 10000 + (10 - l 2) * 100 else 1 + (9 - l 0) * 1000000 + (9 - l 1) * 10000 + (9 - l 2) * 100 + (10 - l 3)
theorem dw_4 {k : Nat} (h : k < 4) : k = 0 ∨ k = 1 ∨ k = 2 ∨ k = 3 := by omega
theorem dw_m1 {l l' : Nat → Int} {k : Nat} (h4 : k < 4) (h' : ∀ j, j < 4 → l' j = if j = k then l k + 1 else l j) : dw_m l' k < dw_m l k := by
  have h0 := h' 0 (by decide)
  have h1 := h' 1 (by decide)
  have h2 := h' 2 (by decide)
  have h3 := h' 3 (by decide)
  rcases dw_4 h4 with rfl | rfl | rfl | rfl <;> simp at h0 h1 h2 h3 <;> simp [dw_m, h0, h1, h2, h3] <;> omega
theorem dw_m2 {l l' : Nat → Int} {k : Nat} (h4 : k + 1 < 4) (h' : ∀ j, j < 4 → l' j = if j = k + 1 then 0 else l j) : dw_m l' (k + 1 : Nat) < dw_m l k := by
  have h0 := h' 0 (by decide)
  have h1 := h' 1 (by decide)
  have h2 := h' 2 (by decide)
  have h3 := h' 3 (by decide)
  have : k = 0 ∨ k = 1 ∨ k = 2 := by omega
  rcases this with rfl | rfl | rfl <;> simp at h0 h1 h2 h3 <;> simp [dw_m, h0, h1, h2, h3] <;> omega
theorem dw_m3 {l l' : Nat → Int} {k : Nat} (h4 : k + 1 < 4) (h9 : l (k + 1) ≤ 9) (h' : ∀ j, j < 4 → l' j = if j = k then l k + 1 else l j) : dw_m l' k < dw_m l (k + 1 : Nat) := by
  have h0 := h' 0 (by decide)
  have h1 := h' 1 (by decide)
  have h2 := h' 2 (by decide)
  have h3 := h' 3 (by decide)
  have : k = 0 ∨ k = 1 ∨ k = 2 := by omega
  rcases this with rfl | rfl | rfl <;> simp at h0 h1 h2 h3 h9 <;> simp [dw_m, h0, h1, h2, h3] <;> omega
theorem dw_m0 {l : Nat → Int} {T : Int} (h : 0 ≤ T) (h9 : ∀ j, j < 4 → l j ≤ 9) (h3 : T < 4) : 1 ≤ dw_m l T := by
  have h0 := h9 0 (by decide)
  have h1 := h9 1 (by decide)
  have h2 := h9 2 (by decide)
  have h3' := h9 3 (by decide)
  unfold dw_m
  repeat' split
  all_goals omega
section FD
variable {R X : fl_M}
theorem fD_u (h : fD R X) {a j : Nat} {v : Int32} (ha : a = 96 ∨ a = 97) : fD R (fl_u X a j v) := ⟨fun c hc => (fl_un (by omega)).trans (h.1 c hc), fun i hi => (fl_uo (Or.inl (by omega))).trans (h.2.1 i hi), fun i hi => (fl_uo (Or.inl (by omega))).trans (h.2.2 i hi)⟩
theorem fD_11 (h : fD R X) {v : Int32} : fD R (fl_u X 81 11 v) := ⟨fun c hc => (fl_un hc.1).trans (h.1 c hc), fun i hi => (fl_uo (Or.inr hi)).trans (h.2.1 i hi), fun i hi => (fl_uo (Or.inl (by decide))).trans (h.2.2 i hi)⟩
theorem fD_R {Y : fl_M} (h : fD R X) (h2 : fR X Y) : fD R Y := ⟨fun c hc => (h2.1 c hc.2.1).trans (h.1 c hc), fun i hi => by rw [h2.1 81 (by decide)]; exact h.2.1 i hi, fun i hi => (h2.2 i hi).trans (h.2.2 i hi)⟩
/-- what is laid, tried: nothing but the row's end is written -/
theorem dw_181 (hl : 0 ≤ (X 81 1).toInt ∧ (X 81 1).toInt ≤ 8) (h9 : ∀ j, j < 4 → 0 ≤ (X 96 j).toInt) (t : Int32) (h4 : t.toInt ≤ 4) : fR X (lr_181_7 t X) := by
  have ct := fi_cl t
  unfold lr_181_7 lq_181_7
  have hn : t.toNatClampNeg ≤ 4 := by omega
  generalize t.toNatClampNeg = n at hn
  induction n with
  | zero => exact ⟨fun _ _ => rfl, fun _ _ => rfl⟩
  | succ n ih =>
    have ih := ih (by omega)
    rw [fx_it_s]
    have en : (Int32.ofNat n).toNatClampNeg = n := fi_at (by omega)
    generalize fx_it ls_181_7 n X = Y at ih ⊢
    unfold ls_181_7
    rw [en]
    have e96 := ih.1 96 (by decide)
    have e81 := ih.1 81 (by decide)
    have g := h9 n (by omega)
    split
    · rename_i c1
      rw [fi_l, e96, e81] at c1
      split
      · have e : (3788 + Y 96 n).toInt = 3788 + (X 96 n).toInt := by
          rw [e96, fi_add (by rw [show (3788 : Int32).toInt = 3788 from rfl]; omega) (by rw [show (3788 : Int32).toInt = 3788 from rfl]; omega)]
          rfl
        have f := fi_cl (3788 + Y 96 n)
        exact ⟨fun c hc => (fl_un hc).trans (ih.1 c hc), fun j hj => (fl_uo (Or.inr (by omega))).trans (ih.2 j hj)⟩
      · exact ih
    · exact ih
theorem dw_z (hl : 0 ≤ (X 81 1).toInt ∧ (X 81 1).toInt ≤ 8) (hm : 0 ≤ (X 81 4).toInt ∧ (X 81 4).toInt ≤ 4) (h9 : ∀ j, j < 4 → 0 ≤ (X 96 j).toInt) (t : Int32) (h4 : t.toInt ≤ 4) : fR X (lr_161_2 1 (lr_181_7 t (lr_160_2 X))) := by
  have a : fR X (lr_160_2 X) := ⟨fun c hc => by funext j; exact fw_160 hc, fun j hj => by rw [lt_eq, if_neg (by omega)]⟩
  have b : fR (lr_160_2 X) (lr_181_7 t (lr_160_2 X)) := dw_181 (by rw [a.1 81 (by decide)]; exact hl) (fun j hj => by rw [a.1 96 (by decide)]; exact h9 j hj) t h4
  have c : fR X (lr_181_7 t (lr_160_2 X)) := fR_t a (fun c hc => b.1 c hc) (fun j hj => b.2 j hj)
  rw [yr_1]
  exact fR_t c (fun c hc => by funext j; exact fw_150 hc) (fun j hj => pf_150 tr_bt (by rw [c.1 81 (by decide)]; exact hl.2) (by rw [c.1 81 (by decide)]; exact hm.2) (Or.inl (by omega)))
end FD
def DI (R M : fl_M) (T : Int) : Prop := fD R M ∧ (∀ j, j < 4 → 0 ≤ (M 96 j).toInt ∧ (M 96 j).toInt ≤ 9) ∧ ∀ j : Nat, (j : Int) < T → (M 96 j).toInt ≤ 8
theorem m_182_e (t : Int32) (M : fl_M) : ∃ v, m_182 t M = fl_u (fl_u M 96 t.toNatClampNeg 0) 97 t.toNatClampNeg v := by
  unfold m_182
  split
  · exact ⟨_, rfl⟩
  · exact ⟨_, rfl⟩
theorem dw_u96 {M Z : fl_M} {k i : Nat} {x v : Int32} (e : Z 96 = M 96) : ∀ j, j < 4 → ((fl_u (fl_u Z 97 i v) 96 k x) 96 j).toInt = if j = k then x.toInt else (M 96 j).toInt := by
  intro j _
  by_cases h : j = k
  · rw [h, fl_us, if_pos rfl]
  · rw [fl_uo (Or.inr h), fl_un (by decide), e, if_neg h]
set_option maxRecDepth 30000 in
theorem ts_180_0 {r : fl_Q} (a b n : Int32) (M : fl_M) (J : fl_J) (q1 : ((¬ (a < 0)) ∧ (¬ ((M 81 1) - 1 < a))) → ((¬ (b < 0)) ∧ (¬ ((M 81 1) - 1 < b))) → (a = b) → (some (.int (-1)), M, J) = r) (q2 : ((¬ (a < 0)) ∧ (¬ ((M 81 1) - 1 < a))) → ((¬ (b < 0)) ∧ (¬ ((M 81 1) - 1 < b))) → (¬ (a = b)) → ((¬ (n < 0)) ∧ (¬ (2 < n))) → (0 < (2 * n)) → fl_dn fB180 (66, [.ref 81, .int a, .int b, .int n, .int (2 * n), .int 0, .null], [], (m_182 0 (fl_u (lr_161_2 1 (lr_181_7 0 (lr_160_2 M))) 97 4 (v_181 a b 0 M))), J) r) (q3 : ((¬ (a < 0)) ∧ (¬ ((M 81 1) - 1 < a))) → ((¬ (b < 0)) ∧ (¬ ((M 81 1) - 1 < b))) → (¬ (a = b)) → ((¬ (n < 0)) ∧ (¬ (2 < n))) → (¬ (0 < (2 * n))) → fl_dn fB180 (66, [.ref 81, .int a, .int b, .int n, .int (2 * n), .int 0, .null], [], (fl_u (lr_161_2 1 (lr_181_7 0 (lr_160_2 M))) 97 4 (v_181 a b 0 M)), J) r) (q4 : ((¬ (a < 0)) ∧ (¬ ((M 81 1) - 1 < a))) → ((¬ (b < 0)) ∧ (¬ ((M 81 1) - 1 < b))) → (¬ (a = b)) → (¬ ((¬ (n < 0)) ∧ (¬ (2 < n)))) → (some (.int (-1)), M, J) = r) (q5 : ((¬ (a < 0)) ∧ (¬ ((M 81 1) - 1 < a))) → (¬ ((¬ (b < 0)) ∧ (¬ ((M 81 1) - 1 < b)))) → (some (.int (-1)), M, J) = r) (q6 : (¬ ((¬ (a < 0)) ∧ (¬ ((M 81 1) - 1 < a)))) → (some (.int (-1)), M, J) = r) : fl_dn fB180 (0, [.ref 81, .int a, .int b, .int n, .null, .null, .null], [], M, J) r :=
 fl_td (s' := (2, [.ref 81, .int a, .int b, .int n, .null, .null, .null], [.int a, .ref 81], M, J)) (fl_n 2 rfl) <|
 fl_td (s' := (5, [.ref 81, .int a, .int b, .int n, .null, .null, .null], [.int (if (¬ (a < 0)) ∧ (¬ ((M 81 1) - 1 < a)) then 1 else 0)], M, J)) (fl_cv (o := some (.int (if (¬ (a < 0)) ∧ (¬ ((M 81 1) - 1 < a)) then 1 else 0))) rfl rfl rfl rfl (cc_131 M J a) rfl) <|
 fl_dnot (fl_if (t := 33) rfl rfl) fl_b0 (fun h1 =>
  fl_td (s' := (10, [.ref 81, .int a, .int b, .int n, .null, .null, .null], [.int b, .ref 81], M, J)) (fl_n 2 rfl) <|
  fl_td (s' := (13, [.ref 81, .int a, .int b, .int n, .null, .null, .null], [.int (if (¬ (b < 0)) ∧ (¬ ((M 81 1) - 1 < b)) then 1 else 0)], M, J)) (fl_cv (o := some (.int (if (¬ (b < 0)) ∧ (¬ ((M 81 1) - 1 < b)) then 1 else 0))) rfl rfl rfl rfl (cc_131 M J b) rfl) <|
  fl_dnot (fl_if (t := 33) rfl rfl) fl_b0 (fun h2 =>
   fl_td (s' := (18, [.ref 81, .int a, .int b, .int n, .null, .null, .null], [.int b, .int a], M, J)) (fl_n 2 rfl) <|
   fl_dtwo (fl_ic (t := 33) rfl rfl) fl_qeq (fun h3 =>
    fl_td (s' := (34, [.ref 81, .int a, .int b, .int n, .null, .null, .null], [.int (-1)], M, J)) (fl_n 1 rfl) <|
    fl_rt rfl (fun _ => rfl) (q1 h1 h2 h3)) (fun h3 =>
    fl_td (s' := (27, [.ref 81, .int a, .int b, .int n, .null, .null, .null], [.long 2, .long 0, .long n.toInt64], M, J)) (fl_n 4 rfl) <|
    fl_td (s' := (30, [.ref 81, .int a, .int b, .int n, .null, .null, .null], [.int (if (¬ (n < 0)) ∧ (¬ (2 < n)) then 1 else 0)], M, J)) (fl_cs (o := some (.int (if (¬ (n < 0)) ∧ (¬ (2 < n)) then 1 else 0))) rfl rfl rfl (cc_105i M J n 0 2) rfl) <|
    fl_dtwo (fl_if (t := 35) rfl rfl) fl_b1 (fun h4 =>
     fl_td (s' := (52, [.ref 81, .int a, .int b, .int n, .int (2 * n), .int 0, .null], [.int 0, .int b, .int a, .ref 81, .int 4, .ref 97], M, J)) (fl_n 13 rfl) <|
     fl_td (s' := (55, [.ref 81, .int a, .int b, .int n, .int (2 * n), .int 0, .null], [.int (v_181 a b 0 M), .int 4, .ref 97], (lr_161_2 1 (lr_181_7 0 (lr_160_2 M))), J)) (fl_cv (o := some (.int (v_181 a b 0 M))) rfl rfl rfl rfl (cc_181 M J a b 0) rfl) <|
     fx_gen (p := fun (MM214 : fl_M) => fl_dn fB180 (55, [.ref 81, .int a, .int b, .int n, .int (2 * n), .int 0, .null], [.int (v_181 a b 0 M), .int 4, .ref 97], MM214, J) r) (lr_161_2 1 (lr_181_7 0 (lr_160_2 M))) (fun MM214 eMM214 =>
      fl_td (s' := (58, [.ref 81, .int a, .int b, .int n, .int (2 * n), .int 0, .null], [.int (2 * n)], (fl_u MM214 97 4 (v_181 a b 0 M)), J)) (fl_n 2 rfl) <|
      fl_dnot (fl_if (t := 66) rfl rfl) fl_qle (fun h6 =>
       fl_td (s' := (63, [.ref 81, .int a, .int b, .int n, .int (2 * n), .int 0, .null], [.int 0, .ref 81], (fl_u MM214 97 4 (v_181 a b 0 M)), J)) (fl_n 2 rfl) <|
       fl_td (s' := (66, [.ref 81, .int a, .int b, .int n, .int (2 * n), .int 0, .null], [], (m_182 0 (fl_u MM214 97 4 (v_181 a b 0 M))), J)) (fl_cv (o := none) rfl rfl rfl rfl (cc_182 (fl_u MM214 97 4 (v_181 a b 0 M)) J 0) rfl) <|
       fx_gen (p := fun (MM215 : fl_M) => fl_dn fB180 (66, [.ref 81, .int a, .int b, .int n, .int (2 * n), .int 0, .null], [], MM215, J) r) (m_182 0 (fl_u MM214 97 4 (v_181 a b 0 M))) (fun MM215 eMM215 =>
        (by subst eMM214; subst eMM215; exact (q2 h1 h2 h3 h4 h6)))) (fun h6 =>
       (by subst eMM214; exact (q3 h1 h2 h3 h4 h6))))) (fun h4 =>
     fl_td (s' := (34, [.ref 81, .int a, .int b, .int n, .null, .null, .null], [.int (-1)], M, J)) (fl_n 1 rfl) <|
     fl_rt rfl (fun _ => rfl) (q4 h1 h2 h3 h4)))) (fun h2 =>
   fl_td (s' := (34, [.ref 81, .int a, .int b, .int n, .null, .null, .null], [.int (-1)], M, J)) (fl_n 1 rfl) <|
   fl_rt rfl (fun _ => rfl) (q5 h1 h2))) (fun h1 =>
  fl_td (s' := (34, [.ref 81, .int a, .int b, .int n, .null, .null, .null], [.int (-1)], M, J)) (fl_n 1 rfl) <|
  fl_rt rfl (fun _ => rfl) (q6 h1))
def lf (M : fl_M) (j : Nat) : Int := (M 96 j).toInt
theorem dw_le {a b : Int} {N : Nat} (h1 : a < b) (h2 : b ≤ ((N + 1 : Nat) : Int)) : a ≤ (N : Int) := by omega
theorem dw_neg {l : Nat → Int} {T : Int} (h : T < 0) (N : Nat) : dw_m l T ≤ (N : Int) := by
  unfold dw_m
  rw [if_pos h]
  omega
theorem dw_s1 {R M M' : fl_M} {T : Int} {k : Nat} (hT : T = (k : Int)) (h4 : k < 4) (hD : DI R M T) (h8 : (M 96 k).toInt ≤ 8) (hf : fD R M') (hu : ∀ j, j < 4 → (M' 96 j).toInt = if j = k then (M 96 k).toInt + 1 else (M 96 j).toInt) : DI R M' T ∧ dw_m (lf M') T < dw_m (lf M) T := by
  subst hT
  refine ⟨⟨hf, fun j hj => ?_, fun j hj => ?_⟩, dw_m1 h4 hu⟩
  · have := hD.2.1 j hj
    have := hD.2.1 k h4
    rw [hu j hj]
    split <;> omega
  · rw [hu j (by omega), if_neg (by omega)]
    exact hD.2.2 j hj
theorem dw_s2 {R M M' : fl_M} {T T' : Int} {k : Nat} (hT : T = (k : Int)) (hT' : T' = T + 1) (h4 : k + 1 < 4) (hD : DI R M T) (h8 : (M 96 k).toInt ≤ 8) (hf : fD R M') (hu : ∀ j, j < 4 → (M' 96 j).toInt = if j = k + 1 then 0 else (M 96 j).toInt) : DI R M' T' ∧ dw_m (lf M') T' < dw_m (lf M) T := by
  have e : T' = ((k + 1 : Nat) : Int) := by omega
  subst hT
  rw [e]
  refine ⟨⟨hf, fun j hj => ?_, fun j hj => ?_⟩, dw_m2 h4 hu⟩
  · have := hD.2.1 j hj
    rw [hu j hj]
    split <;> omega
  · rw [hu j (by omega), if_neg (by omega)]
    by_cases hj2 : j = k
    · rw [hj2]; exact h8
    · exact hD.2.2 j (by omega)
theorem dw_s3 {R M M' : fl_M} {T T' : Int} {k : Nat} (hT : T = ((k + 1 : Nat) : Int)) (hT' : T' = (k : Int)) (h4 : k + 1 < 4) (hD : DI R M T) (hf : fD R M') (hu : ∀ j, j < 4 → (M' 96 j).toInt = if j = k then (M 96 k).toInt + 1 else (M 96 j).toInt) : DI R M' T' ∧ dw_m (lf M') T' < dw_m (lf M) T := by
  have h8 := hD.2.2 k (by omega)
  have h9 := (hD.2.1 (k + 1) h4).2
  subst hT
  subst hT'
  refine ⟨⟨hf, fun j hj => ?_, fun j hj => ?_⟩, dw_m3 h4 h9 hu⟩
  · have := hD.2.1 j hj
    have := hD.2.1 k (by omega)
    rw [hu j hj]
    split <;> omega
  · rw [hu j (by omega), if_neg (by omega)]
    exact hD.2.2 j (by omega)
theorem dw_j {j : Nat} {x : Int} (a : (j : Int) < x) (b : x < 0) : False := by omega
theorem dw_p1 {tu : Int32} (h0 : 0 ≤ tu.toInt) (h4 : tu.toInt < 4) : (tu + (-1)).toInt = tu.toInt - 1 := by
  have em : (-1 : Int32).toInt = -1 := rfl
  rw [fi_add (by rw [em]; omega) (by rw [em]; omega), em]
  rfl
theorem dw_p2 {tu tp tt : Int32} (ep : tp.toInt = tu.toInt - 1) (h0 : 0 ≤ tu.toInt) (h1 : tu.toInt < tt.toInt) (t4 : tt.toInt ≤ 4) : -1 ≤ tp.toInt ∧ tp.toInt < tt.toInt ∧ (0 ≤ tp.toInt → tu.toInt = ((tp.toNatClampNeg + 1 : Nat) : Int) ∧ tp.toInt = (tp.toNatClampNeg : Int) ∧ tp.toNatClampNeg + 1 < 4 ∧ (tp.toNatClampNeg : Int) < tu.toInt) := by
  have cp := fi_cl tp
  have cu := fi_cl tu
  exact ⟨by omega, by omega, fun _ => ⟨by omega, by omega, by omega, by omega⟩⟩
theorem dw_l {R : fl_M} (J : fl_J) (a b n tt : Int32) (r1 : 0 ≤ (R 81 1).toInt ∧ (R 81 1).toInt ≤ 8) (r4 : 0 ≤ (R 81 4).toInt ∧ (R 81 4).toInt ≤ 4) (ht : tt.toInt = 2 ∨ tt.toInt = 4) : ∀ (N : Nat) (tu : Int32) (u6 : Value) (M : fl_M), -1 ≤ tu.toInt → tu.toInt < tt.toInt → DI R M tu.toInt → dw_m (lf M) tu.toInt ≤ (N : Int) → ∃ X, fD R X ∧ fl_dn fB180 (66, [.ref 81, .int a, .int b, .int n, .int tt, .int tu, u6], [], M, J) (some (.int 1), X, J) := by
  have em : (-1 : Int32).toInt = -1 := rfl
  have t0 : 0 < tt := fi_l.mpr (by rw [fi_i0]; omega)
  have t4 : tt.toInt ≤ 4 := by omega
  intro N
  induction N with
  | zero =>
    intro tu u6 M h0 h1 hD hN
    by_cases c1 : tu < 0
    · exact ⟨_, fD_11 hD.1, ts_180_66 a b n tt tu u6 M J (fun _ _ => rfl) (fun _ z => absurd c1 z) (fun _ z => absurd c1 z) (fun _ z => absurd c1 z) (fun _ z => absurd c1 z) (fun z => absurd t0 z)⟩
    · rw [fi_l, fi_i0] at c1
      have := dw_m0 (l := lf M) (T := tu.toInt) (by omega) (fun j hj => (hD.2.1 j hj).2) (by omega)
      omega
  | succ N ih =>
    intro tu u6 M h0 h1 hD hN
    by_cases c1 : tu < 0
    · exact ⟨_, fD_11 hD.1, ts_180_66 a b n tt tu u6 M J (fun _ _ => rfl) (fun _ z => absurd c1 z) (fun _ z => absurd c1 z) (fun _ z => absurd c1 z) (fun _ z => absurd c1 z) (fun z => absurd t0 z)⟩
    have d1 := c1
    rw [fi_l, fi_i0] at d1
    have ck := fi_cl tu
    have ek : tu.toInt = (tu.toNatClampNeg : Nat) := by omega
    have e81 : M 81 1 = R 81 1 := hD.1.2.1 1 (by decide)
    have e84 : M 81 4 = R 81 4 := hD.1.2.1 4 (by decide)
    have k4 : tu.toNatClampNeg < 4 := by omega
    have hk := hD.2.1 tu.toNatClampNeg k4
    have t00 : 0 ≤ tu.toInt := by omega
    have tl4 : tu.toInt < 4 := by omega
    by_cases c2 : M 81 1 < M 96 tu.toNatClampNeg
    · have ep := dw_p1 t00 tl4
      obtain ⟨g1, g2, g3⟩ := dw_p2 ep t00 h1 t4
      by_cases c3 : tu + (-1) < 0
      · have d3 := c3
        rw [fi_l, fi_i0] at d3
        obtain ⟨X, x1, x2⟩ := ih (tu + (-1)) (.int (M 97 tu.toNatClampNeg)) (fl_u M 97 4 (M 97 tu.toNatClampNeg)) g1 g2 ⟨fD_u hD.1 (Or.inr rfl), fun j hj => by rw [fl_un (by decide)]; exact hD.2.1 j hj, fun j hj => (dw_j hj d3).elim⟩ (dw_neg d3 N)
        exact ⟨X, x1, ts_180_66 a b n tt tu u6 M J (fun _ z => absurd z c1) (fun _ _ _ _ => x2) (fun _ _ _ z => absurd c3 z) (fun _ _ z => absurd c2 z) (fun _ _ z => absurd c2 z) (fun z => absurd t0 z)⟩
      · have d3 := c3
        rw [fi_l, fi_i0] at d3
        obtain ⟨g4, g5, g6, g7⟩ := g3 (Int.not_lt.mp d3)
        have h8 := hD.2.2 (tu + (-1)).toNatClampNeg g7
        have k9 : (M 96 (tu + (-1)).toNatClampNeg).toInt < 2147483647 := Int.lt_of_le_of_lt h8 (by decide)
        have hu := dw_u96 (M := M) (Z := M) (k := (tu + (-1)).toNatClampNeg) (i := (tu + (-1)).toNatClampNeg) (x := M 96 (tu + (-1)).toNatClampNeg + 1) (v := v_183 (tu + (-1)) (M 97 ((tu + (-1)).toNatClampNeg)) (M 97 tu.toNatClampNeg)) rfl
        rw [fi_p1 k9] at hu
        obtain ⟨d, m⟩ := dw_s3 g4 g5 g6 hD (fD_u (fD_u hD.1 (Or.inr rfl)) (Or.inl rfl)) hu
        obtain ⟨X, x1, x2⟩ := ih (tu + (-1)) (.int (M 97 tu.toNatClampNeg)) _ g1 g2 d (dw_le m hN)
        exact ⟨X, x1, ts_180_66 a b n tt tu u6 M J (fun _ z => absurd z c1) (fun _ _ _ z => absurd z c3) (fun _ _ _ _ => x2) (fun _ _ z => absurd c2 z) (fun _ _ z => absurd c2 z) (fun z => absurd t0 z)⟩
    · have d2 := c2
      rw [fi_l, e81] at d2
      have k8 : (M 96 tu.toNatClampNeg).toInt ≤ 8 := by omega
      have k9 : (M 96 tu.toNatClampNeg).toInt < 2147483647 := by omega
      by_cases c4 : tu = tt - 1
      · have hz := dw_z (X := M) (by rw [e81]; exact r1) (by rw [e84]; exact r4) (fun j hj => (hD.2.1 j hj).1) tt t4
        have z96 := hz.1 96 (by decide)
        have hu := dw_u96 (M := M) (Z := lr_161_2 1 (lr_181_7 tt (lr_160_2 M))) (k := tu.toNatClampNeg) (i := tu.toNatClampNeg) (x := (lr_161_2 1 (lr_181_7 tt (lr_160_2 M))) 96 tu.toNatClampNeg + 1) (v := v_183 tu (M 97 tu.toNatClampNeg) (v_181 a b tt M)) z96
        have e2 : ((lr_161_2 1 (lr_181_7 tt (lr_160_2 M))) 96 tu.toNatClampNeg + 1).toInt = (M 96 tu.toNatClampNeg).toInt + 1 := by rw [z96]; exact fi_p1 k9
        rw [e2] at hu
        obtain ⟨d, m⟩ := dw_s1 ek k4 hD k8 (fD_u (fD_u (fD_R hD.1 hz) (Or.inr rfl)) (Or.inl rfl)) hu
        obtain ⟨X, x1, x2⟩ := ih tu u6 _ h0 h1 d (dw_le m hN)
        exact ⟨X, x1, ts_180_66 a b n tt tu u6 M J (fun _ z => absurd z c1) (fun _ _ z => absurd z c2) (fun _ _ z => absurd z c2) (fun _ _ _ _ => x2) (fun _ _ _ z => absurd c4 z) (fun z => absurd t0 z)⟩
      · have d4 : tu.toInt ≠ tt.toInt - 1 := fun z => c4 (fi_e.mpr (by rw [fi_sub (by rw [fi_i1]; omega) (by rw [fi_i1]; omega), fi_i1]; exact z))
        have e1 := fi_p1 (p := tu) (by omega)
        have cq := fi_cl (tu + 1)
        have eq : (tu + 1).toNatClampNeg = tu.toNatClampNeg + 1 := by omega
        have g1 : -1 ≤ (tu + 1).toInt := by omega
        have g2 : (tu + 1).toInt < tt.toInt := by omega
        have g5 : tu.toNatClampNeg + 1 < 4 := by omega
        obtain ⟨v, hv⟩ := m_182_e (tu + 1) M
        have hu : ∀ j, j < 4 → ((m_182 (tu + 1) M) 96 j).toInt = if j = tu.toNatClampNeg + 1 then 0 else (M 96 j).toInt := by
          intro j _
          rw [hv, fl_un (by decide), eq]
          by_cases h : j = tu.toNatClampNeg + 1
          · rw [h, fl_us, if_pos rfl]; rfl
          · rw [fl_uo (Or.inr h), if_neg h]
        obtain ⟨d, m⟩ := dw_s2 ek e1 g5 hD k8 (by rw [hv]; exact fD_u (fD_u hD.1 (Or.inl rfl)) (Or.inr rfl)) hu
        obtain ⟨X, x1, x2⟩ := ih (tu + 1) u6 _ g1 g2 d (dw_le m hN)
        exact ⟨X, x1, ts_180_66 a b n tt tu u6 M J (fun _ z => absurd z c1) (fun _ _ z => absurd z c2) (fun _ _ z => absurd z c2) (fun _ _ _ z => absurd z c4) (fun _ _ _ _ => x2) (fun z => absurd t0 z)⟩
/-- which duels are fought -/
def dw_B (R : fl_M) (a b n : Int32) : Prop := ((¬ (a < 0)) ∧ (¬ ((R 81 1) - 1 < a))) ∧ ((¬ (b < 0)) ∧ (¬ ((R 81 1) - 1 < b))) ∧ (¬ (a = b)) ∧ ((¬ (n < 0)) ∧ (¬ (2 < n)))
theorem dw_r {R : fl_M} (J : fl_J) (a b n : Int32) (r1 : 0 ≤ (R 81 1).toInt ∧ (R 81 1).toInt ≤ 8) (r4 : 0 ≤ (R 81 4).toInt ∧ (R 81 4).toInt ≤ 4) (r9 : ∀ j, j < 4 → 0 ≤ (R 96 j).toInt ∧ (R 96 j).toInt ≤ 9) : ∃ (v : Int32) (X : fl_M), fl_C 180 [.ref 81, .int a, .int b, .int n] R J (some (.int v), X, J) ∧ fD R X ∧ (dw_B R a b n → v = 1) ∧ (¬ dw_B R a b n → v = -1) := by
  have id : fD R R := ⟨fun _ _ => rfl, fun _ _ => rfl, fun _ _ => rfl⟩
  by_cases h : dw_B R a b n
  · have hh := h
    obtain ⟨b1, b2, b3, b4⟩ := h
    have hz := dw_z (X := R) r1 r4 (fun j hj => (r9 j hj).1) 0 (by decide)
    have z96 := hz.1 96 (by decide)
    have hf : fD R (fl_u (lr_161_2 1 (lr_181_7 0 (lr_160_2 R))) 97 4 (v_181 a b 0 R)) := fD_u (fD_R id hz) (Or.inr rfl)
    have n0 := b4.1
    have n2 := b4.2
    rw [fi_l, fi_i0] at n0
    rw [fi_l, fj_2] at n2
    have en : (2 * n).toInt = 2 * n.toInt := by rw [fi_mul (by rw [fj_2]; omega) (by rw [fj_2]; omega), fj_2]
    by_cases c : 0 < 2 * n
    · have c' := c
      rw [fi_l, fi_i0, en] at c'
      obtain ⟨v, hv⟩ := m_182_e 0 (fl_u (lr_161_2 1 (lr_181_7 0 (lr_160_2 R))) 97 4 (v_181 a b 0 R))
      have e0 : (0 : Int32).toNatClampNeg = 0 := rfl
      have hu : ∀ j, j < 4 → 0 ≤ ((m_182 0 (fl_u (lr_161_2 1 (lr_181_7 0 (lr_160_2 R))) 97 4 (v_181 a b 0 R))) 96 j).toInt ∧ ((m_182 0 (fl_u (lr_161_2 1 (lr_181_7 0 (lr_160_2 R))) 97 4 (v_181 a b 0 R))) 96 j).toInt ≤ 9 := by
        intro j hj
        rw [hv, fl_un (by decide), e0]
        by_cases h : j = 0
        · rw [h, fl_us]; decide
        · rw [fl_uo (Or.inr h), fl_un (by decide), z96]; exact r9 j hj
      obtain ⟨X, x1, x2⟩ := dw_l J a b n (2 * n) r1 r4 (by omega) (dw_m (lf (m_182 0 (fl_u (lr_161_2 1 (lr_181_7 0 (lr_160_2 R))) 97 4 (v_181 a b 0 R)))) 0).toNat 0 .null (m_182 0 (fl_u (lr_161_2 1 (lr_181_7 0 (lr_160_2 R))) 97 4 (v_181 a b 0 R))) (by decide) (by rw [fi_i0]; omega) ⟨by rw [hv]; exact fD_u (fD_u hf (Or.inl rfl)) (Or.inr rfl), hu, fun j hj => by rw [fi_i0] at hj; omega⟩ (by rw [fi_i0]; exact Int.self_le_toNat _)
      exact ⟨1, X, fl_Co (B := fB180) rfl rfl (ts_180_0 a b n R J (fun _ _ z => absurd z b3) (fun _ _ _ _ _ => x2) (fun _ _ _ _ z => absurd c z) (fun _ _ _ z => absurd b4 z) (fun _ z => absurd b2 z) (fun z => absurd b1 z)), x1, fun _ => rfl, fun z => absurd hh z⟩
    · refine ⟨1, _, fl_Co (B := fB180) rfl rfl (ts_180_0 a b n R J (fun _ _ z => absurd z b3) (fun _ _ _ _ z => absurd z c) (fun _ _ _ _ _ => ts_180_66 a b n (2 * n) 0 .null _ J (fun z => absurd z c) (fun z => absurd z c) (fun z => absurd z c) (fun z => absurd z c) (fun z => absurd z c) (fun _ => rfl)) (fun _ _ _ z => absurd b4 z) (fun _ z => absurd b2 z) (fun z => absurd b1 z)), fD_11 hf, fun _ => rfl, fun z => absurd hh z⟩
  · exact ⟨-1, R, fl_Co (B := fB180) rfl rfl (ts_180_0 a b n R J (fun _ _ _ => rfl) (fun z1 z2 z3 z4 _ => absurd ⟨z1, z2, z3, z4⟩ h) (fun z1 z2 z3 z4 _ => absurd ⟨z1, z2, z3, z4⟩ h) (fun _ _ _ _ => rfl) (fun _ _ => rfl) (fun _ => rfl)), id, fun z => absurd z h, fun _ => rfl⟩
/-! The worlds' bounds as numbers, kept by fault and register. -/
def kwL : List wo_O := [(1, 0, 5, -1, 40), (9, 0, 3, -1, 60), (15, 0, 0, 0, 8), (15, 1, 1, 0, 4), (22, 0, 3, 0, 7), (23, 0, 3, 0, 7), (24, 0, 0, 0, 8), (24, 1, 1, 0, 4), (31, 0, 3, 0, 7), (32, 0, 3, 0, 7), (33, 0, 0, 0, 8), (33, 1, 1, 0, 4), (40, 0, 3, 0, 7), (41, 0, 3, 0, 7), (42, 0, 0, 0, 40), (47, 0, 0, -1, 40), (51, 0, 0, -1, 40), (55, 0, 0, -1, 40)]
theorem kw_o : kw.flatMap wo_o = kwL := by decide +kernel
theorem kw_c : kw.all wo_c = true := by decide +kernel
def sgL : List wo_O := wo_o (82, ms_r [(0, [(-1, 40)])])
def mwL (m : Nat) : List wo_O := (81, 1, 1, (if m = 0 then 0 else 1), 8) :: (81, 4, 4, (m : Int), (m : Int)) :: (81, 16, 16, 0, 180) :: (81, 17, 17, 0, 60) :: (81, 18, 18, -1, 60) :: (81, 19, 19, 0, 8) :: (81, 22, 22, 0, 4) :: (sgL ++ ((if m = 0 then [] else [(86, 0, m - 1, 1, 9)]) ++ [(87, 0, 5, -1, 40), (89, 0, 3, -1, 60), (94, 1, 1, 0, 7), (94, 4, 4, 0, 7), (94, 7, 7, 0, 7), (94, 10, 10, 0, 7), (96, 0, 3, 0, 9)]))
theorem mw_o : ∀ m, m < 5 → (mwm m).flatMap wo_o = mwL m := fun m hm => match m, hm with
  | 0, _ => by decide +kernel
  | 1, _ => by decide +kernel
  | 2, _ => by decide +kernel
  | 3, _ => by decide +kernel
  | 4, _ => by decide +kernel
  | n + 5, hm => absurd hm (by omega)
theorem mw_c : ∀ m, m < 5 → (mwm m).all wo_c = true := by decide +kernel
def kz (X : fl_M) : Prop := ∀ o ∈ kwL, wo_h X o
/-- the reference's long row, within bounds -/
def sgP (X : fl_M) : Prop := ∀ o ∈ sgL, wo_h X o
theorem sg_82 : ∀ o ∈ sgL, o.1 = 82 := by decide +kernel
theorem sg_k : ∀ o ∈ sgL, (o.2.2.2.1 ≤ 0 ∧ 0 ≤ o.2.2.2.2) ∧ ¬ (o.2.1 ≤ 2 ∧ 2 ≤ o.2.2.1) ∧ ¬ (o.2.1 ≤ 11 ∧ 4 ≤ o.2.2.1) ∧ ((o.2.1 ≤ 23 ∧ 20 ≤ o.2.2.1) → o.2.2.2.1 ≤ 0 ∧ 7 ≤ o.2.2.2.2) ∧ ((o.2.1 ≤ 944 ∧ 944 ≤ o.2.2.1) → o.2.2.2.1 ≤ -1 ∧ -1 ≤ o.2.2.2.2) ∧ ((o.2.1 ≤ 1888 ∧ 1888 ≤ o.2.2.1) → o.2.2.2.1 ≤ -1 ∧ -1 ≤ o.2.2.2.2) ∧ ((o.2.1 ≤ 2832 ∧ 2832 ≤ o.2.2.1) → o.2.2.2.1 ≤ -1 ∧ -1 ≤ o.2.2.2.2) := by decide +kernel
theorem sg_c {X Y : fl_M} (h : sgP X) (e : Y 82 = X 82) : sgP Y := fun o ho j h1 h2 => by
  have g := h o ho j h1 h2
  rw [sg_82 o ho] at g ⊢
  rw [e]
  exact g
theorem sg_u {X : fl_M} {j : Nat} {v : Int32} (h : sgP X) (hc : ∀ o ∈ sgL, o.2.1 ≤ j → j ≤ o.2.2.1 → o.2.2.2.1 ≤ v.toInt ∧ v.toInt ≤ o.2.2.2.2) : sgP (fl_u X 82 j v) := fun o ho i h1 h2 => by
  by_cases e : i = j
  · rw [sg_82 o ho, e, fl_us]
    exact hc o ho (by omega) (by omega)
  · rw [sg_82 o ho, fl_uo (Or.inr e)]
    have g := h o ho i h1 h2
    rw [sg_82 o ho] at g
    exact g
theorem sg_39 {B : fl_M} (h : sgP B) : sgP (lr_129_39 B) := fun o ho i h1 h2 => by
  rw [rg_39]
  split
  · exact (sg_k o ho).1
  · exact h o ho i h1 h2
theorem fx_kj {P : fl_M → Prop} {s : Nat → fl_M → fl_M} {n : Nat} {M : fl_M} (h0 : P M) (hs : ∀ m q, m < n → P q → P (s m q)) : P (fx_it s n M) := by
  induction n with
  | zero => exact h0
  | succ n ih => exact hs n _ (Nat.lt_succ_self n) (ih (fun m q hm => hs m q (Nat.lt_succ_of_lt hm)))
theorem sg_85 {Y : fl_M} (h : sgP Y) (h8 : (Y 81 1).toNatClampNeg ≤ 8) : sgP (lr_129_85 Y) := by
  refine fx_kj h (fun m q hm hq => ?_)
  have en := fi_at (m := m) (by omega)
  have e4 := fj_nn (fj_pa (x := 4) (y := Int32.ofNat m) (a := 4) (c := m) rfl (fi_ti (by omega)) (by omega))
  unfold ls_129_85
  rw [en, e4]
  exact sg_u (sg_c (sg_c hq (fl_un (by decide))) (fl_un (by decide))) (fun o ho h1 h2 => absurd (⟨by omega, by omega⟩ : o.2.1 ≤ 11 ∧ 4 ≤ o.2.2.1) (sg_k o ho).2.2.1)
theorem sg_139 {Y : fl_M} (h : sgP Y) (h4 : (Y 81 4).toNatClampNeg ≤ 4) (h9 : ∀ j : Nat, (j = 1 ∨ j = 4 ∨ j = 7 ∨ j = 10) → 0 ≤ (Y 94 j).toInt ∧ (Y 94 j).toInt ≤ 7) : sgP (lr_129_139 Y) := by
  refine (fx_kj (P := fun q => sgP q ∧ q 94 = Y 94) ⟨h, rfl⟩ (fun m q hm hq => ?_)).1
  obtain ⟨hq, e9⟩ := hq
  have en := fi_at (m := m) (by omega)
  have e20 := fj_nn (fj_pa (x := 20) (y := Int32.ofNat m) (a := 20) (c := m) rfl (fi_ti (by omega)) (by omega))
  have e3 : (3 * Int32.ofNat m).toInt = ((3 * m : Nat) : Int) := by
    have em := fi_ti (m := m) (by omega)
    rw [fi_mul (by rw [em, fi_i3]; omega) (by rw [em, fi_i3]; omega), em, fi_i3]
    omega
  have e31 := fj_nn (fj_pa (x := 3 * Int32.ofNat m) (y := 1) (a := 3 * m) (c := 1) e3 rfl (by omega))
  unfold ls_129_139
  rw [en, e20, e31]
  have g := h9 (3 * m + 1) (by omega)
  rw [← e9] at g
  refine ⟨sg_c (sg_u (sg_c hq (fl_un (by decide))) (fun o ho h1 h2 => ?_)) (fl_un (by decide)), by rw [fl_un (by decide), fl_un (by decide), fl_un (by decide)]; exact e9⟩
  have k := (sg_k o ho).2.2.2.1 ⟨by omega, by omega⟩
  omega
theorem sg_204 {Y : fl_M} (h : sgP Y) : sgP (lr_129_204 Y) := by
  refine fx_kj h (fun m q hm hq => ?_)
  have em := fi_ti (m := 1 + m) (by omega)
  have e9 : (944 * Int32.ofNat (1 + m)).toInt = ((944 * (1 + m) : Nat) : Int) := by
    rw [fi_mul (by rw [em, show (944 : Int32).toInt = 944 from rfl]; omega) (by rw [em, show (944 : Int32).toInt = 944 from rfl]; omega), em, show (944 : Int32).toInt = 944 from rfl]
    omega
  have e := fj_nn e9
  have m1 : (-1 : Int32).toInt = -1 := rfl
  unfold ls_129_204
  rw [Int32.add_zero, e]
  refine sg_u hq (fun o ho h1 h2 => ?_)
  rw [m1]
  have k := (sg_k o ho).2.2.2.2
  have : m = 0 ∨ m = 1 ∨ m = 2 := by omega
  rcases this with rfl | rfl | rfl
  · exact k.1 ⟨h1, h2⟩
  · exact k.2.1 ⟨h1, h2⟩
  · exact k.2.2 ⟨h1, h2⟩
/-- the reference's bounds, with m mice -/
def mz (m : Nat) (X : fl_M) : Prop := (0 ≤ (X 81 1).toInt ∧ (X 81 1).toInt ≤ 8) ∧ (0 < m → 1 ≤ (X 81 1).toInt) ∧ (X 81 4).toInt = m ∧ (0 ≤ (X 81 16).toInt ∧ (X 81 16).toInt ≤ 180) ∧ (0 ≤ (X 81 17).toInt ∧ (X 81 17).toInt ≤ 60) ∧ (-1 ≤ (X 81 18).toInt ∧ (X 81 18).toInt ≤ 60) ∧ (0 ≤ (X 81 19).toInt ∧ (X 81 19).toInt ≤ 8) ∧ (0 ≤ (X 81 22).toInt ∧ (X 81 22).toInt ≤ 4) ∧ sgP X ∧
  (∀ j, j < m → 1 ≤ (X 86 j).toInt ∧ (X 86 j).toInt ≤ 9) ∧ (∀ j, j < 6 → -1 ≤ (X 87 j).toInt ∧ (X 87 j).toInt ≤ 40) ∧ (∀ j, j < 4 → -1 ≤ (X 89 j).toInt ∧ (X 89 j).toInt ≤ 60) ∧ (∀ j : Nat, (j = 1 ∨ j = 4 ∨ j = 7 ∨ j = 10) → 0 ≤ (X 94 j).toInt ∧ (X 94 j).toInt ≤ 7) ∧ ∀ j, j < 4 → 0 ≤ (X 96 j).toInt ∧ (X 96 j).toInt ≤ 9
theorem mz_e {m : Nat} {X Y : fl_M} (g : mz m X) (e81 : ∀ j, (j = 1 ∨ j = 4 ∨ j = 16 ∨ j = 17 ∨ j = 18 ∨ j = 19 ∨ j = 22) → Y 81 j = X 81 j) (ec : ∀ c, (c = 82 ∨ c = 86 ∨ c = 87 ∨ c = 89 ∨ c = 94 ∨ c = 96) → Y c = X c) : mz m Y := by
  obtain ⟨a1, a2, a4, a16, a17, a18, a19, a22, b0, b86, b87, b89, b94, b96⟩ := g
  exact ⟨by rw [e81 1 (by decide)]; exact a1, by rw [e81 1 (by decide)]; exact a2, by rw [e81 4 (by decide)]; exact a4, by rw [e81 16 (by decide)]; exact a16, by rw [e81 17 (by decide)]; exact a17, by rw [e81 18 (by decide)]; exact a18, by rw [e81 19 (by decide)]; exact a19, by rw [e81 22 (by decide)]; exact a22, sg_c b0 (ec 82 (by decide)), by rw [ec 86 (by decide)]; exact b86, by rw [ec 87 (by decide)]; exact b87, by rw [ec 89 (by decide)]; exact b89, by rw [ec 94 (by decide)]; exact b94, by rw [ec 96 (by decide)]; exact b96⟩
theorem wo_one {X : fl_M} {a k : Nat} {lo hi : Int} (h : lo ≤ (X a k).toInt ∧ (X a k).toInt ≤ hi) : wo_h X (a, k, k, lo, hi) := fun j h1 h2 => by
  have : j = k := Nat.le_antisymm h2 h1
  rw [this]
  exact h
theorem wo_all {X : fl_M} {a k : Nat} {lo hi : Int} (h : ∀ j, j < k + 1 → lo ≤ (X a j).toInt ∧ (X a j).toInt ≤ hi) : wo_h X (a, 0, k, lo, hi) := fun j _ h2 => h j (Nat.lt_succ_of_le h2)
theorem mz_l {m : Nat} {X : fl_M} (h : mz m X) : ∀ o ∈ mwL m, wo_h X o := by
  obtain ⟨a1, a2, a4, a16, a17, a18, a19, a22, b0, b86, b87, b89, b94, b96⟩ := h
  unfold mwL
  refine List.forall_mem_cons.mpr ⟨wo_one ⟨?_, a1.2⟩, List.forall_mem_cons.mpr ⟨wo_one ⟨by omega, by omega⟩, List.forall_mem_cons.mpr ⟨wo_one a16, List.forall_mem_cons.mpr ⟨wo_one a17, List.forall_mem_cons.mpr ⟨wo_one a18, List.forall_mem_cons.mpr ⟨wo_one a19, List.forall_mem_cons.mpr ⟨wo_one a22, List.forall_mem_append.mpr ⟨b0, List.forall_mem_append.mpr ⟨?_, ?_⟩⟩⟩⟩⟩⟩⟩⟩⟩
  · split
    · exact a1.1
    · exact a2 (by omega)
  · split
    · exact fun o ho => absurd ho List.not_mem_nil
    · exact List.forall_mem_cons.mpr ⟨wo_all (fun j hj => b86 j (by omega)), fun o ho => absurd ho List.not_mem_nil⟩
  · exact List.forall_mem_cons.mpr ⟨wo_all b87, List.forall_mem_cons.mpr ⟨wo_all b89, List.forall_mem_cons.mpr ⟨wo_one (b94 1 (by decide)), List.forall_mem_cons.mpr ⟨wo_one (b94 4 (by decide)), List.forall_mem_cons.mpr ⟨wo_one (b94 7 (by decide)), List.forall_mem_cons.mpr ⟨wo_one (b94 10 (by decide)), List.forall_mem_cons.mpr ⟨wo_all b96, fun o ho => absurd ho List.not_mem_nil⟩⟩⟩⟩⟩⟩⟩
theorem l_mz {m : Nat} {X : fl_M} (h : ∀ o ∈ mwL m, wo_h X o) : mz m X := by
  unfold mwL at h
  obtain ⟨q1, h⟩ := List.forall_mem_cons.mp h
  obtain ⟨q4, h⟩ := List.forall_mem_cons.mp h
  obtain ⟨q16, h⟩ := List.forall_mem_cons.mp h
  obtain ⟨q17, h⟩ := List.forall_mem_cons.mp h
  obtain ⟨q18, h⟩ := List.forall_mem_cons.mp h
  obtain ⟨q19, h⟩ := List.forall_mem_cons.mp h
  obtain ⟨q22, h⟩ := List.forall_mem_cons.mp h
  obtain ⟨q82, h⟩ := List.forall_mem_append.mp h
  obtain ⟨q86, h⟩ := List.forall_mem_append.mp h
  obtain ⟨q87, h⟩ := List.forall_mem_cons.mp h
  obtain ⟨q89, h⟩ := List.forall_mem_cons.mp h
  obtain ⟨p1, h⟩ := List.forall_mem_cons.mp h
  obtain ⟨p4, h⟩ := List.forall_mem_cons.mp h
  obtain ⟨p7, h⟩ := List.forall_mem_cons.mp h
  obtain ⟨p10, h⟩ := List.forall_mem_cons.mp h
  obtain ⟨q96, h⟩ := List.forall_mem_cons.mp h
  have a1 : (if m = 0 then (0 : Int) else 1) ≤ (X 81 1).toInt ∧ (X 81 1).toInt ≤ 8 := q1 1 (Nat.le_refl _) (Nat.le_refl _)
  have a4 : (m : Int) ≤ (X 81 4).toInt ∧ (X 81 4).toInt ≤ (m : Int) := q4 4 (Nat.le_refl _) (Nat.le_refl _)
  refine ⟨⟨?_, a1.2⟩, fun hm => ?_, by omega, q16 16 (Nat.le_refl _) (Nat.le_refl _), q17 17 (Nat.le_refl _) (Nat.le_refl _), q18 18 (Nat.le_refl _) (Nat.le_refl _), q19 19 (Nat.le_refl _) (Nat.le_refl _), q22 22 (Nat.le_refl _) (Nat.le_refl _), q82, fun j hj => ?_, fun j hj => q87 j (Nat.zero_le _) (show j ≤ 5 by omega), fun j hj => q89 j (Nat.zero_le _) (show j ≤ 3 by omega), fun j hj => ?_, fun j hj => q96 j (Nat.zero_le _) (show j ≤ 3 by omega)⟩
  · have := a1.1
    split at this <;> omega
  · have := a1.1
    rw [if_neg (by omega)] at this
    exact this
  · rw [if_neg (show ¬ m = 0 by omega)] at q86
    exact (List.forall_mem_cons.mp q86).1 j (Nat.zero_le _) (show j ≤ m - 1 by omega)
  · rcases hj with rfl | rfl | rfl | rfl
    · exact p1 1 (Nat.le_refl _) (Nat.le_refl _)
    · exact p4 4 (Nat.le_refl _) (Nat.le_refl _)
    · exact p7 7 (Nat.le_refl _) (Nat.le_refl _)
    · exact p10 10 (Nat.le_refl _) (Nat.le_refl _)
theorem ps_n {h : List va_E} (hh : fl_sh h) (hp : wo_p (fm_i h)) : ps_h h := by
  intro c hc
  have hc' : c = 42 ∨ c = 47 ∨ c = 51 ∨ c = 55 := by unfold ps_C at hc; simp only [List.mem_cons, List.not_mem_nil, or_false] at hc; exact hc
  have g := hp c hc'
  have a : ∀ a : Nat, fl_kd a = 0 → a < 98 → fl_len a = 40 → h[a]? = some (.inl (0, 40, .inl (fm_i h a))) := fun a k l e => by rw [← e]; exact fw_arr hh k (by decide) l
  rcases hc' with rfl | rfl | rfl | rfl <;> exact ⟨_, _, _, a _ rfl (by decide) rfl, a _ rfl (by decide) rfl, a _ rfl (by decide) rfl, g⟩
theorem n_ps {h : List va_E} (hh : fl_sh h) (hp : ps_h h) : wo_p (fm_i h) := by
  intro c hc d hd h1
  obtain ⟨fw, fl, fa, g0, g1, g2, g3⟩ := hp c (by unfold ps_C; simp only [List.mem_cons, List.not_mem_nil, or_false]; exact hc)
  rw [fm_i_arr hh g0] at h1
  rw [show c + 2 = c + 1 + 1 from rfl, fm_i_arr hh g1]
  exact g3 d hd h1
theorem I_n {h : List va_E} (hh : fl_sh h) (k : kz (fm_i h)) {m : Nat} (hm : m < 5) (g : mz m (fm_i h)) (p : wo_p (fm_i h)) : lw_I h := ⟨ps_n hh p, wo_hs hh kw_c (by rw [kw_o]; exact k), m, hm, wo_hs hh (mw_c m hm) (by rw [mw_o m hm]; exact mz_l g)⟩
theorem n_I {h : List va_E} (hh : fl_sh h) (hI : lw_I h) : kz (fm_i h) ∧ wo_p (fm_i h) ∧ ∃ m, m < 5 ∧ mz m (fm_i h) := by
  obtain ⟨hp, hk, m, hm, hw⟩ := hI
  refine ⟨?_, n_ps hh hp, m, hm, l_mz ?_⟩
  · have g := wo_hr hh hk
    rw [kw_o] at g
    exact g
  · have g := wo_hr hh hw
    rw [mw_o m hm] at g
    exact g
theorem kz_u {X : fl_M} {a j : Nat} {v : Int32} (h : kz X) (hc : ∀ o ∈ kwL, o.1 = a → o.2.1 ≤ j → j ≤ o.2.2.1 → o.2.2.2.1 ≤ v.toInt ∧ v.toInt ≤ o.2.2.2.2) : kz (fl_u X a j v) := fun o ho i h1 h2 => by
  by_cases e : o.1 = a
  · by_cases e2 : i = j
    · rw [e, e2, fl_us]
      exact hc o ho e (by omega) (by omega)
    · rw [fl_uo (Or.inr e2)]
      exact h o ho i h1 h2
  · rw [fl_un e]
    exact h o ho i h1 h2
/-- a cell that no bound names -/
theorem kz_n {X : fl_M} {a j : Nat} {v : Int32} (h : kz X) (ha : (kwL.all fun o => !(Nat.beq o.1 a)) = true) : kz (fl_u X a j v) := kz_u h (fun o ho e => by
  have g := List.all_eq_true.mp ha o ho
  rw [e, Nat.beq_refl] at g
  cases g)
def kz_b (a j : Nat) (lo hi : Int) : Bool := kwL.all fun o => !(Nat.beq o.1 a && (Nat.ble o.2.1 j && Nat.ble j o.2.2.1)) || (decide (o.2.2.2.1 ≤ lo) && decide (hi ≤ o.2.2.2.2))
theorem kz_v {X : fl_M} {a j : Nat} {v : Int32} {lo hi : Int} (h : kz X) (hb : kz_b a j lo hi = true) (h1 : lo ≤ v.toInt) (h2 : v.toInt ≤ hi) : kz (fl_u X a j v) := kz_u h (fun o ho e e1 e2 => by
  have g := List.all_eq_true.mp hb o ho
  rw [e, Nat.beq_refl, Nat.ble_eq_true_of_le e1, Nat.ble_eq_true_of_le e2] at g
  obtain ⟨g1, g2⟩ := sm_an (show (decide (o.2.2.2.1 ≤ lo) && decide (hi ≤ o.2.2.2.2)) = true from g)
  have g1 := of_decide_eq_true g1
  have g2 := of_decide_eq_true g2
  exact ⟨by omega, by omega⟩)
def kz_d (a : Nat) (lo hi : Int) : Bool := kwL.all fun o => !(Nat.beq o.1 a) || (decide (o.2.2.2.1 ≤ lo) && decide (hi ≤ o.2.2.2.2))
theorem kz_w {X : fl_M} {a j : Nat} {v : Int32} {lo hi : Int} (h : kz X) (hb : kz_d a lo hi = true) (h1 : lo ≤ v.toInt) (h2 : v.toInt ≤ hi) : kz (fl_u X a j v) := kz_u h (fun o ho e _ _ => by
  have g := List.all_eq_true.mp hb o ho
  rw [e, Nat.beq_refl] at g
  obtain ⟨g1, g2⟩ := sm_an (show (decide (o.2.2.2.1 ≤ lo) && decide (hi ≤ o.2.2.2.2)) = true from g)
  have g1 := of_decide_eq_true g1
  have g2 := of_decide_eq_true g2
  exact ⟨by omega, by omega⟩)
theorem kz_31 {X : fl_M} (h : kz X) : ∀ j : Nat, j < 4 → 0 ≤ (X 31 j).toInt ∧ (X 31 j).toInt ≤ 7 := fun j hj => h (31, 0, 3, 0, 7) (by decide) j (Nat.zero_le _) (show j ≤ 3 by omega)
theorem kz_32 {X : fl_M} (h : kz X) : ∀ j : Nat, j < 4 → 0 ≤ (X 32 j).toInt ∧ (X 32 j).toInt ≤ 7 := fun j hj => h (32, 0, 3, 0, 7) (by decide) j (Nat.zero_le _) (show j ≤ 3 by omega)
theorem kz_24 {X : fl_M} (h : kz X) : (0 ≤ (X 24 0).toInt ∧ (X 24 0).toInt ≤ 8) ∧ 0 ≤ (X 24 1).toInt ∧ (X 24 1).toInt ≤ 4 := ⟨h (24, 0, 0, 0, 8) (by decide) 0 (Nat.le_refl _) (Nat.le_refl _), h (24, 1, 1, 0, 4) (by decide) 1 (Nat.le_refl _) (Nat.le_refl _)⟩
theorem kz_15 {X : fl_M} (h : kz X) : (0 ≤ (X 15 0).toInt ∧ (X 15 0).toInt ≤ 8) ∧ 0 ≤ (X 15 1).toInt ∧ (X 15 1).toInt ≤ 4 := ⟨h (15, 0, 0, 0, 8) (by decide) 0 (Nat.le_refl _) (Nat.le_refl _), h (15, 1, 1, 0, 4) (by decide) 1 (Nat.le_refl _) (Nat.le_refl _)⟩
/-- what is read, in the class' aside -/
theorem kz_ra {C : fl_M} {t : Int32} (h : kz C) (hK : C 999 = sm_kl) (h0 : 0 ≤ t.toInt) (h3 : t.toInt ≤ 3) : kz (ra_M C t) := by
  obtain ⟨⟨i0, i1, -⟩, q32, q31⟩ := cq_ra hK h0 h3 (kz_31 h)
  have az := az_ra C t
  have same : ∀ o ∈ kwL, (o.1 < 24 ∨ 32 < o.1) → wo_h (ra_M C t) o := fun o ho hc j h1 h2 => by rw [az o.1 hc]; exact h o ho j h1 h2
  have l : ∀ o ∈ kwL, (o.1 < 24 ∨ 32 < o.1) ∨ o = (24, 0, 0, 0, 8) ∨ o = (24, 1, 1, 0, 4) ∨ o = (31, 0, 3, 0, 7) ∨ o = (32, 0, 3, 0, 7) := by decide
  intro o ho
  rcases l o ho with hc | rfl | rfl | rfl | rfl
  · exact same o ho hc
  · exact wo_one i0
  · exact wo_one i1
  · exact wo_all q31
  · exact wo_all (fun j hj => by rw [q32]; exact kz_32 h j hj)
theorem fx_ki {P : fl_M → Prop} {s : Nat → fl_M → fl_M} {n : Nat} {M : fl_M} (h0 : P M) (hs : ∀ m q, m < n → P q → P (s m q)) : P (fx_it s n M) := by
  induction n with
  | zero => exact h0
  | succ n ih => exact hs n _ (Nat.lt_succ_self n) (ih (fun m q hm => hs m q (Nat.lt_succ_of_lt hm)))
theorem kz_bgn {X : fl_M} (h : kz X) : kz (bgn 24 X) := by
  unfold bgn
  have a : kz (fl_u (fl_u (fl_u X 24 2 0) 24 3 (-9)) 24 4 0) := kz_v (lo := 0) (hi := 0) (kz_v (lo := -9) (hi := -9) (kz_v (lo := 0) (hi := 0) h (by decide) (by decide) (by decide)) (by decide) (by decide) (by decide)) (by decide) (by decide) (by decide)
  have b : kz (lr_22_18 24 (fl_u (fl_u (fl_u X 24 2 0) 24 3 (-9)) 24 4 0)) := fx_ki a (fun m q _ hq => kz_n (kz_n hq (by decide)) (by decide))
  have hb := kz_24 b
  have cb := fi_cl (lr_22_18 24 (fl_u (fl_u (fl_u X 24 2 0) 24 3 (-9)) 24 4 0) 24 1)
  refine fx_ki b (fun m q hm hq => ?_)
  have e : (Int32.ofNat m).toNatClampNeg = m := fi_at (by omega)
  unfold ls_22_53
  rw [e]
  have g := kz_31 hq m (by omega)
  exact kz_w (lo := 0) (hi := 7) hq (by decide) g.1 g.2
theorem kz_23 {X : fl_M} (h : kz X) : kz (m_23 15 24 X) := by
  unfold m_23
  have h24 := kz_24 h
  have a0 : kz (fl_u X 15 0 (X 24 0)) := kz_v (lo := 0) (hi := 8) h (by decide) h24.1.1 h24.1.2
  have a1 : kz (fl_u (fl_u X 15 0 (X 24 0)) 15 1 ((fl_u X 15 0 (X 24 0)) 24 1)) := kz_v (lo := 0) (hi := 4) a0 (by decide) (kz_24 a0).2.1 (kz_24 a0).2.2
  have t : ∀ (Y : fl_M) (j : Nat) (v : Int32), (j = 2 ∨ j = 3 ∨ j = 4) → kz Y → kz (fl_u Y 15 j v) := fun Y j v hj hY => kz_u hY (fun o ho e e1 e2 => by
    have l : ∀ o ∈ kwL, o.1 = 15 → o.2.2.1 ≤ 1 := by decide
    have := l o ho e
    omega)
  have b : kz (fl_u (fl_u (fl_u (fl_u (fl_u X 15 0 (X 24 0)) 15 1 ((fl_u X 15 0 (X 24 0)) 24 1)) 15 2 ((fl_u (fl_u X 15 0 (X 24 0)) 15 1 ((fl_u X 15 0 (X 24 0)) 24 1)) 24 2)) 15 3 ((fl_u (fl_u (fl_u X 15 0 (X 24 0)) 15 1 ((fl_u X 15 0 (X 24 0)) 24 1)) 15 2 ((fl_u (fl_u X 15 0 (X 24 0)) 15 1 ((fl_u X 15 0 (X 24 0)) 24 1)) 24 2)) 24 3)) 15 4 ((fl_u (fl_u (fl_u (fl_u X 15 0 (X 24 0)) 15 1 ((fl_u X 15 0 (X 24 0)) 24 1)) 15 2 ((fl_u (fl_u X 15 0 (X 24 0)) 15 1 ((fl_u X 15 0 (X 24 0)) 24 1)) 24 2)) 15 3 ((fl_u (fl_u (fl_u X 15 0 (X 24 0)) 15 1 ((fl_u X 15 0 (X 24 0)) 24 1)) 15 2 ((fl_u (fl_u X 15 0 (X 24 0)) 15 1 ((fl_u X 15 0 (X 24 0)) 24 1)) 24 2)) 24 3)) 24 4)) := t _ _ _ (by decide) (t _ _ _ (by decide) (t _ _ _ (by decide) a1))
  have c : ∀ Y : fl_M, kz Y → kz (lr_23_42 15 24 Y) := fun Y hY => fx_ki hY (fun m q _ hq => kz_n (kz_n (kz_n (kz_n hq (by decide)) (by decide)) (by decide)) (by decide))
  have d : ∀ Y : fl_M, kz Y → kz (lr_23_106 15 24 Y) := fun Y hY => by
    have hb := (kz_15 hY).2
    have cb := fi_cl (Y 15 1)
    refine fx_ki hY (fun m q hm hq => ?_)
    have e : (Int32.ofNat m).toNatClampNeg = m := fi_at (by omega)
    unfold ls_23_106
    rw [e]
    have z1 : kz (fl_u q 20 m (q 29 m)) := kz_n hq (by decide)
    have z2 : kz (fl_u (fl_u q 20 m (q 29 m)) 21 m ((fl_u q 20 m (q 29 m)) 30 m)) := kz_n z1 (by decide)
    have g := kz_31 z2 m (by omega)
    have z3 : kz (fl_u (fl_u (fl_u q 20 m (q 29 m)) 21 m ((fl_u q 20 m (q 29 m)) 30 m)) 22 m ((fl_u (fl_u q 20 m (q 29 m)) 21 m ((fl_u q 20 m (q 29 m)) 30 m)) 31 m)) := kz_w (lo := 0) (hi := 7) z2 (by decide) g.1 g.2
    have g := kz_32 z3 m (by omega)
    exact kz_w (lo := 0) (hi := 7) z3 (by decide) g.1 g.2
  exact d _ (c _ b)
theorem kz_66 {X : fl_M} (h : kz X) : kz (lr_21_66 (fl_u X 42 0 0)) := by
  have a : kz (fl_u X 42 0 0) := kz_v (lo := 0) (hi := 0) h (by decide) (by decide) (by decide)
  refine fx_ki a (fun m q hm hq => ?_)
  have e : (Int32.ofNat m).toNatClampNeg = m := fi_at (by omega)
  unfold ls_21_66
  rw [e]
  have : m = 0 ∨ m = 1 ∨ m = 2 := by omega
  rcases this with rfl | rfl | rfl <;> exact kz_v (lo := -1) (hi := -1) hq (by decide) (by decide) (by decide)
/-- cells that register leaves alone on the class' side -/
theorem rg_fr {X : fl_M} {c : Nat} (h1 : c < 15 ∨ 32 < c) (h2 : c ≠ 42 ∧ c ≠ 47 ∧ c ≠ 51 ∧ c ≠ 55) : lr_21_66 (fl_u (m_23 15 24 (bgn 24 X)) 42 0 0) c = X c := by
  have a : ∀ Y : fl_M, lr_21_66 Y c = Y c := fun Y => by
    refine fx_ki (P := fun Z => Z c = Y c) rfl (fun m q hm hq => ?_)
    have e : (Int32.ofNat m).toNatClampNeg = m := fi_at (by omega)
    unfold ls_21_66
    rw [e]
    have : m = 0 ∨ m = 1 ∨ m = 2 := by omega
    rcases this with rfl | rfl | rfl
    · exact (fl_un (show c ≠ 47 by omega)).trans hq
    · exact (fl_un (show c ≠ 51 by omega)).trans hq
    · exact (fl_un (show c ≠ 55 by omega)).trans hq
  rw [a, fl_un h2.1]
  funext j
  rw [fr_23 (by omega)]
  unfold bgn
  rw [fr_22_53 (by omega), fr_22_18 (by omega), fl_un (by omega), fl_un (by omega), fl_un (by omega)]
theorem wo_pc {X Y : fl_M} (h : wo_p X) (e : ∀ c, (43 ≤ c ∧ c ≤ 58 ∧ c ≠ 47 ∧ c ≠ 51 ∧ c ≠ 55) → Y c = X c) : wo_p Y := fun c hc d hd h1 => by
  rw [e (c + 1) (by omega)] at h1
  rw [e (c + 2) (by omega)]
  exact h c hc d hd h1
/-! What is told stays, where nobody tells: the class' object's fields finding, upper, lower. -/
def fy_R (h h' : List va_E) : Prop := ∀ fs, h[0]? = some (.inr (2, fs)) → ∃ fs', h'[0]? = some (.inr (2, fs')) ∧ fs'[11]? = fs[11]? ∧ fs'[13]? = fs[13]? ∧ fs'[14]? = fs[14]?
theorem fy_rf (h : List va_E) : fy_R h h := fun fs hf => ⟨fs, hf, rfl, rfl, rfl⟩
theorem fy_tr {h h1 h2 : List va_E} (a : fy_R h h1) (b : fy_R h1 h2) : fy_R h h2 := fun fs hf => by
  obtain ⟨f1, x1, x2, x3, x4⟩ := a fs hf
  obtain ⟨f2, y1, y2, y3, y4⟩ := b f1 x1
  exact ⟨f2, y1, y2.trans x2, y3.trans x3, y4.trans x4⟩
def fy_L : List Nat := [5, 23, 25, 28, 29, 30, 31, 35, 46, 81, 82]
def fy_G (k : Nat) : Bool := fy_L.any fun q => Nat.beq q k
def fy_c (k : Nat) (i : Instr) : Bool := match i with
  | .putfield x => match sm_lk (sm_fl (sm_O k)) x with
    | some (ci, j, _) => !(Nat.beq ci 2 && (Nat.beq j 11 || (Nat.beq j 13 || Nat.beq j 14)))
    | none => true
  | .invokevirtual x => match sm_lk (sm_ca (sm_O k)) x with
    | some (_, k', _) => fy_G k'
    | none => true
  | .invokestatic x => match sm_lk (sm_ca (sm_O k)) x with
    | some (_, k', _) => fy_G k'
    | none => true
  | _ => true
def fy_k (k : Nat) : Bool := (sm_tl.getD k []).all fun u => u.2.all fun q => fy_c k q.2.1
theorem fy_all : ((List.range 200).all fun k => !(fy_G k) || fy_k k) = true := by decide +kernel
theorem fy_in {k pc n : Nat} {i : Instr} (hk : k < 200) (hg : fy_G k = true) (hi : (sm_B k).1 pc = some (i, n)) : fy_c k i = true := by
  have h1 := List.all_eq_true.mp fy_all k (List.mem_range.mpr hk)
  rw [hg] at h1
  have h1 : fy_k k = true := h1
  obtain ⟨u, hu, hm⟩ := sm_ch_s hi
  exact List.all_eq_true.mp (List.all_eq_true.mp h1 u hu) _ hm
theorem fy_rn {k : Nat} (hk : k < 200) (hg : fy_G k = true) {X : sm_X} (hX : ∀ k' vs h o h', fy_G k' = true → X k' vs h o h' → fy_R h h') : ∀ (f pc : Nat) (lv : sm_L) (st : List Value) (h : List va_E) (o : Option Value) (h' : List va_E), sm_rn (sm_B k) X f pc lv st h o h' → fy_R h h' := by
  intro f
  induction f with
  | zero => intro pc lv st h o h' hr; exact hr.elim
  | succ f ih =>
    intro pc lv st h o h' hr
    obtain ⟨i, n, hi, hr⟩ := hr
    have hc := fy_in hk hg hi
    rcases hr with ⟨-, rfl⟩ | ⟨t, hs, hr⟩ | ⟨k', vs, r, o1, h1, hcl, hx, hr⟩
    · exact fy_rf _
    · refine fy_tr ?_ (ih _ _ _ _ _ _ hr)
      rcases fz_step hs with e | ⟨a, e, e', h1, h2⟩ | ⟨x, a, ci, j, ty, v, fs, rfl, h1, h2, h3⟩
      · rw [e]; exact fy_rf _
      · intro fs hf
        refine ⟨fs, ?_, rfl, rfl, rfl⟩
        rw [h2, List.getElem?_set_ne (fun z => by rw [z, hf] at h1; cases h1)]
        exact hf
      · have h1 : sm_lk (sm_fl (sm_O k)) x = some (ci, j, ty) := h1
        have hc : (match sm_lk (sm_fl (sm_O k)) x with
          | some (ci, j, _) => !(Nat.beq ci 2 && (Nat.beq j 11 || (Nat.beq j 13 || Nat.beq j 14)))
          | none => true) = true := hc
        rw [h1] at hc
        dsimp only at hc
        intro fs0 hf
        by_cases ha : a = 0
        · subst ha
          rw [hf] at h2
          cases h2
          have hj : j ≠ 11 ∧ j ≠ 13 ∧ j ≠ 14 := by
            refine ⟨fun z => ?_, fun z => ?_, fun z => ?_⟩
            · subst z; exact absurd hc (by decide)
            · subst z; exact absurd hc (by decide)
            · subst z; exact absurd hc (by decide)
          refine ⟨_, by rw [h3]; exact sm_set_s hf, ?_, ?_, ?_⟩
          · rw [List.getElem?_set_ne hj.1]
          · rw [List.getElem?_set_ne hj.2.1]
          · rw [List.getElem?_set_ne hj.2.2]
        · exact ⟨fs0, by rw [h3, List.getElem?_set_ne ha]; exact hf, rfl, rfl, rfl⟩
    · refine fy_tr (hX k' vs h o1 h1 ?_ hx) (ih _ _ _ _ _ _ hr)
      obtain ⟨-, -, hcl⟩ := hcl
      rcases hcl with ⟨x, ci, b, As, rfl, hca, -⟩ | ⟨x, ci, rfl, hca, -⟩ | ⟨x, ci, rfl, hca, -⟩
      all_goals
        have hca : sm_lk (sm_ca (sm_O k)) x = _ := hca
        have hc : (match sm_lk (sm_ca (sm_O k)) x with
          | some (_, k', _) => fy_G k'
          | none => true) = true := hc
        rw [hca] at hc
        exact hc
theorem fy_run : ∀ (d k : Nat) (vs : List Value) (h : List va_E) (o : Option Value) (h' : List va_E), fy_G k = true → sm_Ex 200 sm_ML sm_B d k vs h o h' → fy_R h h' := by
  intro d
  induction d with
  | zero => intro k vs h o h' _ hx; exact hx.elim
  | succ d ih =>
    intro k vs h o h' hg hx
    obtain ⟨hk, -, f, hr⟩ := hx
    exact fy_rn hk hg (fun k' vs h o h' a b => ih k' vs h o h' a b) f _ _ _ _ _ _ hr
theorem fy_M {h h' : List va_E} (hh : fl_sh h) (hh' : fl_sh h') (r : fy_R h h') : fm_i h' 0 11 = fm_i h 0 11 ∧ fm_l h' 0 13 = fm_l h 0 13 ∧ fm_l h' 0 14 = fm_l h 0 14 := by
  obtain ⟨fs, hf, hl⟩ := fw_obj hh (a := 0) (ci := 2) rfl (by decide)
  have hf := sm_obj_s hf
  obtain ⟨fs', hf', e1, e3, e4⟩ := r fs hf
  have l15 : fs.length = 15 := hl
  have g : ∀ k, k < 15 → ∃ v, fs[k]? = some v ∧ fl_tv 2 0 k v := fun k hk => ⟨_, List.getElem?_eq_getElem (by omega), fl_ty_int hh hf (List.getElem?_eq_getElem (by omega))⟩
  obtain ⟨v11, a11, x11, rfl⟩ := g 11 (by decide)
  obtain ⟨v13, a13, x13, rfl⟩ := g 13 (by decide)
  obtain ⟨v14, a14, x14, rfl⟩ := g 14 (by decide)
  exact ⟨by rw [fm_i_fld hh hf a11, fm_i_fld hh' hf' (e1.trans a11)], by rw [fm_l_fld hf a13, fm_l_fld hf' (e3.trans a13)], by rw [fm_l_fld hf a14, fm_l_fld hf' (e4.trans a14)]⟩
/-! Fault and register: what they leave alone, within bounds. -/
theorem kz_c {X Y : fl_M} (h : kz X) (e : ∀ c, c < 81 → Y c = X c) : kz Y := fun o ho j h1 h2 => by
  have l : ∀ o ∈ kwL, o.1 < 81 := by decide
  rw [e o.1 (l o ho)]
  exact h o ho j h1 h2
theorem mz_r {m : Nat} {R X : fl_M} (g : mz m R) (a : fz R X) (z : rz X) : mz m X := by
  obtain ⟨a1, a2, a4, a16, a17, a18, a19, a22, b0, b86, b87, b89, b94, b96⟩ := g
  obtain ⟨⟨r1, r2, r3, r4⟩, r5⟩ := z
  refine ⟨by rw [a.2 1 (by decide)]; exact a1, by rw [a.2 1 (by decide)]; exact a2, by rw [a.2 4 (by decide)]; exact a4, r1, ⟨r2.1, by omega⟩, ⟨by omega, r2.2.2⟩, r3, r4, sg_c b0 (a.1 82 (by decide)), by rw [a.1 86 (by decide)]; exact b86, by rw [a.1 87 (by decide)]; exact b87, by rw [a.1 89 (by decide)]; exact b89, r5, by rw [a.1 96 (by decide)]; exact b96⟩
theorem mz_no {m : Nat} {R : fl_M} (g : mz m R) {v w : Int32} : mz m (fl_u (fl_u R 81 14 v) 91 1 w) := mz_e g (fun j hj => by rw [fl_un (by decide), fl_uo (Or.inr (by omega))]) (fun c hc => by rw [fl_un (by omega), fl_un (by omega)])
section FAR
variable {C R : fl_M} {t : Int32}
theorem fa_C (h : kz C) (hK : C 999 = sm_kl) : kz (m_14 t C) ∧ ∀ c, (c ≠ 0 ∧ c ≠ 80 ∧ (c < 24 ∨ 32 < c)) → m_14 t C c = C c := by
  unfold m_14
  by_cases c1 : (t < 0) ∨ (¬ (t < 4))
  · rw [if_pos c1]; exact ⟨h, fun _ _ => rfl⟩
  · rw [if_neg c1]
    obtain ⟨t0, t1⟩ := t4 c1
    by_cases c2 : C 9 t.toNatClampNeg = -1
    · rw [if_pos c2]
      exact ⟨kz_n (kz_n h (by decide)) (by decide), fun c hc => by rw [fl_un hc.2.1, fl_un hc.1]⟩
    · rw [if_neg c2]
      exact ⟨kz_ra h hK t0 (by omega), fun c hc => az_ra C t c hc.2.2⟩
theorem re_C (h : kz C) (hK : C 999 = sm_kl) : kz (m_21 t C) ∧ ∀ c, (c ≠ 0 ∧ c ≠ 80 ∧ (c < 15 ∨ 32 < c) ∧ c ≠ 42 ∧ c ≠ 47 ∧ c ≠ 51 ∧ c ≠ 55) → m_21 t C c = C c := by
  unfold m_21
  by_cases c1 : (t < 0) ∨ (¬ (t < 4))
  · rw [if_pos c1]; exact ⟨h, fun _ _ => rfl⟩
  · rw [if_neg c1]
    obtain ⟨t0, t1⟩ := t4 c1
    by_cases c2 : C 9 t.toNatClampNeg = -1
    · rw [if_pos c2]
      exact ⟨kz_n (kz_n h (by decide)) (by decide), fun c hc => by rw [fl_un hc.2.1, fl_un hc.1]⟩
    · rw [if_neg c2]
      have hr := kz_ra h hK t0 (by omega)
      by_cases c3 : ra_v C t = -9
      · rw [if_pos c3]
        exact ⟨kz_66 (kz_23 (kz_bgn hr)), fun c hc => (rg_fr (X := ra_M C t) hc.2.2.1 hc.2.2.2).trans (az_ra C t c (by omega))⟩
      · rw [if_neg c3]
        exact ⟨hr, fun c hc => az_ra C t c (by omega)⟩
theorem fa_R {m : Nat} (g : mz m R) : mz m (m_119 t R) ∧ ∀ c, (c ≠ 81 ∧ c ≠ 91 ∧ c ≠ 92 ∧ c ≠ 93 ∧ c ≠ 94) → m_119 t R c = R c := by
  unfold m_119
  by_cases c1 : (¬ (t < 0)) ∧ (¬ (3 < t))
  · rw [if_pos c1]
    obtain ⟨t0, t1⟩ := t3 c1
    by_cases c2 : R 89 t.toNatClampNeg < 0
    · rw [if_pos c2]
      exact ⟨mz_no g, fun c hc => by rw [fl_un hc.2.1, fl_un hc.1]⟩
    · rw [if_neg c2]
      rw [fi_l, fi_i0] at c2
      have b89 := g.2.2.2.2.2.2.2.2.2.2.2.1 _ (tq t0 t1)
      exact ⟨mz_r g (fz_fo R t) (rz_fo t0 (by omega) (by omega) b89.2 g.2.2.2.2.2.2.2.2.2.2.2.2.1), fun c hc => (fz_fo R t).1 c ⟨hc.1, hc.2.2⟩⟩
  · rw [if_neg c1]; exact ⟨g, fun _ _ => rfl⟩
theorem re_R {m : Nat} (hm5 : m < 5) (g : mz m R) {D : fl_M} (h2 : t2 D (m_129 t R)) : (∃ m', m' < 5 ∧ mz m' (m_129 t R)) ∧ ∀ c, ((c < 81 ∨ 94 < c) ∨ (87 ≤ c ∧ c ≤ 90)) → m_129 t R c = R c := by
  have ht := h2.1
  unfold m_129 at ht ⊢
  by_cases c1 : (¬ (t < 0)) ∧ (¬ (3 < t))
  · rw [if_pos c1] at ht ⊢
    obtain ⟨t0, t1⟩ := t3 c1
    by_cases c2 : R 89 t.toNatClampNeg < 0
    · rw [if_pos c2]
      exact ⟨⟨m, hm5, mz_no g⟩, fun c hc => by rw [fl_un (by omega), fl_un (by omega)]⟩
    · rw [if_neg c2] at ht ⊢
      rw [fi_l, fi_i0] at c2
      have b89 := g.2.2.2.2.2.2.2.2.2.2.2.1 _ (tq t0 t1)
      have fzz := fz_fo R t
      have z := rz_fo t0 (by omega) (by omega) b89.2 g.2.2.2.2.2.2.2.2.2.2.2.2.1
      have gz := mz_r g fzz z
      by_cases c3 : fo_v R t = -9
      · rw [if_pos c3] at ht ⊢
        obtain ⟨⟨r1, r2, r3, r4⟩, r5⟩ := z
        have k8 := fi_cl (fo_M R t 81 19)
        have k4 := fi_cl (fo_M R t 81 22)
        obtain ⟨rr, -⟩ := rg_R (A := fun _ j => if j = 0 then fo_M R t 81 19 else fo_M R t 81 22) (B := fo_M R t) (Z := lr_129_39 (fo_M R t)) (rg_39 _) rfl rfl (by rw [if_pos rfl]; omega) (by rw [if_neg (by decide)]; omega)
        have e81 : ∀ j, (j ≠ 1 ∧ j ≠ 4) → lr_129_204 (lr_129_139 (lr_129_85 (fl_u (fl_u (fl_u (lr_129_39 (fo_M R t)) 82 2 (-9)) 81 1 ((lr_129_39 (fo_M R t)) 81 19)) 81 4 ((lr_129_39 (fo_M R t)) 81 22)))) 81 j = fo_M R t 81 j := fun j hj => by
          rw [rr 81 j (by omega), if_neg (by omega), if_neg (by omega), if_neg (by omega), if_neg (by omega), if_neg (by omega), if_neg (by omega), if_neg (by omega), if_neg (by omega), if_neg (by omega), if_neg (by omega)]
        have ec : ∀ c, ((c < 81 ∨ 86 < c)) → lr_129_204 (lr_129_139 (lr_129_85 (fl_u (fl_u (fl_u (lr_129_39 (fo_M R t)) 82 2 (-9)) 81 1 ((lr_129_39 (fo_M R t)) 81 19)) 81 4 ((lr_129_39 (fo_M R t)) 81 22)))) c = fo_M R t c := fun c hc => by
          funext j
          rw [rr c j (by omega), if_neg (by omega), if_neg (by omega), if_neg (by omega), if_neg (by omega), if_neg (by omega), if_neg (by omega), if_neg (by omega), if_neg (by omega), if_neg (by omega), if_neg (by omega)]
        obtain ⟨⟨⟨s1, s2, s3, s4, s5, s6⟩, d1, d2, d3, d4, d5, d6⟩, ⟨k1, k2, k3, -⟩, k5, -⟩ := ht
        rw [s1] at s3 d5
        rw [s2] at s4 s6 d5
        have x81 : ∀ j, fl_u (fl_u (fl_u (lr_129_39 (fo_M R t)) 82 2 (-9)) 81 1 ((lr_129_39 (fo_M R t)) 81 19)) 81 4 ((lr_129_39 (fo_M R t)) 81 22) 81 1 = fo_M R t 81 19 ∧ fl_u (fl_u (fl_u (lr_129_39 (fo_M R t)) 82 2 (-9)) 81 1 ((lr_129_39 (fo_M R t)) 81 19)) 81 4 ((lr_129_39 (fo_M R t)) 81 22) 81 4 = fo_M R t 81 22 ∧ fl_u (fl_u (fl_u (lr_129_39 (fo_M R t)) 82 2 (-9)) 81 1 ((lr_129_39 (fo_M R t)) 81 19)) 81 4 ((lr_129_39 (fo_M R t)) 81 22) 94 j = fo_M R t 94 j := fun j => by
          refine ⟨?_, ?_, ?_⟩
          · rw [fl_uo (Or.inr (by decide)), fl_us, rg_39, if_neg (by omega)]
          · rw [fl_us, rg_39, if_neg (by omega)]
          · rw [fl_un (by decide), fl_un (by decide), fl_un (by decide), rg_39, if_neg (by omega)]
        have s0 : sgP (fl_u (fl_u (fl_u (lr_129_39 (fo_M R t)) 82 2 (-9)) 81 1 ((lr_129_39 (fo_M R t)) 81 19)) 81 4 ((lr_129_39 (fo_M R t)) 81 22)) := sg_c (sg_c (sg_u (sg_39 gz.2.2.2.2.2.2.2.2.1) (fun o ho h1 h2 => absurd ⟨h1, h2⟩ (sg_k o ho).2.1)) (fl_un (by decide))) (fl_un (by decide))
        have s85 := sg_85 s0 (by rw [(x81 0).1]; omega)
        have y9 : ∀ c j, ¬ (c = 82 ∨ c = 83 ∨ c = 84) → lr_129_85 (fl_u (fl_u (fl_u (lr_129_39 (fo_M R t)) 82 2 (-9)) 81 1 ((lr_129_39 (fo_M R t)) 81 19)) 81 4 ((lr_129_39 (fo_M R t)) 81 22)) c j = fl_u (fl_u (fl_u (lr_129_39 (fo_M R t)) 82 2 (-9)) 81 1 ((lr_129_39 (fo_M R t)) 81 19)) 81 4 ((lr_129_39 (fo_M R t)) 81 22) c j := fun c j hc => by
          rw [rg_85 (by rw [(x81 0).1]; omega), if_neg (by omega), if_neg (by omega), if_neg (by omega)]
        have sZ := sg_204 (sg_139 s85 (by rw [y9 81 4 (by decide), (x81 0).2.1]; omega) (fun j hj => by rw [y9 94 j (by decide), (x81 j).2.2]; exact r5 j hj))
        obtain ⟨Z, hZ⟩ : ∃ Z : fl_M, Z = lr_129_204 (lr_129_139 (lr_129_85 (fl_u (fl_u (fl_u (lr_129_39 (fo_M R t)) 82 2 (-9)) 81 1 ((lr_129_39 (fo_M R t)) 81 19)) 81 4 ((lr_129_39 (fo_M R t)) 81 22)))) := ⟨_, rfl⟩
        rw [← hZ] at sZ e81 ec s1 s2 s3 s4 s5 s6 d1 d2 d3 d4 d5 d6 k1 ⊢
        have cm := fi_cl (Z 81 4)
        refine ⟨⟨(Z 81 4).toNatClampNeg, by omega, s3, fun hm => ?_, by omega, by rw [e81 16 (by decide)]; exact r1, by rw [e81 17 (by decide)]; exact ⟨r2.1, by omega⟩, by rw [e81 18 (by decide)]; exact ⟨by omega, r2.2.2⟩, by rw [e81 19 (by decide)]; exact r3, by rw [e81 22 (by decide)]; exact r4, sZ, fun j hj => ?_, by rw [ec 87 (by decide)]; exact gz.2.2.2.2.2.2.2.2.2.2.1, by rw [ec 89 (by decide)]; exact gz.2.2.2.2.2.2.2.2.2.2.2.1, by rw [ec 94 (by decide)]; exact r5, by rw [ec 96 (by decide)]; exact gz.2.2.2.2.2.2.2.2.2.2.2.2.2⟩, fun c hc => (ec c (by omega)).trans (fzz.1 c (by omega))⟩
        · have := (d5 0 hm).2
          omega
        · obtain ⟨-, q2, q3⟩ := s6 j hj
          rw [q2] at q3
          exact q3
      · rw [if_neg c3]
        exact ⟨⟨m, hm5, gz⟩, fun c hc => fzz.1 c (by omega)⟩
  · rw [if_neg c1]; exact ⟨⟨m, hm5, g⟩, fun _ _ => rfl⟩
end FAR
/-! The reference's undo: a run is there, and bounds are kept. -/
section UN
variable (d : Nat) (J : fl_J) (n k : Int32)
set_option maxRecDepth 8000 in
theorem fs_154_67 (M : fl_M) (i : Int32) : fw d fB154 (67, [.ref 81, .int n, .int k, .int i], [], M, J) := by
  have hB : fw_B fB154 := fw_sB (k := 154) (by decide)
  exact fw_n (s' := (73, [.ref 81, .int n, .int k, .int i], [.int n, .int 0, .ref 82], M, J)) hB 4 rfl <|
  fw_ia2 hB rfl rfl (by decide) (by decide) (by decide) <|
  fw_n (s' := (75, [.ref 81, .int n, .int k, .int i], [.int k], (fl_u M 82 0 n), J)) hB 1 rfl <|
  fw_ri rfl rfl
set_option maxRecDepth 8000 in
theorem fs_154_29 (M : fl_M) (i : Int32) (hi : 0 ≤ i.toInt) (h0 : 0 ≤ n.toInt) (h4 : 0 < k → n.toInt ≤ 39) (q1 : (i < 23) → (0 < k) → fw d fB154 (29, [.ref 81, .int n, .int k, .int (i + 1)], [], (fl_u M 82 ((1 + i).toNatClampNeg) (M 82 (((24 + (23 * n)) + i).toNatClampNeg))), J)) : fw d fB154 (29, [.ref 81, .int n, .int k, .int i], [], M, J) := by
  have hB : fw_B fB154 := fw_sB (k := 154) (by decide)
  exact fw_n (s' := (32, [.ref 81, .int n, .int k, .int i], [.int 23, .int i], M, J)) hB 2 rfl <|
  fw_icN hB (t := 67) rfl rfl fl_nlt (fun h1 =>
   fw_n (s' := (36, [.ref 81, .int n, .int k, .int i], [.int k], M, J)) hB 1 rfl <|
   fw_ifN hB (t := 67) rfl rfl fl_nle (fun h2 => by
    have z1 : i.toInt < 23 := fi_l.mp h1
    have z2 := h4 h2
    have i23 : (23 : Int32).toInt = 23 := rfl
    have i24 : (24 : Int32).toInt = 24 := rfl
    have e1 : (23 * n).toInt = 23 * n.toInt := by rw [fi_mul (by rw [i23]; omega) (by rw [i23]; omega), i23]
    have e2 : (24 + 23 * n).toInt = 24 + 23 * n.toInt := by rw [fi_add (by rw [i24, e1]; omega) (by rw [i24, e1]; omega), i24, e1]
    have e3 : (24 + 23 * n + i).toInt = 24 + 23 * n.toInt + i.toInt := by rw [fi_add (by rw [e2]; omega) (by rw [e2]; omega), e2]
    have e4 : (1 + i).toInt = 1 + i.toInt := by rw [fi_add (by rw [fi_i1]; omega) (by rw [fi_i1]; omega), fi_i1]
    exact fw_n (s' := (59, [.ref 81, .int n, .int k, .int i], [.int ((24 + (23 * n)) + i), .ref 82, .int (1 + i), .ref 82], M, J)) hB 14 rfl <|
    fw_ia hB rfl rfl (by decide) (by rw [e3]; omega) (by show (24 + 23 * n + i).toInt < 3800; rw [e3]; omega) <|
    fw_ia2 hB rfl rfl (by decide) (by rw [e4]; omega) (by show (1 + i).toInt < 3800; rw [e4]; omega) <|
    fw_n (s' := (29, [.ref 81, .int n, .int k, .int (i + 1)], [], (fl_u M 82 ((1 + i).toNatClampNeg) (M 82 (((24 + (23 * n)) + i).toNatClampNeg))), J)) hB 2 rfl <|
    q1 h1 h2) (fun _ => fs_154_67 d J n k M i)) (fun _ => fs_154_67 d J n k M i)
theorem fq_154 (h0 : 0 ≤ n.toInt) (h4 : 0 < k → n.toInt ≤ 39) : ∀ (m : Nat) (i : Int32) (M : fl_M), 0 ≤ i.toInt → 23 ≤ i.toInt + m → fw d fB154 (29, [.ref 81, .int n, .int k, .int i], [], M, J) := by
  intro m
  induction m with
  | zero => intro i M hi hn; exact fs_154_29 d J n k M i hi h0 h4 (fun z => by have z : i.toInt < 23 := fi_l.mp z; omega)
  | succ m ih =>
    intro i M hi hn
    refine fs_154_29 d J n k M i hi h0 h4 (fun z _ => ?_)
    have z : i.toInt < 23 := fi_l.mp z
    have e := fi_p1 (p := i) (by omega)
    exact ih _ _ (by omega) (by omega)
theorem un_n {R : fl_M} (hr : (R 82 0).toInt ≤ 40) (h : (¬ (n < 0)) ∧ (¬ (R 82 0 < n))) : 0 ≤ n.toInt ∧ n.toInt ≤ 40 ∧ (0 < R 82 0 - n → n.toInt ≤ 39) := by
  obtain ⟨h1, h2⟩ := h
  rw [fi_l, fi_i0] at h1
  rw [fi_l] at h2
  refine ⟨by omega, by omega, fun z => ?_⟩
  rw [fi_l, fi_i0, fi_sub (by omega) (by omega)] at z
  omega
set_option maxRecDepth 8000 in
theorem fs_154 (M : fl_M) (hr : (M 82 0).toInt ≤ 40) : fw (d + 1) fB154 (0, [.ref 81, .int n, .null, .null], [], M, J) := by
  have hB : fw_B fB154 := fw_sB (k := 154) (by decide)
  exact fw_n (s' := (8, [.ref 81, .int n, .null, .null], [.int 0, .ref 82, .long 0, .long n.toInt64], M, J)) hB 6 rfl <|
  fw_ia hB rfl rfl (by decide) (by decide) (by decide) <|
  fw_n (s' := (10, [.ref 81, .int n, .null, .null], [.long ((M 82 0).toInt64), .long 0, .long n.toInt64], M, J)) hB 1 rfl <|
  fw_cs hB (st0 := []) (o := some (.int (if (¬ (n < 0)) ∧ (¬ (M 82 0 < n)) then 1 else 0))) rfl rfl (by decide) rfl rfl (show (0 : Nat) ≤ 8 by decide) (ct_105i _ M J n 0 (M 82 0)) rfl <|
  fw_sh (s := (13, [.ref 81, .int n, .null, .null], [.int (if (¬ (n < 0)) ∧ (¬ (M 82 0 < n)) then 1 else 0)], M, J)) <|
  fw_if hB (t := 18) rfl rfl fl_b1 (fun h1 =>
   fw_n (s' := (23, [.ref 81, .int n, .null, .null], [.int 0, .ref 82], M, J)) hB 3 rfl <|
   fw_ia hB rfl rfl (by decide) (by decide) (by decide) <|
   fw_n (s' := (29, [.ref 81, .int n, .int ((M 82 0) - n), .int 0], [], M, J)) hB 5 rfl <|
   fq_154 (d + 1) J n ((M 82 0) - n) (un_n n hr h1).1 (un_n n hr h1).2.2 23 0 M (by decide) (by decide)) (fun _ =>
   fw_n (s' := (17, [.ref 81, .int n, .null, .null], [.int (-1)], M, J)) hB 1 rfl <|
   fw_ri rfl rfl)
theorem fwu_154 (M : fl_M) (hr : (M 82 0).toInt ≤ 40) : fw_C (d + 2) 154 [.ref 81, .int n] M J := by
  refine fw_Co (d := d + 1) (B := fB154) (by decide) rfl rfl (show (2 : Nat) ≤ 4 by decide) ?_ (fs_154 d J n M hr)
  intro i v hv hn
  match i, hv with
  | 0, hv => cases hv; rfl
  | 1, hv => cases hv; rfl
  | 2, hv => cases hv; exact absurd rfl hn
  | 3, hv => cases hv; exact absurd rfl hn
  | _ + 4, hv => cases hv
end UN
theorem un_s1 : ∀ o ∈ sgL, ((o.2.1 ≤ 0 ∧ 0 ≤ o.2.2.1) → o.2.2.2.1 ≤ 0 ∧ 40 ≤ o.2.2.2.2) ∧ ((o.2.1 ≤ 23 ∧ 1 ≤ o.2.2.1) → o.2.1 = 20 ∧ o.2.2.1 = 23 ∧ o.2.2.2.1 ≤ 0 ∧ 7 ≤ o.2.2.2.2) := by decide +kernel
theorem un_s2 : ∀ e, e < 40 → (82, 24 + 23 * e + 19, 24 + 23 * e + 22, 0, 7) ∈ sgL := by decide +kernel
theorem un_s3 : (82, 0, 0, -1, 40) ∈ sgL := by decide +kernel
theorem un_40 {X : fl_M} (h : sgP X) : -1 ≤ (X 82 0).toInt ∧ (X 82 0).toInt ≤ 40 := h _ un_s3 0 (Nat.le_refl _) (Nat.le_refl _)
theorem un_sg {X : fl_M} {n : Int32} (h : sgP X) : sgP (m_154 n X) ∧ ∀ c, c ≠ 82 → m_154 n X c = X c := by
  unfold m_154
  by_cases c1 : (¬ (n < 0)) ∧ (¬ (X 82 0 < n))
  · rw [if_pos c1]
    obtain ⟨n0, n40, n39⟩ := un_n n (un_40 h).2 c1
    have hk : n.toInt = (n.toInt.toNat : Int) := by omega
    have key : ∀ Y : fl_M, (∀ c, c ≠ 82 → Y c = X c) → (∀ j, (1 ≤ j ∧ j < 24) → Y 82 j = X 82 j ∨ (n.toInt ≤ 39 ∧ Y 82 j = X 82 (24 + 23 * n.toInt.toNat + (j - 1)))) → (∀ j, (j < 1 ∨ 24 ≤ j) → Y 82 j = X 82 j) → sgP (fl_u Y 82 0 n) ∧ ∀ c, c ≠ 82 → fl_u Y 82 0 n c = X c := by
      intro Y y0 y1 y2
      refine ⟨fun o ho j j1 j2 => ?_, fun c hc => (fl_un hc).trans (y0 c hc)⟩
      have e82 := sg_82 o ho
      have g := h o ho j j1 j2
      rw [e82] at g ⊢
      by_cases j0 : j = 0
      · rw [j0, fl_us]
        have := (un_s1 o ho).1 ⟨by omega, by omega⟩
        omega
      · rw [fl_uo (Or.inr j0)]
        by_cases j24 : j < 24
        · rcases y1 j ⟨by omega, j24⟩ with e | ⟨m39, e⟩
          · rw [e]; exact g
          · rw [e]
            obtain ⟨s1, s2, s3, s4⟩ := (un_s1 o ho).2 ⟨by omega, by omega⟩
            have := h _ (un_s2 n.toInt.toNat (by omega)) (24 + 23 * n.toInt.toNat + (j - 1)) (show 24 + 23 * n.toInt.toNat + 19 ≤ _ by omega) (show _ ≤ 24 + 23 * n.toInt.toNat + 22 by omega)
            have a1 : 0 ≤ (X 82 (24 + 23 * n.toInt.toNat + (j - 1))).toInt := this.1
            have a2 : (X 82 (24 + 23 * n.toInt.toNat + (j - 1))).toInt ≤ 7 := this.2
            omega
        · rw [y2 j (Or.inr (by omega))]; exact g
    by_cases c2 : 0 < X 82 0 - n
    · have e := un_e (R := X) hk (by omega) c2
      refine key _ (fun c hc => ?_) (fun j hj => Or.inr ⟨n39 c2, ?_⟩) (fun j hj => ?_)
      · funext j
        rw [e, if_neg (fun z => hc z.1)]
      · rw [e, if_pos ⟨rfl, hj.1, by omega⟩]
      · rw [e, if_neg (by omega)]
    · rw [un_0 c2]
      exact key _ (fun _ _ => rfl) (fun _ _ => Or.inl rfl) (fun _ _ => rfl)
  · rw [if_neg c1]
    exact ⟨h, fun _ _ => rfl⟩
theorem un_mz {m : Nat} {X : fl_M} {n : Int32} (g : mz m X) : mz m (m_154 n X) := by
  obtain ⟨a1, a2, a4, a16, a17, a18, a19, a22, b0, b86, b87, b89, b94, b96⟩ := g
  obtain ⟨s, e⟩ := un_sg (n := n) b0
  have e81 := e 81 (by decide)
  exact ⟨by rw [e81]; exact a1, by rw [e81]; exact a2, by rw [e81]; exact a4, by rw [e81]; exact a16, by rw [e81]; exact a17, by rw [e81]; exact a18, by rw [e81]; exact a19, by rw [e81]; exact a22, s, by rw [e 86 (by decide)]; exact b86, by rw [e 87 (by decide)]; exact b87, by rw [e 89 (by decide)]; exact b89, by rw [e 94 (by decide)]; exact b94, by rw [e 96 (by decide)]; exact b96⟩
/-! Both sides one after the other, tied. -/
theorem ex_le {d d' k : Nat} {vs : List Value} {h h' : List va_E} {o : Option Value} (hd : d ≤ d') (x : sm_Ex 200 sm_ML sm_B d k vs h o h') : sm_Ex 200 sm_ML sm_B d' k vs h o h' := by
  induction hd with
  | refl => exact x
  | step _ ih => exact sm_Ex_succ _ _ _ _ _ _ ih
theorem fm_same {h h' : List va_E} {a : Nat} (e : h'[a]? = h[a]?) : fm_i h' a = fm_i h a := by
  funext i
  unfold fm_i
  rw [e]
def lw_T (h : List va_E) : Prop := lw_I h ∧ fl_sh h ∧ ft (fm_i h)
theorem ft_rng {H : aw_H} {h : List va_E} (hh : fl_sh h) (hw : aw_h H h) {c n : Nat} {lo hi : Int} {m : Nat} (hc : (c, .inr (.inl (0, n, [(0, m, [(lo, hi)])], []))) ∈ H) : ∀ j, j < m + 1 → lo ≤ (fm_i h c j).toInt ∧ (fm_i h c j).toInt ≤ hi := by
  intro j hj
  obtain ⟨e, he, f, rfl, h1, -⟩ := hw _ hc
  have g := h1 _ (List.mem_singleton.mpr rfl) j (Nat.zero_le _) (show j ≤ m by omega)
  rw [fm_i_arr hh he]
  exact ar_1 g
theorem ft_gI {h : List va_E} (hI : lw_I h) (hh : fl_sh h) : ft_g (fm_i h) := by
  obtain ⟨hp, hk, m, hm, hw⟩ := hI
  have hG := ah_sub_s (mwm_G m hm) hw
  exact ⟨ft_rng hh hk (c := 1) (n := 6) (lo := -1) (hi := 40) (m := 5) (by unfold kw; simp), ft_rng hh hk (c := 9) (n := 4) (lo := -1) (hi := 60) (m := 3) (by unfold kw; simp), ft_rng hh hG (c := 87) (n := 6) (lo := -1) (hi := 40) (m := 5) (by unfold mwG mw; simp), ft_rng hh hG (c := 89) (n := 4) (lo := -1) (hi := 60) (m := 3) (by unfold mwG mw; simp), by funext i; exact if_pos rfl⟩
def pr_c (b : Bool) (w1 w2 : Value) : Prop := w1.category = (if b then 2 else 1) ∧ w2.category = (if b then 2 else 1)
def pr_e (w1 w2 : Value) : Prop := ∃ x : Int32, w1 = .int x ∧ w2 = .int x
/-! Both sides, call by call: the tie that goes along. -/
def TT (h : List va_E) : Prop := lw_T h ∧ t2 (fm_i h) (fm_i h) ∧ jd (fm_l h) (fm_l h)
def pr_l (w1 w2 : Value) : Prop := ∃ x : Int64, w1 = .long x ∧ w2 = .long x
def pt_ok (P : Value → Value → Prop) (kc km : Nat) (vs : List Value) : Prop := ∀ h, TT h → ∃ w1 h1 w2 h2, sm_Ex 200 sm_ML sm_B 12 kc (.ref 0 :: vs) h (some w1) h1 ∧ sm_Ex 200 sm_ML sm_B 12 km (.ref 81 :: vs) h1 (some w2) h2 ∧ P w1 w2 ∧ fl_sh h1 ∧ TT h2
theorem pt_ec {kc km : Nat} {vs : List Value} (h : pt_ok pr_e kc km vs) : pt_ok (pr_c false) kc km vs := by
  intro H hT
  obtain ⟨w1, h1, w2, h2, x1, x2, ⟨v, rfl, rfl⟩, x4, x5⟩ := h H hT
  exact ⟨_, h1, _, h2, x1, x2, ⟨rfl, rfl⟩, x4, x5⟩
theorem pt_lc {kc km : Nat} {vs : List Value} (h : pt_ok pr_l kc km vs) : pt_ok (pr_c true) kc km vs := by
  intro H hT
  obtain ⟨w1, h1, w2, h2, x1, x2, ⟨v, rfl, rfl⟩, x4, x5⟩ := h H hT
  exact ⟨_, h1, _, h2, x1, x2, ⟨rfl, rfl⟩, x4, x5⟩
theorem f2_of {M M1 : fl_M} (ht : ft M) (hg : ft_g M) (h1 : ∀ a, 81 ≤ a → M1 a = M a) : f2 M M1 := by
  refine ⟨fun j hj => ?_, fun j hj => ?_⟩
  · rw [h1 87 (by decide), h1 88 (by decide)]
    exact ⟨(ht.1 j hj).1, (hg.1 j hj).1, (hg.1 j hj).2, (ht.1 j hj).2⟩
  · rw [h1 89 (by decide), h1 90 (by decide)]
    exact ⟨(ht.2 j hj).1, (hg.2.1 j hj).1, (hg.2.1 j hj).2, (ht.2 j hj).2⟩
theorem t2_q {C R C' R' : fl_M} (h : t2 C R) (eC : ∀ c, ((15 ≤ c ∧ c ≤ 23) ∨ (42 ≤ c ∧ c ≤ 58)) → C' c = C c) (c11 : C' 0 11 = C 0 11) (c80 : C' 80 = C 80) (q : qa → C' 0 12 = R' 81 11) (r1 : R' 81 1 = R 81 1) (r4 : R' 81 4 = R 81 4) (r14 : R' 81 14 = R 81 14) (eR : ∀ k, (83 ≤ k ∧ k ≤ 86) → R' k = R k) (r91 : R' 91 = R 91) (e82 : ∀ j, j < 3776 → R' 82 j = R 82 j) : t2 C' R' :=
  ⟨tt_c h.1 eC r1 r4 eR e82, q, by rw [c11, r14]; exact h.2.2.1, fun f hf => by rw [c80, r91]; exact h.2.2.2 f hf⟩
theorem pt_k {b : Bool} {P : Value → Value → Prop} {kc km : Nat} {vs : List Value} {Sc Sm : List Nat} (hk : kd_ok b kc Sc (.ref 0 :: vs)) (hm : md_ok b km Sm (.ref 81 :: vs))
    (H : ∀ (C R : fl_M) (J J' : fl_J), t2 C R → jd J J' → f2 C R → ft_g C → ft_g R → ∃ (vc vr : Value) (mc mr : fl_M) (jc jr : fl_J), fl_C kc (.ref 0 :: vs) C J (some vc, mc, jc) ∧ fl_C km (.ref 81 :: vs) R J' (some vr, mr, jr) ∧ P vc vr ∧ t2 mc mr ∧ jd jc jr)
    (hft : ∀ (M M1 M2 : fl_M) (J J1 : fl_J), ft M → ft_g M → ft_g M1 → (∀ a, (81 ≤ a ∨ a ∈ Sc) → M1 a = M a) → (∀ a, (a < 81 ∨ a ∈ Sm) → M2 a = M1 a) → (∀ r, fl_C kc (.ref 0 :: vs) M J r → M1 = r.2.1) → (∀ r, fl_C km (.ref 81 :: vs) M1 J1 r → M2 = r.2.1) → ft M2) : pt_ok P kc km vs := by
  intro h hT
  obtain ⟨⟨hI, hs, ht⟩, h2, hj⟩ := hT
  have hg := ft_gI hI hs
  obtain ⟨hp, hkw, m, hm5, hmw⟩ := hI
  obtain ⟨o1, h1, x1, x2, x3, x4, w1, rfl, c1⟩ := hk h hkw hp
  have lo : ∀ a, 81 ≤ a → h1[a]? = h[a]? := fun a ha => x3 a (Or.inl ha)
  have hmw1 := mw_same hmw lo
  obtain ⟨o2, h3, y1, y2, y3, y4, w2, rfl, c2⟩ := hm m h1 hm5 hmw1 x2
  have hi : ∀ a, a < 81 → h3[a]? = h1[a]? := fun a ha => y3 a (Or.inl ha)
  have s1 := (fl_all 12 _ _ _ _ _ x1 hs).1
  have hg1 : ft_g (fm_i h1) := ft_gI ⟨x2, x4, m, hm5, hmw1⟩ s1
  have l1 : ∀ a, 81 ≤ a → fm_i h1 a = fm_i h a := fun a ha => gm_i (lo a ha)
  have t1 : t2 (fm_i h) (fm_i h1) := t2_c h2 (fun _ _ => rfl) (fun k hk => l1 k (by omega)) (fun j _ => by rw [l1 82 (by decide)])
  have j1 : jd (fm_l h) (fm_l h1) := ⟨by rw [gm_l (lo 81 (by decide))]; exact hj.1, by rw [gm_l (lo 81 (by decide))]; exact hj.2⟩
  obtain ⟨vc, vr, mc, mr, jc, jr, hF, hG, hP, p1, p2⟩ := H _ _ _ _ t1 j1 (f2_of ht hg l1) hg hg1
  obtain ⟨a1, a2, t3, j3, s3⟩ := pt_c x1 y1 hs lo hi h2 hj hF hG (fun _ _ _ => ⟨p1, p2⟩)
  cases a1
  cases a2
  exact ⟨_, h1, _, h3, x1, y1, hP, s1, ⟨⟨y2, kw_same x4 hi, y4⟩, s3, hft _ _ _ _ _ ht hg hg1 (fun a ha => gm_i (x3 a ha)) (fun a ha => gm_i (y3 a ha)) (fun r hr => (fl_use x1 hs hr).2.2.1) (fun r hr => (fl_use y1 s1 hr).2.2.1)⟩, t3, j3⟩
/-- rows and texts stay -/
theorem hft_d {kc km : Nat} {vs : List Value} {Sc Sm : List Nat} (sc : ∀ a ∈ ([1, 3, 4, 5, 6, 7, 8, 9, 11, 12, 13, 14] : List Nat), a ∈ Sc) (sm : ∀ a ∈ ([87, 88, 89, 90] : List Nat), a ∈ Sm) : ∀ (M M1 M2 : fl_M) (J J1 : fl_J), ft M → ft_g M → ft_g M1 → (∀ a, (81 ≤ a ∨ a ∈ Sc) → M1 a = M a) → (∀ a, (a < 81 ∨ a ∈ Sm) → M2 a = M1 a) → (∀ r, fl_C kc (.ref 0 :: vs) M J r → M1 = r.2.1) → (∀ r, fl_C km (.ref 81 :: vs) M1 J1 r → M2 = r.2.1) → ft M2 := by
  intro M M1 M2 J J1 ht _ _ lo hi _ _
  refine ft_cong (fun a ha => ?_) ht
  unfold ft_d at ha
  rcases Nat.lt_or_ge a 81 with h81 | h81
  · rw [hi a (Or.inl h81)]
    refine lo a (Or.inr (sc a ?_))
    simp only [List.mem_cons, List.not_mem_nil, or_false]
    omega
  · rw [hi a (Or.inr (sm a ?_))]
    · exact lo a (Or.inl h81)
    · simp only [List.mem_cons, List.not_mem_nil, or_false]
      omega
/-- rows and texts as both sides' own calls leave them -/
theorem hft_f {kc km : Nat} {vs : List Value} {Sc Sm : List Nat} {fa ga : fl_M → Int32} {fM gM : fl_M → fl_M} (hP : ft_P fa fM ga gM) (hF : ∀ (M : fl_M) (J : fl_J), ft_g M → fl_C kc (.ref 0 :: vs) M J (some (.int (fa M)), fM M, J)) (hG : ∀ (M : fl_M) (J : fl_J), ft_g M → fl_C km (.ref 81 :: vs) M J (some (.int (ga M)), gM M, J)) : ∀ (M M1 M2 : fl_M) (J J1 : fl_J), ft M → ft_g M → ft_g M1 → (∀ a, (81 ≤ a ∨ a ∈ Sc) → M1 a = M a) → (∀ a, (a < 81 ∨ a ∈ Sm) → M2 a = M1 a) → (∀ r, fl_C kc (.ref 0 :: vs) M J r → M1 = r.2.1) → (∀ r, fl_C km (.ref 81 :: vs) M1 J1 r → M2 = r.2.1) → ft M2 :=
  fun M M1 M2 J J1 ht hg hg1 lo hi e1 e2 => (hP M M1 M2 ht hg (e1 _ (hF M J hg)) (e2 _ (hG M1 J1 hg1)) (fun a ha => lo a (Or.inl ha)) (fun a ha => hi a (Or.inl ha))).2
theorem pt_f {kc km : Nat} {vs : List Value} {Sc Sm : List Nat} {fa ga : fl_M → Int32} {fM gM : fl_M → fl_M} (hk : kd_ok false kc Sc (.ref 0 :: vs)) (hm : md_ok false km Sm (.ref 81 :: vs)) (hP : ft_P fa fM ga gM) (hF : ∀ (M : fl_M) (J : fl_J), ft_g M → fl_C kc (.ref 0 :: vs) M J (some (.int (fa M)), fM M, J)) (hG : ∀ (M : fl_M) (J : fl_J), ft_g M → fl_C km (.ref 81 :: vs) M J (some (.int (ga M)), gM M, J)) (hR : ∀ C R : fl_M, t2 C R → f2 C R → t2 (fM C) (gM R)) : pt_ok pr_e kc km vs := by
  intro h hT
  obtain ⟨⟨hI, hs, ht⟩, h2, hj⟩ := hT
  have hg := ft_gI hI hs
  obtain ⟨hp, hkw, m, hm5, hmw⟩ := hI
  obtain ⟨o1, h1, x1, x2, x3, x4, w1, rfl, c1⟩ := hk h hkw hp
  have lo : ∀ a, 81 ≤ a → h1[a]? = h[a]? := fun a ha => x3 a (Or.inl ha)
  have hmw1 := mw_same hmw lo
  obtain ⟨o2, h3, y1, y2, y3, y4, w2, rfl, c2⟩ := hm m h1 hm5 hmw1 x2
  have hi : ∀ a, a < 81 → h3[a]? = h1[a]? := fun a ha => y3 a (Or.inl ha)
  have s1 := (fl_all 12 _ _ _ _ _ x1 hs).1
  have hg1 : ft_g (fm_i h1) := ft_gI ⟨x2, x4, m, hm5, hmw1⟩ s1
  have l1 : ∀ a, 81 ≤ a → fm_i h1 a = fm_i h a := fun a ha => gm_i (lo a ha)
  have t1 : t2 (fm_i h) (fm_i h1) := t2_c h2 (fun _ _ => rfl) (fun k hk => l1 k (by omega)) (fun j _ => by rw [l1 82 (by decide)])
  have j1 : jd (fm_l h) (fm_l h1) := ⟨by rw [gm_l (lo 81 (by decide))]; exact hj.1, by rw [gm_l (lo 81 (by decide))]; exact hj.2⟩
  obtain ⟨-, -, m1, -⟩ := fl_use x1 hs (hF _ _ hg)
  obtain ⟨-, -, m2, -⟩ := fl_use y1 s1 (hG _ _ hg1)
  obtain ⟨e, tf⟩ := hP (fm_i h) (fm_i h1) (fm_i h3) ht hg m1 m2 l1 (fun a ha => gm_i (hi a ha))
  obtain ⟨a1, a2, t3, j3, s3⟩ := pt_c x1 y1 hs lo hi h2 hj (hF _ _ hg) (hG _ _ hg1) (fun _ _ _ => ⟨hR _ _ t1 (f2_of ht hg l1), j1⟩)
  cases a1
  cases a2
  exact ⟨_, h1, _, h3, x1, y1, ⟨_, rfl, by rw [e]⟩, s1, ⟨⟨y2, kw_same x4 hi, y4⟩, s3, tf⟩, t3, j3⟩
/-! Fault, register, duel: the pairs that go their own way. -/
section PTS
variable {xs : Nat → Int32} {i : Nat}
theorem pt_rd {kc km : Nat} {t : Int32} {vc : Int32} {vr : fl_M → Int32} {mc : fl_M → fl_M} {mr : fl_M → fl_M} {h : List va_E} (hT : TT h)
    (wC : fw_C 12 kc [.ref 0, .int t] (fm_i h) (fm_l h)) (hF : fl_C kc [.ref 0, .int t] (fm_i h) (fm_l h) (some (.int vc), mc (fm_i h), fm_l h))
    (kC : kz (mc (fm_i h)) ∧ ∀ c, (c ≠ 0 ∧ c ≠ 80 ∧ (c < 15 ∨ 32 < c) ∧ c ≠ 42 ∧ c ≠ 47 ∧ c ≠ 51 ∧ c ≠ 55) → mc (fm_i h) c = fm_i h c)
    (wR : ∀ (R : fl_M) (J' : fl_J) (m : Nat), m < 5 → mz m R → fw_C 12 km [.ref 81, .int t] R J') (hG : ∀ (R : fl_M) (J' : fl_J), f2 (fm_i h) R → ft_g R → t2 (fm_i h) R → fl_C km [.ref 81, .int t] R J' (some (.int (vr R)), mr R, J') ∧ vc = vr R ∧ t2 (mc (fm_i h)) (mr R))
    (kR : ∀ (R : fl_M) (m : Nat), m < 5 → mz m R → t2 (mc (fm_i h)) (mr R) → (∃ m', m' < 5 ∧ mz m' (mr R)) ∧ ∀ c, ((c < 81 ∨ 94 < c) ∨ (87 ≤ c ∧ c ≤ 90)) → mr R c = R c) :
    ∃ w1 h1 w2 h2, sm_Ex 200 sm_ML sm_B 12 kc (.ref 0 :: [.int t]) h (some w1) h1 ∧ sm_Ex 200 sm_ML sm_B 12 km (.ref 81 :: [.int t]) h1 (some w2) h2 ∧ pr_e w1 w2 ∧ fl_sh h1 ∧ TT h2 := by
  obtain ⟨⟨hI, hs, ht⟩, h2, hj⟩ := hT
  have hg := ft_gI hI hs
  obtain ⟨k0, p0, m, hm5, g0⟩ := n_I hs hI
  obtain ⟨o1, h1, x1⟩ := wC h ⟨hs, rfl, rfl⟩
  obtain ⟨s1, b1, n1, k1⟩ := fl_use x1 hs hF
  have a1 : o1 = some (.int vc) := b1
  have m1 : fm_i h1 = mc (fm_i h) := n1
  have j1 : fm_l h1 = fm_l h := k1
  clear b1 n1 k1
  subst a1
  have l1 : ∀ c, 81 ≤ c → fm_i h1 c = fm_i h c := fun c hc => by rw [m1]; exact kC.2 c (by omega)
  have e1 : ∀ c, (c ≠ 0 ∧ c ≠ 80 ∧ (c < 15 ∨ 32 < c) ∧ c ≠ 42 ∧ c ≠ 47 ∧ c ≠ 51 ∧ c ≠ 55) → fm_i h1 c = fm_i h c := fun c hc => by rw [m1]; exact kC.2 c hc
  have g1 : mz m (fm_i h1) := mz_e g0 (fun j _ => by rw [l1 81 (by decide)]) (fun c hc => l1 c (by omega))
  have t1 : t2 (fm_i h) (fm_i h1) := t2_c h2 (fun _ _ => rfl) (fun k hk => l1 k (by omega)) (fun j _ => by rw [l1 82 (by decide)])
  have hg1 : ft_g (fm_i h1) := by
    unfold ft_g
    rw [e1 1 (by decide), e1 9 (by decide), l1 87 (by decide), l1 89 (by decide), l1 999 (by decide)]
    exact hg
  obtain ⟨o2, h3, y1⟩ := wR (fm_i h1) (fm_l h1) m hm5 g1 h1 ⟨s1, rfl, rfl⟩
  obtain ⟨hG, hv, p2⟩ := hG (fm_i h1) (fm_l h1) (f2_of ht hg l1) hg1 t1
  obtain ⟨s3, b2, n3, k3⟩ := fl_use y1 s1 hG
  have a2 : o2 = some (.int (vr (fm_i h1))) := b2
  have m3 : fm_i h3 = mr (fm_i h1) := n3
  have j3 : fm_l h3 = fm_l h1 := k3
  clear b2 n3 k3
  subst a2
  obtain ⟨⟨m', hm', g3⟩, e3⟩ := kR (fm_i h1) m hm5 g1 p2
  rw [← m3] at p2 g3 e3
  rw [← m1] at p2
  have lo3 : ∀ c, c < 81 → fm_i h3 c = fm_i h1 c := fun c hc => e3 c (Or.inl (Or.inl hc))
  refine ⟨_, h1, _, h3, x1, y1, ⟨vc, rfl, by rw [hv]⟩, s1, ⟨I_n s3 (kz_c (by rw [m1]; exact kC.1) lo3) hm' g3 (wo_pc p0 (fun c hc => (lo3 c (by omega)).trans (e1 c (by omega)))), s3, ft_cong (fun a ha => ?_) ht⟩, t2_c p2 (fun c hc => lo3 c (by omega)) (fun _ _ => rfl) (fun _ _ => rfl), ?_⟩
  · unfold ft_d at ha
    rcases Nat.lt_or_ge a 81 with h81 | h81
    · exact (lo3 a h81).trans (e1 a (by omega))
    · exact (e3 a (by omega)).trans (l1 a h81)
  · rw [j3, j1]
    exact hj
theorem pt_fault : pt_ok pr_e 14 119 (la_vs xs i 1 1) := fun h hT => by
  have hT0 := hT
  obtain ⟨⟨hI, hs, ht⟩, h2, hj⟩ := hT
  have hg := ft_gI hI hs
  have k0 := (n_I hs hI).1
  exact pt_rd (t := xs (i + 1)) (vr := v_119 (xs (i + 1))) (mc := m_14 (xs (i + 1))) (mr := m_119 (xs (i + 1))) hT0 (fw_14 8 _ _ _ (fun q hq => (hg.2.1 q hq).2) hg.2.2.2.2) (cc_14 _ _ _ (fun q hq => (hg.2.1 q hq).2) hg.2.2.2.2)
    ⟨(fa_C k0 hg.2.2.2.2).1, fun c hc => (fa_C k0 hg.2.2.2.2).2 c (by omega)⟩ (fun R J' m hm g => fw_119 6 R J' _ (fun q hq => (g.2.2.2.2.2.2.2.2.2.2.2.1 q hq).2))
    (fun R J' hf hgR t1 => ⟨cc_119 R J' _ (fun q hq => (hgR.2.2.2.1 q hq).2), (fa_p t1 hf hg.2.2.2.2 _).1, (fa_p t1 hf hg.2.2.2.2 _).2⟩)
    (fun R m hm g _ => ⟨⟨m, hm, (fa_R g).1⟩, fun c hc => (fa_R g).2 c (by omega)⟩)
theorem pt_register : pt_ok pr_e 21 129 (la_vs xs i 1 1) := fun h hT => by
  have hT0 := hT
  obtain ⟨⟨hI, hs, ht⟩, h2, hj⟩ := hT
  have hg := ft_gI hI hs
  have k0 := (n_I hs hI).1
  exact pt_rd (t := xs (i + 1)) (vr := v_129 (xs (i + 1))) (mc := m_21 (xs (i + 1))) (mr := m_129 (xs (i + 1))) hT0 (fw_21 8 _ _ _ (fun q hq => (hg.2.1 q hq).2) hg.2.2.2.2 (kz_31 k0)) (cc_21 _ _ _ (fun q hq => (hg.2.1 q hq).2) hg.2.2.2.2)
    (re_C k0 hg.2.2.2.2) (fun R J' m hm g => fw_129 6 R J' _ (fun q hq => (g.2.2.2.2.2.2.2.2.2.2.2.1 q hq).2) g.2.2.2.2.2.2.2.2.2.2.2.2.1)
    (fun R J' hf hgR t1 => ⟨cc_129 R J' _ (fun q hq => (hgR.2.2.2.1 q hq).2), (re_p t1 hf hg.2.2.2.2 _).1, (re_p t1 hf hg.2.2.2.2 _).2⟩)
    (fun R m hm g t3 => re_R hm g t3)
theorem kd31b : kd_ok false 81 [1, 2, 3, 4, 5, 6, 7, 8, 9, 10, 11, 12, 13, 14, 15, 16, 17, 18, 19, 20, 21, 22, 23, 42, 43, 44, 45, 46, 47, 48, 49, 50, 51, 52, 53, 54, 55, 56, 57, 58, 80] (.ref 0 :: la_vs xs i 3 1) := kd_c (c := kcc1053) (ko1053 ps_P ko_h) (by decide) (by decide +kernel) rfl
theorem pt_duel : pt_ok (pr_c false) 81 180 (la_vs xs i 3 1) := by
  intro h hT
  obtain ⟨⟨hI, hs, ht⟩, h2, hj⟩ := hT
  have hg := ft_gI hI hs
  obtain ⟨hp, hkw, m, hm5, hmw⟩ := hI
  obtain ⟨o1, h1, x1, x2, x3, x4, w1, rfl, c1⟩ := kd31b h hkw hp
  have lo : ∀ a, 81 ≤ a → h1[a]? = h[a]? := fun a ha => x3 a (Or.inl ha)
  have hmw1 := mw_same hmw lo
  obtain ⟨o2, h3, y1, y2, y3, y4, w2, rfl, c2⟩ := md31 m h1 hm5 hmw1 x2
  have hi : ∀ a, a < 81 → h3[a]? = h1[a]? := fun a ha => y3 a (Or.inl ha)
  have s1 := (fl_all 12 _ _ _ _ _ x1 hs).1
  obtain ⟨f11, l13, l14⟩ := fy_M hs s1 (fy_run _ _ _ _ _ _ rfl x1)
  obtain ⟨-, -, m1, hm1, g1⟩ := n_I s1 ⟨x2, x4, m, hm5, hmw1⟩
  have q4 := g1.2.2.1
  obtain ⟨v, X, hG, fd, -, -⟩ := dw_r (R := fm_i h1) (fm_l h1) (xs (i + 1)) (xs (i + 1 + 1)) (xs (i + 1 + 1 + 1)) g1.1 (by omega) g1.2.2.2.2.2.2.2.2.2.2.2.2.2
  obtain ⟨s3, b2, n3, k3⟩ := fl_use y1 s1 hG
  have m3 : fm_i h3 = X := n3
  have j3 : fm_l h3 = fm_l h1 := k3
  clear b2 n3 k3
  subst m3
  have l1 : ∀ a, 81 ≤ a → fm_i h1 a = fm_i h a := fun a ha => gm_i (lo a ha)
  have d1 : ∀ a, (a ∈ ([1, 2, 3, 4, 5, 6, 7, 8, 9, 10, 11, 12, 13, 14, 15, 16, 17, 18, 19, 20, 21, 22, 23, 42, 43, 44, 45, 46, 47, 48, 49, 50, 51, 52, 53, 54, 55, 56, 57, 58, 80] : List Nat)) → fm_i h3 a = fm_i h a := fun a ha => by
    have l : ∀ a ∈ ([1, 2, 3, 4, 5, 6, 7, 8, 9, 10, 11, 12, 13, 14, 15, 16, 17, 18, 19, 20, 21, 22, 23, 42, 43, 44, 45, 46, 47, 48, 49, 50, 51, 52, 53, 54, 55, 56, 57, 58, 80] : List Nat), a < 81 := by decide
    rw [gm_i (hi a (l a ha))]
    exact gm_i (x3 a (Or.inr ha))
  have d2 : ∀ c, (c ≠ 81 ∧ c ≠ 82 ∧ c ≠ 96 ∧ c ≠ 97) → 81 ≤ c → fm_i h3 c = fm_i h c := fun c hc h8 => (fd.1 c hc).trans (l1 c h8)
  have d3 : ∀ j, j ≠ 11 → fm_i h3 81 j = fm_i h 81 j := fun j hj => by rw [fd.2.1 j hj, l1 81 (by decide)]
  refine ⟨w1, h1, w2, h3, x1, y1, ⟨c1, c2⟩, s1, ⟨⟨y2, kw_same x4 hi, y4⟩, s3, ft_cong (fun a ha => ?_) ht⟩, t2_q h2 (fun c hc => d1 c ?_) ?_ (d1 80 (by decide)) (fun z => z.elim) (d3 1 (by decide)) (d3 4 (by decide)) (d3 14 (by decide)) (fun k hk => d2 k (by omega) (by omega)) (d2 91 (by decide) (by decide)) (fun j hj => by rw [fd.2.2 j hj, l1 82 (by decide)]), ?_⟩
  · unfold ft_d at ha
    rcases Nat.lt_or_ge a 81 with h81 | h81
    · refine d1 a ?_
      simp only [List.mem_cons, List.not_mem_nil, or_false]
      omega
    · exact d2 a (by omega) h81
  · simp only [List.mem_cons, List.not_mem_nil, or_false]
    omega
  · rw [gm_i (hi 0 (by decide))]
    exact f11
  · refine ⟨?_, ?_⟩
    · rw [j3, gm_l (lo 81 (by decide)), l13]
      exact hj.1
    · rw [j3, gm_l (lo 81 (by decide)), l14]
      exact hj.2
/-- the reference's chances, where the line is none -/
theorem cc_184b (M : fl_M) (J : fl_J) (l p : Int32) (hl : ¬ ((¬ (l < 0)) ∧ (¬ ((M 81 1) - 1 < l)))) : fl_C 184 [.ref 81, .int l, .int p] M J (some (.int (v_184 l p M)), m_184 l p M, j_184 l p M J) := by
  unfold v_184 m_184 j_184
  rw [if_neg hl, if_neg hl, if_neg hl]
  exact fl_Co (B := fB184) rfl rfl <|
    fl_td (s' := (2, [.ref 81, .int l, .int p, .null, .null, .null, .null, .null, .null, .null], [.int l, .ref 81], M, J)) (fl_n 2 rfl) <|
    fl_td (s' := (5, [.ref 81, .int l, .int p, .null, .null, .null, .null, .null, .null, .null], [.int (if (¬ (l < 0)) ∧ (¬ ((M 81 1) - 1 < l)) then 1 else 0)], M, J)) (fl_cv (o := some (.int (if (¬ (l < 0)) ∧ (¬ ((M 81 1) - 1 < l)) then 1 else 0))) rfl rfl rfl rfl (cc_131 M J l) rfl) <|
    fl_dnot (fl_if (t := 20) rfl rfl) fl_b0 (fun h1 => absurd h1 hl) (fun _ =>
     fl_td (s' := (21, [.ref 81, .int l, .int p, .null, .null, .null, .null, .null, .null, .null], [.int (-1)], M, J)) (fl_n 1 rfl) <|
     fl_rt rfl (fun _ => rfl) rfl)
theorem bt_C {C R : fl_M} (h : t2 C R) : 0 ≤ (((1 : Int32) <<< ((C 15 0) &&& 31)) - 1).toInt ∧ (((1 : Int32) <<< ((C 15 0) &&& 31)) - 1).toInt ≤ 255 := ⟨(bit_b h.1.1.1.2.2.1.1 h.1.1.1.2.2.1.2).1, (bit_b h.1.1.1.2.2.1.1 h.1.1.1.2.2.1.2).2.1⟩
theorem bt_R {C R : fl_M} (h : t2 C R) : 0 ≤ (((1 : Int32) <<< ((R 81 1) &&& 31)) - 1).toInt ∧ (((1 : Int32) <<< ((R 81 1) &&& 31)) - 1).toInt ≤ 255 := by
  have s := h.1.1.1.1
  have g := bt_C h
  rw [s] at g
  exact g
theorem od_R {C R : fl_M} (h : t2 C R) (J : fl_J) (l p : Int32) : fl_C 184 [.ref 81, .int l, .int p] R J (some (.int (v_184 l p R)), m_184 l p R, j_184 l p R J) := by
  by_cases hl : (¬ (l < 0)) ∧ (¬ ((R 81 1) - 1 < l))
  · have l0 := hl.1
    have l1 := hl.2
    have s := h.1.1.1.1
    have a := h.1.1.1.2.2.1
    have ec := fi_cl (C 15 0)
    have el := fi_cl l
    rw [fi_l, fi_i0] at l0
    rw [← s, fi_l, fi_sub (by rw [fi_i1]; omega) (by rw [fi_i1]; omega), fi_i1] at l1
    refine cc_184 R J l p (fun hp => ?_) (fun hp => ?_)
    · obtain ⟨e1, e2, e3, e4, -⟩ := od_e h.1 (l := l) (p := p) (by omega) (by omega) hp.1 hp.2
      rw [← e1]
      exact e3
    · obtain ⟨e1, e2, e3, e4, -⟩ := od_e h.1 (l := l) (p := p) (by omega) (by omega) hp.1 hp.2
      omega
  · exact cc_184b R J l p hl
theorem mi_R {C R : fl_M} (h : t2 C R) (J : fl_J) (p : Int32) : fl_C 187 [.ref 81, .int p] R J (some (.int (v_187 p R)), m_187 p R, j_187 p R J) := by
  refine cc_187 R J p (fun hp => ?_) (fun hp => ?_)
  · obtain ⟨e1, e2, e3, e4, -⟩ := mi_e h.1 (p := p) hp.1 hp.2
    rw [← e1]
    exact e3
  · obtain ⟨e1, e2, e3, e4, -⟩ := mi_e h.1 (p := p) hp.1 hp.2
    omega
theorem pt_0 : pt_ok pr_e 0 103 (la_vs xs i 2 1) := pt_f kd0 md0 (ft_rowP (xs (i + 1)) (xs (i + 2))) (fun M J g => cc_0 M J _ _) (fun M J g => cc_103 M J _ _) (fun C R h hf => ro_0 h hf _ _)
theorem pt_1 : pt_ok pr_e 3 108 (la_vs xs i 3 1) := pt_f kd1 md1 (ft_layP (xs (i + 1)) (xs (i + 2)) (xs (i + 3))) (fun M J g => cc_3 M J _ _ _) (fun M J g => cc_108 M J _ _ _) (fun C R h hf => ro_3 h hf _ _ _)
theorem pt_2 : pt_ok pr_e 6 111 (la_vs xs i 2 1) := pt_f kd2 md2 (ft_atP (xs (i + 1)) (xs (i + 2))) (fun M J g => cc_6 M J _ _) (fun M J g => cc_111 M J _ _) (fun C R h hf => ro_6 h hf _ _)
theorem pt_3 : pt_ok pr_e 7 112 (la_vs xs i 1 1) := pt_f kd3 md3 (ft_tearP (xs (i + 1))) (fun M J g => cc_7 M J _) (fun M J g => cc_112 M J _) (fun C R h hf => ro_7 h hf _)
theorem pt_4 : pt_ok pr_e 8 113 (la_vs xs i 5 1) := pt_f kd4 md4 (ft_copyP (xs (i + 1)) (xs (i + 2)) (xs (i + 3)) (xs (i + 4)) (xs (i + 5))) (fun M J g => cc_8 M J _ _ _ _ _) (fun M J g => cc_113 M J _ _ _ _ _ (fun q hq => (g.2.2.1 q hq).2)) (fun C R h hf => ro_8 h hf _ _ _ _ _)
theorem pt_5 : pt_ok pr_e 10 115 (la_vs xs i 1 1) := pt_f kd5 md5 (ft_meanP (xs (i + 1))) (fun M J g => cc_10 M J _) (fun M J g => cc_115 M J _ (fun q hq => (g.2.2.1 q hq).2)) (fun C R h hf => ro_10 h hf _)
theorem pt_6 : pt_ok pr_e 11 116 (la_vs xs i 2 1) := pt_f kd6 md6 (ft_textP (xs (i + 1)) (xs (i + 2))) (fun M J g => cc_11 M J _ _) (fun M J g => cc_116 M J _ _) (fun C R h hf => ro_11 h hf _ _)
theorem pt_7 : pt_ok pr_e 13 118 (la_vs xs i 3 1) := pt_f kd7 md7 (ft_putP (xs (i + 1)) (xs (i + 2)) (xs (i + 3))) (fun M J g => cc_13 M J _ _ _) (fun M J g => cc_118 M J _ _ _) (fun C R h hf => ro_13 h hf _ _ _)
theorem pt_8 : pt_ok pr_e 14 119 (la_vs xs i 1 1) := pt_fault
theorem pt_9 : pt_ok pr_e 21 129 (la_vs xs i 1 1) := pt_register
theorem pt_10 : pt_ok pr_e 24 130 (la_vs xs i 2 1) := pt_k kd10 md10 (fun C R J J' h hj hf hg hg1 => ⟨_, _, _, _, _, _, cc_24 C J _ _, cc_130 R J' _ _, ⟨_, rfl, congrArg Value.int (li_p h _ _).1.symm⟩, (li_p h _ _).2, hj⟩) (hft_d (by decide) (by decide))
theorem pt_11 : pt_ok pr_e 32 139 (la_vs xs i 2 1) := pt_k kd11 md11 (fun C R J J' h hj hf hg hg1 => ⟨_, _, _, _, _, _, cc_32 C J _ _, cc_139 R J' _ _, ⟨_, rfl, congrArg Value.int (mo_p h _ _).1.symm⟩, (mo_p h _ _).2, hj⟩) (hft_d (by decide) (by decide))
theorem pt_12 : pt_ok pr_e 36 143 (la_vs xs i 2 1) := pt_k kd12 md12 (fun C R J J' h hj hf hg hg1 => ⟨_, _, _, _, _, _, cc_36 C J _ _, cc_143 R J' _ _, ⟨_, rfl, congrArg Value.int (mk_p h _ _).1.symm⟩, (mk_p h _ _).2, hj⟩) (hft_d (by decide) (by decide))
theorem pt_13 : pt_ok pr_e 42 148 (la_vs xs i 0 1) := pt_k kd13 md13 (fun C R J J' h hj hf hg hg1 => ⟨_, _, _, _, _, _, cc_42 C J , cc_148 R J' , ⟨_, rfl, congrArg Value.int (yr_2 h).1.symm⟩, (yr_2 h).2, hj⟩) (hft_d (by decide) (by decide))
theorem pt_14 : pt_ok pr_e 47 151 (la_vs xs i 2 1) := pt_k kd14 md14 (fun C R J J' h hj hf hg hg1 => ⟨_, _, _, _, _, _, cc_47 C J _ _, cc_151 R J' _ _, ⟨_, rfl, congrArg Value.int (ch_2 h _ _).1.symm⟩, (ch_2 h _ _).2, hj⟩) (hft_d (by decide) (by decide))
theorem pt_15 : pt_ok pr_e 48 152 (la_vs xs i 1 1) := pt_k kd15 md15 (fun C R J J' h hj hf hg hg1 => ⟨_, _, _, _, _, _, cc_48 C J _, cc_152 R J' _, ⟨_, rfl, congrArg Value.int (ct_2 h _).1.symm⟩, (ct_2 h _).2, hj⟩) (hft_d (by decide) (by decide))
theorem pt_16 : pt_ok pr_e 49 153 (la_vs xs i 1 1) := pt_k kd16 md16 (fun C R J J' h hj hf hg hg1 => ⟨_, _, _, _, _, _, cc_49 C J _, cc_153 R J' _, ⟨_, rfl, congrArg Value.int (wx_2 h _).1.symm⟩, (wx_2 h _).2, hj⟩) (hft_d (by decide) (by decide))
theorem pt_18 : pt_ok pr_e 52 155 (la_vs xs i 1 1) := pt_k kd18 md18 (fun C R J J' h hj hf hg hg1 => ⟨_, _, _, _, _, _, cc_52 C J _, cc_155 R J' _, ⟨_, rfl, congrArg Value.int (kp_2 h _).1.symm⟩, (kp_2 h _).2, hj⟩) (hft_d (by decide) (by decide))
theorem pt_19 : pt_ok pr_e 55 157 (la_vs xs i 1 1) := pt_k kd19 md19 (fun C R J J' h hj hf hg hg1 => ⟨_, _, _, _, _, _, cc_55 C J _, cc_157 R J' _, ⟨_, rfl, congrArg Value.int (on_2 h _).1.symm⟩, (on_2 h _).2, hj⟩) (hft_d (by decide) (by decide))
theorem pt_20 : pt_ok pr_e 56 158 (la_vs xs i 4 1) := pt_k kd20 md20 (fun C R J J' h hj hf hg hg1 => ⟨_, _, _, _, _, _, cc_56 C J _ _ _ _, cc_158 R J' _ _ _ _, ⟨_, rfl, congrArg Value.int (lk_p h _ _ _ _).1.symm⟩, (lk_p h _ _ _ _).2, hj⟩) (hft_d (by decide) (by decide))
theorem pt_21 : pt_ok pr_e 57 159 (la_vs xs i 2 1) := pt_k kd21 md21 (fun C R J J' h hj hf hg hg1 => ⟨_, _, _, _, _, _, cc_57 C J _ _, cc_159 R J' _ _, ⟨_, rfl, congrArg Value.int (le_p h _ _).1.symm⟩, (le_p h _ _).2, hj⟩) (hft_d (by decide) (by decide))
theorem pt_22 : pt_ok pr_e 60 162 (la_vs xs i 1 1) := pt_k kd22 md22 (fun C R J J' h hj hf hg hg1 => ⟨_, _, _, _, _, _, cc_60 C J _, cc_162 R J' _, ⟨_, rfl, congrArg Value.int (et_p h _).1.symm⟩, (et_p h _).2, hj⟩) (hft_d (by decide) (by decide))
theorem pt_23 : pt_ok pr_e 62 164 (la_vs xs i 1 1) := pt_k kd23 md23 (fun C R J J' h hj hf hg hg1 => ⟨_, _, _, _, _, _, cc_62 C J _, cc_164 R J' _, ⟨_, rfl, congrArg Value.int (wn_p h _).1.symm⟩, (wn_p h _).2, hj⟩) (hft_d (by decide) (by decide))
theorem pt_24 : pt_ok pr_e 63 165 (la_vs xs i 2 1) := pt_k kd24 md24 (fun C R J J' h hj hf hg hg1 => ⟨_, _, _, _, _, _, cc_63 C J _ _, cc_165 R J' _ _, ⟨_, rfl, congrArg Value.int (sa_p h _ _).1.symm⟩, (sa_p h _ _).2, hj⟩) (hft_d (by decide) (by decide))
theorem pt_25 : pt_ok pr_e 65 167 (la_vs xs i 1 1) := pt_k kd25 md25 (fun C R J J' h hj hf hg hg1 => ⟨_, _, _, _, _, _, cc_65 C J _, cc_167 R J' _, ⟨_, rfl, congrArg Value.int (gu_p h _).1.symm⟩, (gu_p h _).2, hj⟩) (hft_d (by decide) (by decide))
theorem pt_26 : pt_ok pr_e 67 169 (la_vs xs i 2 1) := pt_k kd26 md26 (fun C R J J' h hj hf hg hg1 => ⟨_, _, _, _, _, _, cc_67 C J _ _, cc_169 R J' _ _, ⟨_, rfl, congrArg Value.int (pl_p h hf _ _).1.symm⟩, (pl_p h hf _ _).2, hj⟩) (hft_d (by decide) (by decide))
theorem pt_27 : pt_ok pr_e 70 172 (la_vs xs i 2 1) := pt_k kd27 md27 (fun C R J J' h hj hf hg hg1 => ⟨_, _, _, _, _, _, cc_70 C J _ _, cc_172 R J' _ _, ⟨_, rfl, congrArg Value.int (kn_p h hf _ _).1.symm⟩, (kn_p h hf _ _).2, hj⟩) (hft_d (by decide) (by decide))
theorem pt_28 : pt_ok pr_e 72 174 (la_vs xs i 2 1) := pt_k kd28 md28 (fun C R J J' h hj hf hg hg1 => ⟨_, _, _, _, _, _, cc_72 C J _ _, cc_174 R J' _ _, ⟨_, rfl, congrArg Value.int (lo_k h hf _ _).1.symm⟩, (lo_k h hf _ _).2, hj⟩) (hft_d (by decide) (by decide))
theorem pt_34 : pt_ok pr_e 88 188 (la_vs xs i 2 1) := pt_k kd34 md34 (fun C R J J' h hj hf hg hg1 => ⟨_, _, _, _, _, _, cc_88 C J _ _, cc_188 R J' _ _, ⟨_, rfl, congrArg Value.int (lo_2 h _ _).1.symm⟩, (lo_2 h _ _).2, hj⟩) (hft_d (by decide) (by decide))
theorem pt_17 : pt_ok (pr_c false) 50 154 (la_vs xs i 1 1) := by
  intro h hT
  obtain ⟨⟨hI, hs, ht⟩, h2, hj⟩ := hT
  obtain ⟨hp, hkw, m, hm5, hmw⟩ := hI
  obtain ⟨o1, h1, x1, x2, x3, x4, w1, rfl, -⟩ := kd17 h hkw hp
  have lo : ∀ a, 81 ≤ a → h1[a]? = h[a]? := fun a ha => x3 a (Or.inl ha)
  have hmw1 := mw_same hmw lo
  have s1 := (fl_all 12 _ _ _ _ _ x1 hs).1
  obtain ⟨k1, p1, m1, hm1, g1⟩ := n_I s1 ⟨x2, x4, m, hm5, hmw1⟩
  have l1 : ∀ a, 81 ≤ a → fm_i h1 a = fm_i h a := fun a ha => gm_i (lo a ha)
  have t1 : t2 (fm_i h) (fm_i h1) := t2_c h2 (fun _ _ => rfl) (fun k hk => l1 k (by omega)) (fun j _ => by rw [l1 82 (by decide)])
  obtain ⟨-, b1, n1, j1⟩ := fl_use x1 hs (cc_50 (fm_i h) (fm_l h) (xs (i + 1)))
  have m1c : fm_i h1 = m_50 (xs (i + 1)) (fm_i h) := n1
  have j1 : fm_l h1 = fm_l h := j1
  obtain ⟨o2, h3, y1⟩ := fwu_154 10 (fm_l h1) (xs (i + 1)) (fm_i h1) (un_40 g1.2.2.2.2.2.2.2.2.1).2 h1 ⟨s1, rfl, rfl⟩
  obtain ⟨s3, b2, n3, k3⟩ := fl_use y1 s1 (cc_154 (fm_i h1) (fm_l h1) (xs (i + 1)))
  have a2 : o2 = some (.int (v_154 (xs (i + 1)) (fm_i h1))) := b2
  have m3 : fm_i h3 = m_154 (xs (i + 1)) (fm_i h1) := n3
  have j3 : fm_l h3 = fm_l h1 := k3
  have b1 : some w1 = some (.int (v_50 (xs (i + 1)) (fm_i h))) := b1
  cases b1
  subst a2
  have e3 : ∀ c, c ≠ 82 → fm_i h3 c = fm_i h1 c := fun c hc => by rw [m3]; exact (un_sg g1.2.2.2.2.2.2.2.2.1).2 c hc
  have lo3 : ∀ c, c < 81 → fm_i h3 c = fm_i h1 c := fun c hc => e3 c (by omega)
  have p2 := (un_2 t1 (xs (i + 1))).2
  rw [← m3, ← m1c] at p2
  refine ⟨_, h1, _, h3, x1, y1, ⟨rfl, rfl⟩, s1, ⟨I_n s3 (kz_c k1 lo3) hm1 (by rw [m3]; exact un_mz g1) (wo_pc p1 (fun c hc => lo3 c (by omega))), s3, ft_cong (fun a ha => ?_) ht⟩, t2_c p2 (fun c hc => lo3 c (by omega)) (fun _ _ => rfl) (fun _ _ => rfl), ?_⟩
  · unfold ft_d at ha
    rcases Nat.lt_or_ge a 81 with h81 | h81
    · rw [lo3 a h81]
      refine gm_i (x3 a (Or.inr ?_))
      simp only [List.mem_cons, List.not_mem_nil, or_false]
      omega
    · rw [e3 a (by omega)]
      exact l1 a h81
  · rw [j3, j1]
    exact hj
theorem pt_29 : pt_ok pr_e 76 176 (la_vs xs i 1 1) := pt_k kd29 md29 (fun C R J J' h hj hf hg hg1 => ⟨_, _, _, _, _, _, cc_76 C J _, cc_176 R J' _ ⟨by have := (bt_R h).1; omega, by have := (bt_R h).2; omega⟩, ⟨_, rfl, congrArg Value.int (se_p h hj _).1.symm⟩, (se_p h hj _).2.1, (se_p h hj _).2.2⟩) (hft_d (by decide) (by decide))
theorem pt_30 : pt_ok pr_e 80 179 (la_vs xs i 1 1) := pt_k kd30 md30 (fun C R J J' h hj hf hg hg1 => ⟨_, _, _, _, _, _, cc_80 C J _ (bt_C h).1 (by have z := (bt_C h).2; have y := fi_cl (((1 : Int32) <<< ((C 15 0) &&& 31)) - 1); omega), cc_179 R J' _ (bt_R h).1 (by have z := (bt_R h).2; have y := fi_cl (((1 : Int32) <<< ((R 81 1) &&& 31)) - 1); omega), ⟨_, rfl, congrArg Value.int (su_p h _).1.symm⟩, (su_p h _).2, hj⟩) (hft_d (by decide) (by decide))
theorem pt_31 : pt_ok (pr_c false) 81 180 (la_vs xs i 3 1) := pt_duel
theorem pt_32 : pt_ok pr_e 83 184 (la_vs xs i 2 1) := pt_k kd32 md32 (fun C R J J' h hj hf hg hg1 => ⟨_, _, _, _, _, _, cc_83 C J _ _, od_R h J' _ _, ⟨_, rfl, congrArg Value.int (od_p h hj _ _).1.symm⟩, (od_p h hj _ _).2.1, (od_p h hj _ _).2.2⟩) (hft_d (by decide) (by decide))
theorem pt_33 : pt_ok pr_e 87 187 (la_vs xs i 1 1) := pt_k kd33 md33 (fun C R J J' h hj hf hg hg1 => ⟨_, _, _, _, _, _, cc_87 C J _, mi_R h J' _, ⟨_, rfl, congrArg Value.int (mi_p h hj _).1.symm⟩, (mi_p h hj _).2.1, (mi_p h hj _).2.2⟩) (hft_d (by decide) (by decide))
theorem pt_35 : pt_ok (pr_c false) 90 190 (la_vs xs i 0 1) := pt_k kd35 md35 (fun C R J J' h hj hf hg hg1 => ⟨_, _, _, _, _, _, cc_90 C J, cc_190 R J', ⟨rfl, rfl⟩, h, hj⟩) (hft_d (by decide) (by decide))
theorem pt_36 : pt_ok pr_l 91 191 (la_vs xs i 0 1) := pt_k kd36 md36 (fun C R J J' h hj hf hg hg1 => ⟨_, _, _, _, _, _, cc_91 C J, cc_191 R J', ⟨_, rfl, congrArg Value.long (up_p hj).symm⟩, h, hj⟩) (hft_d (by decide) (by decide))
theorem pt_37 : pt_ok pr_l 92 192 (la_vs xs i 0 1) := pt_k kd37 md37 (fun C R J J' h hj hf hg hg1 => ⟨_, _, _, _, _, _, cc_92 C J, cc_192 R J', ⟨_, rfl, congrArg Value.long (lw_p hj).symm⟩, h, hj⟩) (hft_d (by decide) (by decide))
theorem pt_38 : pt_ok pr_e 93 193 (la_vs xs i 1 1) := pt_k kd38 md38 (fun C R J J' h hj hf hg hg1 => ⟨_, _, _, _, _, _, cc_93 C J _, cc_193 R J' _, ⟨_, rfl, congrArg Value.int (cn_p h.1 hf _).symm⟩, h, hj⟩) (hft_d (by decide) (by decide))
theorem pt_39 : pt_ok pr_e 98 197 (la_vs xs i 0 1) := pt_k kd39 md39 (fun C R J J' h hj hf hg hg1 => ⟨_, _, _, _, _, _, cc_98 C J, cc_197 R J', ⟨_, rfl, congrArg Value.int (fn_p h).symm⟩, h, hj⟩) (hft_d (by decide) (by decide))
theorem pt_40 : pt_ok pr_e 99 198 (la_vs xs i 1 1) := pt_k kd40 md40 (fun C R J J' h hj hf hg hg1 => ⟨_, _, _, _, _, _, cc_99 C J _, cc_198 R J' _, ⟨_, rfl, congrArg Value.int (fi_p h _).symm⟩, h, hj⟩) (hft_d (by decide) (by decide))
theorem pt_41 : pt_ok pr_l 100 199 (la_vs xs i 0 1) := pt_k kd41 md41 (fun C R J J' h hj hf hg hg1 => ⟨_, _, _, _, _, _, cc_100 C J, cc_199 R J', ⟨_, rfl, congrArg Value.long (dg_p h hf).symm⟩, h, hj⟩) (hft_d (by decide) (by decide))
end PTS
