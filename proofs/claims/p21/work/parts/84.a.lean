/-! Duel of the reference: it comes to 1 (or is refused), and leaves alone what the tie sees. -/
def fD (R X : fl_M) : Prop := (∀ c, (c ≠ 81 ∧ c ≠ 82 ∧ c ≠ 96 ∧ c ≠ 97) → X c = R c) ∧ (∀ j, j ≠ 11 → X 81 j = R 81 j) ∧ ∀ j, j < 3776 → X 82 j = R 82 j
def dw_m (l : Nat → Int) (T : Int) : Int := if T < 0 then 0 else if T = 0 then 1 + (10 - l 0) * 1000000 else if T = 1 then 1 + (9 - l 0) * 1000000 + (10 - l 1) * 10000 else if T = 2 then 1 + (9 - l 0) * 1000000 + (9 - l 1) * 10000 + (10 - l 2) * 100 else 1 + (9 - l 0) * 1000000 + (9 - l 1) * 10000 + (9 - l 2) * 100 + (10 - l 3)
theorem dw_4 {k : Nat} (h : k < 4) : k = 0 ∨ k = 1 ∨ k = 2 ∨ k = 3 := by omega
theorem dw_m1 {l l' : Nat → Int} {k : Nat} (h4 : k < 4) (h' : ∀ j, j < 4 → l' j = if j = k then l k + 1 else l j) : dw_m l' k < dw_m l k := by
  have h0 := h' 0 (by decide)
  have h1 := h' 1 (by decide)
  have h2 := h' 2 (by decide)
  have h3 := h' 3 (by decide)
  rcases dw_4 h4 with rfl | rfl | rfl | rfl <;> simp at h0 h1 h2 h3 <;> simp [dw_m, h0, h1, h2, h3] <;> omega
theorem dw_m2 {l l' : Nat → Int} {k : Nat} (h4 : k + 1 < 4) (h' : ∀ j, j < 4 → l' j = if j = k + 1 then 0 else l j) : dw_m l' (k + 1 : Nat) < dw_m l k := by
  have h0 := h' 0 (by decide)
  have h1 := h' 1 (by decide)
  have h2 := h' 2 (by decide)
  have h3 := h' 3 (by decide)
  have : k = 0 ∨ k = 1 ∨ k = 2 := by omega
  rcases this with rfl | rfl | rfl <;> simp at h0 h1 h2 h3 <;> simp [dw_m, h0, h1, h2, h3] <;> omega
theorem dw_m3 {l l' : Nat → Int} {k : Nat} (h4 : k + 1 < 4) (h9 : l (k + 1) ≤ 9) (h' : ∀ j, j < 4 → l' j = if j = k then l k + 1 else l j) : dw_m l' k < dw_m l (k + 1 : Nat) := by
  have h0 := h' 0 (by decide)
  have h1 := h' 1 (by decide)
  have h2 := h' 2 (by decide)
  have h3 := h' 3 (by decide)
  have : k = 0 ∨ k = 1 ∨ k = 2 := by omega
  rcases this with rfl | rfl | rfl <;> simp at h0 h1 h2 h3 h9 <;> simp [dw_m, h0, h1, h2, h3] <;> omega
theorem dw_m0 {l : Nat → Int} {T : Int} (h : 0 ≤ T) (h9 : ∀ j, j < 4 → l j ≤ 9) (h3 : T < 4) : 1 ≤ dw_m l T := by
  have h0 := h9 0 (by decide)
  have h1 := h9 1 (by decide)
  have h2 := h9 2 (by decide)
  have h3' := h9 3 (by decide)
  unfold dw_m
  repeat' split
  all_goals omega
section FD
variable {R X : fl_M}
theorem fD_u (h : fD R X) {a j : Nat} {v : Int32} (ha : a = 96 ∨ a = 97) : fD R (fl_u X a j v) := ⟨fun c hc => (fl_un (by omega)).trans (h.1 c hc), fun i hi => (fl_uo (Or.inl (by omega))).trans (h.2.1 i hi), fun i hi => (fl_uo (Or.inl (by omega))).trans (h.2.2 i hi)⟩
theorem fD_11 (h : fD R X) {v : Int32} : fD R (fl_u X 81 11 v) := ⟨fun c hc => (fl_un hc.1).trans (h.1 c hc), fun i hi => (fl_uo (Or.inr hi)).trans (h.2.1 i hi), fun i hi => (fl_uo (Or.inl (by decide))).trans (h.2.2 i hi)⟩
theorem fD_R {Y : fl_M} (h : fD R X) (h2 : fR X Y) : fD R Y := ⟨fun c hc => (h2.1 c hc.2.1).trans (h.1 c hc), fun i hi => by rw [h2.1 81 (by decide)]; exact h.2.1 i hi, fun i hi => (h2.2 i hi).trans (h.2.2 i hi)⟩
/-- what is laid, tried: nothing but the row's end is written -/
theorem dw_181 (hl : 0 ≤ (X 81 1).toInt ∧ (X 81 1).toInt ≤ 8) (h9 : ∀ j, j < 4 → 0 ≤ (X 96 j).toInt) (t : Int32) (h4 : t.toInt ≤ 4) : fR X (lr_181_7 t X) := by
  have ct := fi_cl t
  unfold lr_181_7 lq_181_7
  have hn : t.toNatClampNeg ≤ 4 := by omega
  generalize t.toNatClampNeg = n at hn
  induction n with
  | zero => exact ⟨fun _ _ => rfl, fun _ _ => rfl⟩
  | succ n ih =>
    have ih := ih (by omega)
    rw [fx_it_s]
    have en : (Int32.ofNat n).toNatClampNeg = n := fi_at (by omega)
    generalize fx_it ls_181_7 n X = Y at ih ⊢
    unfold ls_181_7
    rw [en]
    have e96 := ih.1 96 (by decide)
    have e81 := ih.1 81 (by decide)
    have g := h9 n (by omega)
    split
    · rename_i c1
      rw [fi_l, e96, e81] at c1
      split
      · have e : (3788 + Y 96 n).toInt = 3788 + (X 96 n).toInt := by
          rw [e96, fi_add (by rw [show (3788 : Int32).toInt = 3788 from rfl]; omega) (by rw [show (3788 : Int32).toInt = 3788 from rfl]; omega)]
          rfl
        have f := fi_cl (3788 + Y 96 n)
        exact ⟨fun c hc => (fl_un hc).trans (ih.1 c hc), fun j hj => (fl_uo (Or.inr (by omega))).trans (ih.2 j hj)⟩
      · exact ih
    · exact ih
theorem dw_z (hl : 0 ≤ (X 81 1).toInt ∧ (X 81 1).toInt ≤ 8) (hm : 0 ≤ (X 81 4).toInt ∧ (X 81 4).toInt ≤ 4) (h9 : ∀ j, j < 4 → 0 ≤ (X 96 j).toInt) (t : Int32) (h4 : t.toInt ≤ 4) : fR X (lr_161_2 1 (lr_181_7 t (lr_160_2 X))) := by
  have a : fR X (lr_160_2 X) := ⟨fun c hc => by funext j; exact fw_160 hc, fun j hj => by rw [lt_eq, if_neg (by omega)]⟩
  have b : fR (lr_160_2 X) (lr_181_7 t (lr_160_2 X)) := dw_181 (by rw [a.1 81 (by decide)]; exact hl) (fun j hj => by rw [a.1 96 (by decide)]; exact h9 j hj) t h4
  have c : fR X (lr_181_7 t (lr_160_2 X)) := fR_t a (fun c hc => b.1 c hc) (fun j hj => b.2 j hj)
  rw [yr_1]
  exact fR_t c (fun c hc => by funext j; exact fw_150 hc) (fun j hj => pf_150 tr_bt (by rw [c.1 81 (by decide)]; exact hl.2) (by rw [c.1 81 (by decide)]; exact hm.2) (Or.inl (by omega)))
end FD
def DI (R M : fl_M) (T : Int) : Prop := fD R M ∧ (∀ j, j < 4 → 0 ≤ (M 96 j).toInt ∧ (M 96 j).toInt ≤ 9) ∧ ∀ j : Nat, (j : Int) < T → (M 96 j).toInt ≤ 8
theorem m_182_e (t : Int32) (M : fl_M) : ∃ v, m_182 t M = fl_u (fl_u M 96 t.toNatClampNeg 0) 97 t.toNatClampNeg v := by
  unfold m_182
  split
  · exact ⟨_, rfl⟩
  · exact ⟨_, rfl⟩
theorem dw_u96 {M Z : fl_M} {k i : Nat} {x v : Int32} (e : Z 96 = M 96) : ∀ j, j < 4 → ((fl_u (fl_u Z 97 i v) 96 k x) 96 j).toInt = if j = k then x.toInt else (M 96 j).toInt := by
  intro j _
  by_cases h : j = k
  · rw [h, fl_us, if_pos rfl]
  · rw [fl_uo (Or.inr h), fl_un (by decide), e, if_neg h]
set_option maxRecDepth 30000 in
theorem ts_180_0 {r : fl_Q} (a b n : Int32) (M : fl_M) (J : fl_J) (q1 : ((¬ (a < 0)) ∧ (¬ ((M 81 1) - 1 < a))) → ((¬ (b < 0)) ∧ (¬ ((M 81 1) - 1 < b))) → (a = b) → (some (.int (-1)), M, J) = r) (q2 : ((¬ (a < 0)) ∧ (¬ ((M 81 1) - 1 < a))) → ((¬ (b < 0)) ∧ (¬ ((M 81 1) - 1 < b))) → (¬ (a = b)) → ((¬ (n < 0)) ∧ (¬ (2 < n))) → (0 < (2 * n)) → fl_dn fB180 (66, [.ref 81, .int a, .int b, .int n, .int (2 * n), .int 0, .null], [], (m_182 0 (fl_u (lr_161_2 1 (lr_181_7 0 (lr_160_2 M))) 97 4 (v_181 a b 0 M))), J) r) (q3 : ((¬ (a < 0)) ∧ (¬ ((M 81 1) - 1 < a))) → ((¬ (b < 0)) ∧ (¬ ((M 81 1) - 1 < b))) → (¬ (a = b)) → ((¬ (n < 0)) ∧ (¬ (2 < n))) → (¬ (0 < (2 * n))) → fl_dn fB180 (66, [.ref 81, .int a, .int b, .int n, .int (2 * n), .int 0, .null], [], (fl_u (lr_161_2 1 (lr_181_7 0 (lr_160_2 M))) 97 4 (v_181 a b 0 M)), J) r) (q4 : ((¬ (a < 0)) ∧ (¬ ((M 81 1) - 1 < a))) → ((¬ (b < 0)) ∧ (¬ ((M 81 1) - 1 < b))) → (¬ (a = b)) → (¬ ((¬ (n < 0)) ∧ (¬ (2 < n)))) → (some (.int (-1)), M, J) = r) (q5 : ((¬ (a < 0)) ∧ (¬ ((M 81 1) - 1 < a))) → (¬ ((¬ (b < 0)) ∧ (¬ ((M 81 1) - 1 < b)))) → (some (.int (-1)), M, J) = r) (q6 : (¬ ((¬ (a < 0)) ∧ (¬ ((M 81 1) - 1 < a)))) → (some (.int (-1)), M, J) = r) : fl_dn fB180 (0, [.ref 81, .int a, .int b, .int n, .null, .null, .null], [], M, J) r :=
 fl_td (s' := (2, [.ref 81, .int a, .int b, .int n, .null, .null, .null], [.int a, .ref 81], M, J)) (fl_n 2 rfl) <|
 fl_td (s' := (5, [.ref 81, .int a, .int b, .int n, .null, .null, .null], [.int (if (¬ (a < 0)) ∧ (¬ ((M 81 1) - 1 < a)) then 1 else 0)], M, J)) (fl_cv (o := some (.int (if (¬ (a < 0)) ∧ (¬ ((M 81 1) - 1 < a)) then 1 else 0))) rfl rfl rfl rfl (cc_131 M J a) rfl) <|
 fl_dnot (fl_if (t := 33) rfl rfl) fl_b0 (fun h1 =>
  fl_td (s' := (10, [.ref 81, .int a, .int b, .int n, .null, .null, .null], [.int b, .ref 81], M, J)) (fl_n 2 rfl) <|
  fl_td (s' := (13, [.ref 81, .int a, .int b, .int n, .null, .null, .null], [.int (if (¬ (b < 0)) ∧ (¬ ((M 81 1) - 1 < b)) then 1 else 0)], M, J)) (fl_cv (o := some (.int (if (¬ (b < 0)) ∧ (¬ ((M 81 1) - 1 < b)) then 1 else 0))) rfl rfl rfl rfl (cc_131 M J b) rfl) <|
  fl_dnot (fl_if (t := 33) rfl rfl) fl_b0 (fun h2 =>
   fl_td (s' := (18, [.ref 81, .int a, .int b, .int n, .null, .null, .null], [.int b, .int a], M, J)) (fl_n 2 rfl) <|
   fl_dtwo (fl_ic (t := 33) rfl rfl) fl_qeq (fun h3 =>
    fl_td (s' := (34, [.ref 81, .int a, .int b, .int n, .null, .null, .null], [.int (-1)], M, J)) (fl_n 1 rfl) <|
    fl_rt rfl (fun _ => rfl) (q1 h1 h2 h3)) (fun h3 =>
    fl_td (s' := (27, [.ref 81, .int a, .int b, .int n, .null, .null, .null], [.long 2, .long 0, .long n.toInt64], M, J)) (fl_n 4 rfl) <|
    fl_td (s' := (30, [.ref 81, .int a, .int b, .int n, .null, .null, .null], [.int (if (¬ (n < 0)) ∧ (¬ (2 < n)) then 1 else 0)], M, J)) (fl_cs (o := some (.int (if (¬ (n < 0)) ∧ (¬ (2 < n)) then 1 else 0))) rfl rfl rfl (cc_105i M J n 0 2) rfl) <|
    fl_dtwo (fl_if (t := 35) rfl rfl) fl_b1 (fun h4 =>
     fl_td (s' := (52, [.ref 81, .int a, .int b, .int n, .int (2 * n), .int 0, .null], [.int 0, .int b, .int a, .ref 81, .int 4, .ref 97], M, J)) (fl_n 13 rfl) <|
     fl_td (s' := (55, [.ref 81, .int a, .int b, .int n, .int (2 * n), .int 0, .null], [.int (v_181 a b 0 M), .int 4, .ref 97], (lr_161_2 1 (lr_181_7 0 (lr_160_2 M))), J)) (fl_cv (o := some (.int (v_181 a b 0 M))) rfl rfl rfl rfl (cc_181 M J a b 0) rfl) <|
     fx_gen (p := fun (MM214 : fl_M) => fl_dn fB180 (55, [.ref 81, .int a, .int b, .int n, .int (2 * n), .int 0, .null], [.int (v_181 a b 0 M), .int 4, .ref 97], MM214, J) r) (lr_161_2 1 (lr_181_7 0 (lr_160_2 M))) (fun MM214 eMM214 =>
      fl_td (s' := (58, [.ref 81, .int a, .int b, .int n, .int (2 * n), .int 0, .null], [.int (2 * n)], (fl_u MM214 97 4 (v_181 a b 0 M)), J)) (fl_n 2 rfl) <|
      fl_dnot (fl_if (t := 66) rfl rfl) fl_qle (fun h6 =>
       fl_td (s' := (63, [.ref 81, .int a, .int b, .int n, .int (2 * n), .int 0, .null], [.int 0, .ref 81], (fl_u MM214 97 4 (v_181 a b 0 M)), J)) (fl_n 2 rfl) <|
       fl_td (s' := (66, [.ref 81, .int a, .int b, .int n, .int (2 * n), .int 0, .null], [], (m_182 0 (fl_u MM214 97 4 (v_181 a b 0 M))), J)) (fl_cv (o := none) rfl rfl rfl rfl (cc_182 (fl_u MM214 97 4 (v_181 a b 0 M)) J 0) rfl) <|
       fx_gen (p := fun (MM215 : fl_M) => fl_dn fB180 (66, [.ref 81, .int a, .int b, .int n, .int (2 * n), .int 0, .null], [], MM215, J) r) (m_182 0 (fl_u MM214 97 4 (v_181 a b 0 M))) (fun MM215 eMM215 =>
        (by subst eMM214; subst eMM215; exact (q2 h1 h2 h3 h4 h6)))) (fun h6 =>
       (by subst eMM214; exact (q3 h1 h2 h3 h4 h6))))) (fun h4 =>
     fl_td (s' := (34, [.ref 81, .int a, .int b, .int n, .null, .null, .null], [.int (-1)], M, J)) (fl_n 1 rfl) <|
     fl_rt rfl (fun _ => rfl) (q4 h1 h2 h3 h4)))) (fun h2 =>
   fl_td (s' := (34, [.ref 81, .int a, .int b, .int n, .null, .null, .null], [.int (-1)], M, J)) (fl_n 1 rfl) <|
   fl_rt rfl (fun _ => rfl) (q5 h1 h2))) (fun h1 =>
  fl_td (s' := (34, [.ref 81, .int a, .int b, .int n, .null, .null, .null], [.int (-1)], M, J)) (fl_n 1 rfl) <|
  fl_rt rfl (fun _ => rfl) (q6 h1))
