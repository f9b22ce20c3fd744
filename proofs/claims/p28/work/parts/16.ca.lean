/-! Loops as they are: turns counted, perhaps left early. -/
def fx_it {α : Type} (f : Nat → α → α) : Nat → α → α
  | 0, a => a
  | n + 1, a => f n (fx_it f n a)
def fx_ix {α γ : Type} (f : Nat → α → γ ⊕ α) : Nat → α → γ ⊕ α
  | 0, a => .inr a
  | n + 1, a => match fx_ix f n a with
    | .inl c => .inl c
    | .inr b => f n b
theorem fx_it_s {α : Type} (f : Nat → α → α) (n : Nat) (a : α) : fx_it f (n + 1) a = f n (fx_it f n a) := rfl
/-- a memory under a name -/
theorem fx_gen {α : Type} {p : α → Prop} (X : α) (h : ∀ Y, X = Y → p Y) : p X := h X rfl
def fx_ib {α : Type} (x : α ⊕ α) : α := match x with
  | .inl b => b
  | .inr a => a
theorem ix_s {α γ : Type} {f : Nat → α → γ ⊕ α} {m : Nat} {a b : α} (h : fx_ix f (m + 1) a = .inr b) : ∃ q, fx_ix f m a = .inr q ∧ f m q = .inr b := by
  unfold fx_ix at h
  split at h
  · cases h
  · rename_i q hq
    exact ⟨q, hq, h⟩
theorem ix_s1 {α γ : Type} {f : Nat → α → γ ⊕ α} {m : Nat} {a b : α} {v : γ ⊕ α} (h : fx_ix f m a = .inr b) (e : f m b = v) : fx_ix f (m + 1) a = v := by
  unfold fx_ix
  rw [h]
  exact e
theorem ix_l {α γ : Type} {f : Nat → α → γ ⊕ α} {m n : Nat} {a : α} {c : γ} (h : fx_ix f m a = .inl c) (hm : m ≤ n) : fx_ix f n a = .inl c := by
  induction hm with
  | refl => exact h
  | step _ ih =>
    unfold fx_ix
    rw [ih]
theorem it_k {α : Type} {f : Nat → α → α} {n : Nat} {a : α} (P : α → Prop) (h0 : P a) (h : ∀ m q, P q → P (f m q)) : P (fx_it f n a) := by
  induction n with
  | zero => exact h0
  | succ n ih => exact h n _ ih
/-- of both ways out of a loop -/
def fx_pq {α γ : Type} (P : α → Prop) (Q : γ → Prop) (x : γ ⊕ α) : Prop := match x with
  | .inl c => Q c
  | .inr b => P b
theorem ix_k {α γ : Type} {f : Nat → α → γ ⊕ α} {n : Nat} {a : α} (P : α → Prop) (Q : γ → Prop) (h0 : P a) (h : ∀ m q, P q → fx_pq P Q (f m q)) : fx_pq P Q (fx_ix f n a) := by
  induction n with
  | zero => exact h0
  | succ n ih =>
    unfold fx_ix
    cases e : fx_ix f n a with
    | inl c => rw [e] at ih; exact ih
    | inr b => rw [e] at ih; exact h n b ih
/-- two loops side by side -/
theorem it_r {α β : Type} {f : Nat → α → α} {g : Nat → β → β} {n : Nat} {a : α} {b : β} (R : Nat → α → β → Prop) (h0 : R 0 a b) (h : ∀ m a b, m < n → R m a b → R (m + 1) (f m a) (g m b)) : R n (fx_it f n a) (fx_it g n b) := by
  induction n with
  | zero => exact h0
  | succ n ih => exact h n _ _ (Nat.lt_succ_self n) (ih (fun m a b hm => h m a b (Nat.lt_succ_of_lt hm)))
theorem it_p {α : Type} {f : Nat → α → α} {n : Nat} {a : α} (R : Nat → α → Prop) (h0 : R 0 a) (h : ∀ m a, m < n → R m a → R (m + 1) (f m a)) : R n (fx_it f n a) := by
  induction n with
  | zero => exact h0
  | succ n ih => exact h n _ (Nat.lt_succ_self n) (ih (fun m a hm => h m a (Nat.lt_succ_of_lt hm)))
theorem it_c {α : Type} {f g : Nat → α → α} {n : Nat} {a b : α} (e : a = b) (h : ∀ m q, m < n → f m q = g m q) : fx_it f n a = fx_it g n b := by
  subst e
  exact it_r (fun _ x y => x = y) rfl (fun m x y hm e => by rw [e]; exact h m y hm)
theorem fi_gt {m : Nat} {n : Int32} (hn : 0 ≤ n.toInt) (h : m < 2147483648) : n < Int32.ofNat m ↔ n.toNatClampNeg < m := by
  rw [Int32.lt_iff_toInt_lt, fi_ti h, fi_cl]
  omega
theorem fi_dt {i : Int32} {m : Nat} (h0 : -1 ≤ i.toInt ∧ i.toInt < 2147483647) (hm : (m : Int) ≤ i.toInt + 1) : (i - Int32.ofNat m).toInt = i.toInt - m := by
  have h1 := i.toInt_lt
  have e := fi_ti (m := m) (by omega)
  rw [fi_sub (by omega) (by omega), e]
theorem fi_dl {i : Int32} {m : Nat} (h0 : -1 ≤ i.toInt ∧ i.toInt < 2147483647) (hm : (m : Int) ≤ i.toInt + 1) (h : i - Int32.ofNat m < 0) : i.toInt < m := by
  have h := fi_l.mp h
  rw [fi_dt h0 hm, fi_i0] at h
  omega
theorem fi_dg {i : Int32} {m : Nat} (h0 : -1 ≤ i.toInt ∧ i.toInt < 2147483647) (hm : (m : Int) = i.toInt + 1) : i - Int32.ofNat m < 0 := by
  rw [fi_l, fi_dt h0 (by omega), fi_i0]
  omega
theorem fi_dns (i : Int32) (m : Nat) : i - Int32.ofNat m + (-1) = i - Int32.ofNat (m + 1) := by
  rw [← Int32.sub_eq_add_neg, Int32.sub_sub, fi_s]
theorem fi_dn0 (i : Int32) : i - Int32.ofNat 0 = i := by
  rw [show Int32.ofNat 0 = 0 from rfl, Int32.sub_zero]
theorem ib_k {α : Type} {f : Nat → α → α ⊕ α} {n : Nat} {a : α} (P : α → Prop) (h0 : P a) (h : ∀ m q c, P q → f m q = .inl c ∨ f m q = .inr c → P c) : P (fx_ib (fx_ix f n a)) := by
  have key := ix_k (f := f) (n := n) (a := a) P P h0 (fun m q hq => by
    cases e : f m q with
    | inl c => exact h m q c hq (Or.inl e)
    | inr c => exact h m q c hq (Or.inr e))
  unfold fx_ib
  cases e : fx_ix f n a with
  | inl c => rw [e] at key; exact key
  | inr c => rw [e] at key; exact key
def fB53 : sm_P := (fun pc => sm_ch sm_t53 pc, sm_Kn 2 1 none, fun x => sm_lk sm_ca2 x, some .boolean)
theorem cc_53 (M : fl_M) (J : fl_J) (k : Int32) : fl_C 53 [.int k] M J (some (.int (if (k < 0) ∨ (¬ (k < 3)) then 1 else 0)), M, J) :=
 fl_Co (B := fB53) rfl rfl <|
 fl_td (s' := (1, [.int k], [.int k], M, J)) (fl_n 1 rfl) <|
 fl_dtwo (fl_if (t := 9) rfl rfl) fl_cT (fun h1 =>
  fl_td (s' := (14, [.int k], [.int 1], M, J)) (fl_n 2 rfl) <|
  fl_rt rfl (fun _ => rfl) (by first | (simp [h1]; done) | (simp_all; done))) (fun h1 =>
  fl_td (s' := (6, [.int k], [.int 3, .int k], M, J)) (fl_n 2 rfl) <|
  fl_dtwo (fl_ic (t := 13) rfl rfl) fl_cT (fun h2 =>
   fl_td (s' := (14, [.int k], [.int 0], M, J)) (fl_n 1 rfl) <|
   fl_rt rfl (fun _ => rfl) (by first | (simp [h1, h2]; done) | (simp_all; done))) (fun h2 =>
   fl_td (s' := (14, [.int k], [.int 1], M, J)) (fl_n 2 rfl) <|
   fl_rt rfl (fun _ => rfl) (by first | (simp [h1, h2]; done) | (simp_all; done))))
def fB31 : sm_P := (fun pc => sm_ch sm_t31 pc, sm_Kn 2 4 none, fun x => sm_lk sm_ca2 x, some .int)
def v_31 (kind w ch far : Int32) : Int32 := (if kind = 1 then w + ch else (if kind = 2 then (if 3 < w then (w + ch) - far else (0 + ch) - far) else (if kind = 3 then (w + ch) - far else (if kind = 4 then (if 3 < w then (w + ch) - far else (0 + ch) - far) else (if kind = 5 then (w + (2 * ch)) - far else (w + ch) - far)))))
theorem cc_31 (M : fl_M) (J : fl_J) (kind w ch far : Int32) : fl_C 31 [.int kind, .int w, .int ch, .int far] M J (some (.int (v_31 kind w ch far)), M, J) :=
 fl_Co (B := fB31) rfl rfl <|
 fl_td (s' := (1, [.int kind, .int w, .int ch, .int far], [.int kind], M, J)) (fl_n 1 rfl) <|
 fl_dc (c := kind = 1) (fun h1 =>
  fl_td (s' := (36, [.int kind, .int w, .int ch, .int far], [], M, J)) (fl_sw h1 rfl) <|
  fl_td (s' := (39, [.int kind, .int w, .int ch, .int far], [.int (w + ch)], M, J)) (fl_n 3 rfl) <|
  fl_rt rfl (fun _ => rfl) (by unfold v_31; first | (simp only [if_pos h1]; done) | rfl)) (fun h1 =>
  fl_dc (c := kind = 2) (fun h2 =>
   fl_td (s' := (40, [.int kind, .int w, .int ch, .int far], [], M, J)) (fl_sw h2 rfl) <|
   fl_td (s' := (42, [.int kind, .int w, .int ch, .int far], [.int 3, .int w], M, J)) (fl_n 2 rfl) <|
   fl_dtwo (fl_ic (t := 49) rfl rfl) fl_cT (fun h3 =>
    fl_td (s' := (54, [.int kind, .int w, .int ch, .int far], [.int ((w + ch) - far)], M, J)) (fl_n 5 rfl) <|
    fl_rt rfl (fun _ => rfl) (by unfold v_31; first | (simp only [if_neg h1, if_pos h2, if_pos h3]; done) | rfl)) (fun h3 =>
    fl_td (s' := (54, [.int kind, .int w, .int ch, .int far], [.int ((0 + ch) - far)], M, J)) (fl_n 6 rfl) <|
    fl_rt rfl (fun _ => rfl) (by unfold v_31; first | (simp only [if_neg h1, if_pos h2, if_neg h3]; done) | rfl))) (fun h2 =>
   fl_dc (c := kind = 3) (fun h4 =>
    fl_td (s' := (63, [.int kind, .int w, .int ch, .int far], [], M, J)) (fl_sw h4 rfl) <|
    fl_td (s' := (68, [.int kind, .int w, .int ch, .int far], [.int ((w + ch) - far)], M, J)) (fl_n 5 rfl) <|
    fl_rt rfl (fun _ => rfl) (by unfold v_31; first | (simp only [if_neg h1, if_neg h2, if_pos h4]; done) | rfl)) (fun h4 =>
    fl_dc (c := kind = 4) (fun h5 =>
     fl_td (s' := (40, [.int kind, .int w, .int ch, .int far], [], M, J)) (fl_sw h5 rfl) <|
     fl_td (s' := (42, [.int kind, .int w, .int ch, .int far], [.int 3, .int w], M, J)) (fl_n 2 rfl) <|
     fl_dtwo (fl_ic (t := 49) rfl rfl) fl_cT (fun h6 =>
      fl_td (s' := (54, [.int kind, .int w, .int ch, .int far], [.int ((w + ch) - far)], M, J)) (fl_n 5 rfl) <|
      fl_rt rfl (fun _ => rfl) (by unfold v_31; first | (simp only [if_neg h1, if_neg h2, if_neg h4, if_pos h5, if_pos h6]; done) | rfl)) (fun h6 =>
      fl_td (s' := (54, [.int kind, .int w, .int ch, .int far], [.int ((0 + ch) - far)], M, J)) (fl_n 6 rfl) <|
      fl_rt rfl (fun _ => rfl) (by unfold v_31; first | (simp only [if_neg h1, if_neg h2, if_neg h4, if_pos h5, if_neg h6]; done) | rfl))) (fun h5 =>
     fl_dc (c := kind = 5) (fun h7 =>
      fl_td (s' := (55, [.int kind, .int w, .int ch, .int far], [], M, J)) (fl_sw h7 rfl) <|
      fl_td (s' := (62, [.int kind, .int w, .int ch, .int far], [.int ((w + (2 * ch)) - far)], M, J)) (fl_n 7 rfl) <|
      fl_rt rfl (fun _ => rfl) (by unfold v_31; first | (simp only [if_neg h1, if_neg h2, if_neg h4, if_neg h5, if_pos h7]; done) | rfl)) (fun h7 =>
      fl_td (s' := (63, [.int kind, .int w, .int ch, .int far], [], M, J)) (fl_swd rfl rfl (by have e0 := fl_ne 1 rfl h1; have e1 := fl_ne 2 rfl h2; have e2 := fl_ne 3 rfl h4; have e3 := fl_ne 4 rfl h5; have e4 := fl_ne 5 rfl h7; omega)) <|
      fl_td (s' := (68, [.int kind, .int w, .int ch, .int far], [.int ((w + ch) - far)], M, J)) (fl_n 5 rfl) <|
      fl_rt rfl (fun _ => rfl) (by unfold v_31; first | (simp only [if_neg h1, if_neg h2, if_neg h4, if_neg h5, if_neg h7]; done) | rfl))))))
def fB35 : sm_P := (fun pc => sm_ch sm_t35 pc, sm_Kn 2 2 none, fun x => sm_lk sm_ca2 x, some .int)
def v_35 (kind te : Int32) : Int32 := (if kind = 3 then 2 * te else (if kind = 4 then (te / 2) + 1 else (if kind = 5 then 2 * te else te)))
theorem cc_35 (M : fl_M) (J : fl_J) (kind te : Int32) : fl_C 35 [.int kind, .int te] M J (some (.int (v_35 kind te)), M, J) :=
 fl_Co (B := fB35) rfl rfl <|
 fl_td (s' := (1, [.int kind, .int te], [.int kind], M, J)) (fl_n 1 rfl) <|
 fl_dc (c := kind = 3) (fun h1 =>
  fl_td (s' := (28, [.int kind, .int te], [], M, J)) (fl_sw h1 rfl) <|
  fl_td (s' := (31, [.int kind, .int te], [.int (2 * te)], M, J)) (fl_n 3 rfl) <|
  fl_rt rfl (fun _ => rfl) (by unfold v_35; first | (simp only [if_pos h1]; done) | rfl)) (fun h1 =>
  fl_dc (c := kind = 4) (fun h2 =>
   fl_td (s' := (32, [.int kind, .int te], [], M, J)) (fl_sw h2 rfl) <|
   fl_td (s' := (37, [.int kind, .int te], [.int ((te / 2) + 1)], M, J)) (fl_n 5 rfl) <|
   fl_rt rfl (fun _ => rfl) (by unfold v_35; first | (simp only [if_neg h1, if_pos h2]; done) | rfl)) (fun h2 =>
   fl_dc (c := kind = 5) (fun h3 =>
    fl_td (s' := (28, [.int kind, .int te], [], M, J)) (fl_sw h3 rfl) <|
    fl_td (s' := (31, [.int kind, .int te], [.int (2 * te)], M, J)) (fl_n 3 rfl) <|
    fl_rt rfl (fun _ => rfl) (by unfold v_35; first | (simp only [if_neg h1, if_neg h2, if_pos h3]; done) | rfl)) (fun h3 =>
    fl_td (s' := (38, [.int kind, .int te], [], M, J)) (fl_swd rfl rfl (by have e0 := fl_ne 3 rfl h1; have e1 := fl_ne 4 rfl h2; have e2 := fl_ne 5 rfl h3; omega)) <|
    fl_td (s' := (39, [.int kind, .int te], [.int te], M, J)) (fl_n 1 rfl) <|
    fl_rt rfl (fun _ => rfl) (by unfold v_35; first | (simp only [if_neg h1, if_neg h2, if_neg h3]; done) | rfl))))
def fB37 : sm_P := (fun pc => sm_ch sm_t37 pc, sm_Kn 2 2 none, fun x => sm_lk sm_ca2 x, some .boolean)
theorem cc_37 (M : fl_M) (J : fl_J) (kind wa : Int32) : fl_C 37 [.int kind, .int wa] M J (some (.int (if (wa = 0) ∨ ((kind = wa) ∨ (((kind = 4) ∧ ((wa = 2) ∨ ((kind = 5) ∧ (wa = 3)))) ∨ ((¬ (kind = 4)) ∧ ((kind = 5) ∧ (wa = 3))))) then 1 else 0)), M, J) :=
 fl_Co (B := fB37) rfl rfl <|
 fl_td (s' := (1, [.int kind, .int wa], [.int wa], M, J)) (fl_n 1 rfl) <|
 fl_dtwo (fl_if (t := 29) rfl rfl) fl_cT (fun h1 =>
  fl_td (s' := (34, [.int kind, .int wa], [.int 1], M, J)) (fl_n 2 rfl) <|
  fl_rt rfl (fun _ => rfl) (by first | (simp [h1]; done) | (simp_all; done))) (fun h1 =>
  fl_td (s' := (6, [.int kind, .int wa], [.int wa, .int kind], M, J)) (fl_n 2 rfl) <|
  fl_dtwo (fl_ic (t := 29) rfl rfl) fl_cT (fun h2 =>
   fl_td (s' := (34, [.int kind, .int wa], [.int 1], M, J)) (fl_n 2 rfl) <|
   fl_rt rfl (fun _ => rfl) (by first | (simp [h1, h2]; done) | (simp_all; done))) (fun h2 =>
   fl_td (s' := (11, [.int kind, .int wa], [.int 4, .int kind], M, J)) (fl_n 2 rfl) <|
   fl_dnot (fl_ic (t := 19) rfl rfl) fl_cF (fun h3 =>
    fl_td (s' := (16, [.int kind, .int wa], [.int 2, .int wa], M, J)) (fl_n 2 rfl) <|
    fl_dtwo (fl_ic (t := 29) rfl rfl) fl_cT (fun h4 =>
     fl_td (s' := (34, [.int kind, .int wa], [.int 1], M, J)) (fl_n 2 rfl) <|
     fl_rt rfl (fun _ => rfl) (by first | (simp [h1, h2, h3, h4]; done) | (simp_all; done))) (fun h4 =>
     fl_td (s' := (21, [.int kind, .int wa], [.int 5, .int kind], M, J)) (fl_n 2 rfl) <|
     fl_dnot (fl_ic (t := 33) rfl rfl) fl_cF (fun h5 =>
      fl_td (s' := (26, [.int kind, .int wa], [.int 3, .int wa], M, J)) (fl_n 2 rfl) <|
      fl_dnot (fl_ic (t := 33) rfl rfl) fl_cF (fun h6 =>
       fl_td (s' := (34, [.int kind, .int wa], [.int 1], M, J)) (fl_n 2 rfl) <|
       fl_rt rfl (fun _ => rfl) (by first | (simp [h1, h2, h3, h4, h5, h6]; done) | (simp_all; done))) (fun h6 =>
       fl_td (s' := (34, [.int kind, .int wa], [.int 0], M, J)) (fl_n 1 rfl) <|
       fl_rt rfl (fun _ => rfl) (by first | (simp [h1, h2, h3, h4, h5, h6]; done) | (simp_all; done)))) (fun h5 =>
      fl_td (s' := (34, [.int kind, .int wa], [.int 0], M, J)) (fl_n 1 rfl) <|
      fl_rt rfl (fun _ => rfl) (by first | (simp [h1, h2, h3, h4, h5]; done) | (simp_all; done))))) (fun h3 =>
    fl_td (s' := (21, [.int kind, .int wa], [.int 5, .int kind], M, J)) (fl_n 2 rfl) <|
    fl_dnot (fl_ic (t := 33) rfl rfl) fl_cF (fun h7 =>
     fl_td (s' := (26, [.int kind, .int wa], [.int 3, .int wa], M, J)) (fl_n 2 rfl) <|
     fl_dnot (fl_ic (t := 33) rfl rfl) fl_cF (fun h8 =>
      fl_td (s' := (34, [.int kind, .int wa], [.int 1], M, J)) (fl_n 2 rfl) <|
      fl_rt rfl (fun _ => rfl) (by first | (simp [h1, h2, h3, h7, h8]; done) | (simp_all; done))) (fun h8 =>
      fl_td (s' := (34, [.int kind, .int wa], [.int 0], M, J)) (fl_n 1 rfl) <|
      fl_rt rfl (fun _ => rfl) (by first | (simp [h1, h2, h3, h7, h8]; done) | (simp_all; done)))) (fun h7 =>
     fl_td (s' := (34, [.int kind, .int wa], [.int 0], M, J)) (fl_n 1 rfl) <|
     fl_rt rfl (fun _ => rfl) (by first | (simp [h1, h2, h3, h7]; done) | (simp_all; done))))))
def fB29 : sm_P := (fun pc => sm_ch sm_t29 pc, sm_Kn 1 2 none, fun x => sm_lk sm_ca1 x, some .boolean)
theorem cc_29 (M : fl_M) (J : fl_J) (l : Int32) (T : Nat) : fl_C 29 [.ref T, .int l] M J (some (.int (if (0 < (M (T + 3) l.toNatClampNeg)) ∧ (((((M T 4) >>> (l &&& 31)) &&& 1) = 0) ∧ (¬ ((M T 3) = l))) then 1 else 0)), M, J) :=
 fl_Co (B := fB29) rfl rfl <|
 fl_td (s' := (6, [.ref T, .int l], [.int (M (T + 3) l.toNatClampNeg)], M, J)) (fl_n 4 rfl) <|
 fl_dnot (fl_if (t := 32) rfl rfl) fl_nle (fun h1 =>
  fl_td (s' := (17, [.ref T, .int l], [.int (((M T 4) >>> (l &&& 31)) &&& 1)], M, J)) (fl_n 6 rfl) <|
  fl_dnot (fl_if (t := 32) rfl rfl) fl_cF (fun h2 =>
   fl_td (s' := (25, [.ref T, .int l], [.int l, .int (M T 3)], M, J)) (fl_n 3 rfl) <|
   fl_dtwo (fl_ic (t := 32) rfl rfl) fl_cT (fun h3 =>
    fl_td (s' := (33, [.ref T, .int l], [.int 0], M, J)) (fl_n 1 rfl) <|
    fl_rt rfl (fun _ => rfl) (by first | (simp [h1, h2, h3]; done) | (simp_all; done))) (fun h3 =>
    fl_td (s' := (33, [.ref T, .int l], [.int 1], M, J)) (fl_n 2 rfl) <|
    fl_rt rfl (fun _ => rfl) (by first | (simp [h1, h2, h3]; done) | (simp_all; done)))) (fun h2 =>
   fl_td (s' := (33, [.ref T, .int l], [.int 0], M, J)) (fl_n 1 rfl) <|
   fl_rt rfl (fun _ => rfl) (by first | (simp [h1, h2]; done) | (simp_all; done)))) (fun h1 =>
  fl_td (s' := (33, [.ref T, .int l], [.int 0], M, J)) (fl_n 1 rfl) <|
  fl_rt rfl (fun _ => rfl) (by first | (simp [h1]; done) | (simp_all; done)))
def fB30 : sm_P := (fun pc => sm_ch sm_t30 pc, sm_Kn 1 3 none, fun x => sm_lk sm_ca1 x, some .int)
def v_30 (i l : Int32) (T : Nat) (M : fl_M) : Int32 := if 0 ≤ (M (T + 8) i.toNatClampNeg) - l then (M (T + 8) i.toNatClampNeg) - l else 0 - ((M (T + 8) i.toNatClampNeg) - l)
theorem cc_30 (M : fl_M) (J : fl_J) (i l : Int32) (T : Nat) : fl_C 30 [.ref T, .int i, .int l] M J (some (.int (v_30 i l T M)), M, J) :=
 fl_Co (B := fB30) rfl rfl <|
 fl_td (s' := (11, [.ref T, .int i, .int l], [.int (if 0 ≤ (M (T + 8) i.toNatClampNeg) - l then (M (T + 8) i.toNatClampNeg) - l else 0 - ((M (T + 8) i.toNatClampNeg) - l))], M, J)) (fl_n 7 rfl) <|
 fl_rt rfl (fun _ => rfl) rfl
def fB28 : sm_P := (fun pc => sm_ch sm_t28 pc, sm_Kn 1 8 none, fun x => sm_lk sm_ca1 x, some .int)
-- MiceRegisters$Register.lineWantedBy 11
def ls_28_11 (i1 : Int32) (r0 : Nat) (M : fl_M) (m : Nat) (q : (Int32 × Int32 × Int32)) : (Int32 × Int32 × Int32) := (if (0 < (M (r0 + 3) (Int32.ofNat m).toNatClampNeg)) ∧ (((((M r0 4) >>> ((Int32.ofNat m) &&& 31)) &&& 1) = 0) ∧ (¬ ((M r0 3) = (Int32.ofNat m)))) then (if q.2.1 < (v_31 (M (r0 + 5) i1.toNatClampNeg) (M (r0 + 1) (Int32.ofNat m).toNatClampNeg) (M (r0 + 4) (Int32.ofNat m).toNatClampNeg) (v_30 i1 (Int32.ofNat m) r0 M)) then ((Int32.ofNat m), (v_31 (M (r0 + 5) i1.toNatClampNeg) (M (r0 + 1) (Int32.ofNat m).toNatClampNeg) (M (r0 + 4) (Int32.ofNat m).toNatClampNeg) (v_30 i1 (Int32.ofNat m) r0 M)), (v_30 i1 (Int32.ofNat m) r0 M)) else (if (v_31 (M (r0 + 5) i1.toNatClampNeg) (M (r0 + 1) (Int32.ofNat m).toNatClampNeg) (M (r0 + 4) (Int32.ofNat m).toNatClampNeg) (v_30 i1 (Int32.ofNat m) r0 M)) = q.2.1 then (if q.1 = (-9) then (q.1, q.2.1, q.2.2) else (if (v_30 i1 (Int32.ofNat m) r0 M) < q.2.2 then ((Int32.ofNat m), (v_31 (M (r0 + 5) i1.toNatClampNeg) (M (r0 + 1) (Int32.ofNat m).toNatClampNeg) (M (r0 + 4) (Int32.ofNat m).toNatClampNeg) (v_30 i1 (Int32.ofNat m) r0 M)), (v_30 i1 (Int32.ofNat m) r0 M)) else (q.1, q.2.1, q.2.2))) else (q.1, q.2.1, q.2.2))) else (q.1, q.2.1, q.2.2))
def lq_28_11 (i1 i2 i3 i4 : Int32) (r0 : Nat) (M : fl_M) (m : Nat) : (Int32 × Int32 × Int32) := fx_it (ls_28_11 i1 r0 M) m (i2, i3, i4)
theorem lqs_28_11 (i1 i2 i3 i4 : Int32) (r0 : Nat) (M : fl_M) (m : Nat) : lq_28_11 i1 i2 i3 i4 r0 M (m + 1) = (ls_28_11 i1 r0 M) m (lq_28_11 i1 i2 i3 i4 r0 M m) := by
  unfold lq_28_11
  exact fx_it_s _ _ _
def lr_28_11 (i1 i2 i3 i4 : Int32) (r0 : Nat) (M : fl_M) : (Int32 × Int32 × Int32) := (lq_28_11 i1 i2 i3 i4 r0 M (((M r0 0)).toNatClampNeg))
theorem ts_28_11 {r : fl_Q} (i1 i2 i3 i4 i5 : Int32) (r0 : Nat) (u6 u7 : Value) (M : fl_M) (J : fl_J) (q1 : (i5 < (M r0 0)) → ((0 < (M (r0 + 3) i5.toNatClampNeg)) ∧ (((((M r0 4) >>> (i5 &&& 31)) &&& 1) = 0) ∧ (¬ ((M r0 3) = i5)))) → (i3 < (v_31 (M (r0 + 5) i1.toNatClampNeg) (M (r0 + 1) i5.toNatClampNeg) (M (r0 + 4) i5.toNatClampNeg) (v_30 i1 i5 r0 M))) → fl_dn fB28 (11, [.ref r0, .int i1, .int i5, .int (v_31 (M (r0 + 5) i1.toNatClampNeg) (M (r0 + 1) i5.toNatClampNeg) (M (r0 + 4) i5.toNatClampNeg) (v_30 i1 i5 r0 M)), .int (v_30 i1 i5 r0 M), .int (i5 + 1), .int (v_30 i1 i5 r0 M), .int (v_31 (M (r0 + 5) i1.toNatClampNeg) (M (r0 + 1) i5.toNatClampNeg) (M (r0 + 4) i5.toNatClampNeg) (v_30 i1 i5 r0 M))], [], M, J) r) (q2 : (i5 < (M r0 0)) → ((0 < (M (r0 + 3) i5.toNatClampNeg)) ∧ (((((M r0 4) >>> (i5 &&& 31)) &&& 1) = 0) ∧ (¬ ((M r0 3) = i5)))) → (¬ (i3 < (v_31 (M (r0 + 5) i1.toNatClampNeg) (M (r0 + 1) i5.toNatClampNeg) (M (r0 + 4) i5.toNatClampNeg) (v_30 i1 i5 r0 M)))) → ((v_31 (M (r0 + 5) i1.toNatClampNeg) (M (r0 + 1) i5.toNatClampNeg) (M (r0 + 4) i5.toNatClampNeg) (v_30 i1 i5 r0 M)) = i3) → (i2 = (-9)) → fl_dn fB28 (11, [.ref r0, .int i1, .int i2, .int i3, .int i4, .int (i5 + 1), .int (v_30 i1 i5 r0 M), .int (v_31 (M (r0 + 5) i1.toNatClampNeg) (M (r0 + 1) i5.toNatClampNeg) (M (r0 + 4) i5.toNatClampNeg) (v_30 i1 i5 r0 M))], [], M, J) r) (q3 : (i5 < (M r0 0)) → ((0 < (M (r0 + 3) i5.toNatClampNeg)) ∧ (((((M r0 4) >>> (i5 &&& 31)) &&& 1) = 0) ∧ (¬ ((M r0 3) = i5)))) → (¬ (i3 < (v_31 (M (r0 + 5) i1.toNatClampNeg) (M (r0 + 1) i5.toNatClampNeg) (M (r0 + 4) i5.toNatClampNeg) (v_30 i1 i5 r0 M)))) → ((v_31 (M (r0 + 5) i1.toNatClampNeg) (M (r0 + 1) i5.toNatClampNeg) (M (r0 + 4) i5.toNatClampNeg) (v_30 i1 i5 r0 M)) = i3) → (¬ (i2 = (-9))) → ((v_30 i1 i5 r0 M) < i4) → fl_dn fB28 (11, [.ref r0, .int i1, .int i5, .int (v_31 (M (r0 + 5) i1.toNatClampNeg) (M (r0 + 1) i5.toNatClampNeg) (M (r0 + 4) i5.toNatClampNeg) (v_30 i1 i5 r0 M)), .int (v_30 i1 i5 r0 M), .int (i5 + 1), .int (v_30 i1 i5 r0 M), .int (v_31 (M (r0 + 5) i1.toNatClampNeg) (M (r0 + 1) i5.toNatClampNeg) (M (r0 + 4) i5.toNatClampNeg) (v_30 i1 i5 r0 M))], [], M, J) r) (q4 : (i5 < (M r0 0)) → ((0 < (M (r0 + 3) i5.toNatClampNeg)) ∧ (((((M r0 4) >>> (i5 &&& 31)) &&& 1) = 0) ∧ (¬ ((M r0 3) = i5)))) → (¬ (i3 < (v_31 (M (r0 + 5) i1.toNatClampNeg) (M (r0 + 1) i5.toNatClampNeg) (M (r0 + 4) i5.toNatClampNeg) (v_30 i1 i5 r0 M)))) → ((v_31 (M (r0 + 5) i1.toNatClampNeg) (M (r0 + 1) i5.toNatClampNeg) (M (r0 + 4) i5.toNatClampNeg) (v_30 i1 i5 r0 M)) = i3) → (¬ (i2 = (-9))) → (¬ ((v_30 i1 i5 r0 M) < i4)) → fl_dn fB28 (11, [.ref r0, .int i1, .int i2, .int i3, .int i4, .int (i5 + 1), .int (v_30 i1 i5 r0 M), .int (v_31 (M (r0 + 5) i1.toNatClampNeg) (M (r0 + 1) i5.toNatClampNeg) (M (r0 + 4) i5.toNatClampNeg) (v_30 i1 i5 r0 M))], [], M, J) r) (q5 : (i5 < (M r0 0)) → ((0 < (M (r0 + 3) i5.toNatClampNeg)) ∧ (((((M r0 4) >>> (i5 &&& 31)) &&& 1) = 0) ∧ (¬ ((M r0 3) = i5)))) → (¬ (i3 < (v_31 (M (r0 + 5) i1.toNatClampNeg) (M (r0 + 1) i5.toNatClampNeg) (M (r0 + 4) i5.toNatClampNeg) (v_30 i1 i5 r0 M)))) → (¬ ((v_31 (M (r0 + 5) i1.toNatClampNeg) (M (r0 + 1) i5.toNatClampNeg) (M (r0 + 4) i5.toNatClampNeg) (v_30 i1 i5 r0 M)) = i3)) → fl_dn fB28 (11, [.ref r0, .int i1, .int i2, .int i3, .int i4, .int (i5 + 1), .int (v_30 i1 i5 r0 M), .int (v_31 (M (r0 + 5) i1.toNatClampNeg) (M (r0 + 1) i5.toNatClampNeg) (M (r0 + 4) i5.toNatClampNeg) (v_30 i1 i5 r0 M))], [], M, J) r) (q6 : (i5 < (M r0 0)) → (¬ ((0 < (M (r0 + 3) i5.toNatClampNeg)) ∧ (((((M r0 4) >>> (i5 &&& 31)) &&& 1) = 0) ∧ (¬ ((M r0 3) = i5))))) → fl_dn fB28 (11, [.ref r0, .int i1, .int i2, .int i3, .int i4, .int (i5 + 1), u6, u7], [], M, J) r) (q7 : (¬ (i5 < (M r0 0))) → fl_dn fB28 (106, [.ref r0, .int i1, .int i2, .int i3, .int i4, .int i5, u6, u7], [], M, J) r) : fl_dn fB28 (11, [.ref r0, .int i1, .int i2, .int i3, .int i4, .int i5, u6, u7], [], M, J) r :=
 fl_td (s' := (17, [.ref r0, .int i1, .int i2, .int i3, .int i4, .int i5, u6, u7], [.int (M r0 0), .int i5], M, J)) (fl_n 3 rfl) <|
 fl_dnot (fl_ic (t := 106) rfl rfl) fl_nlt (fun h1 =>
  fl_td (s' := (23, [.ref r0, .int i1, .int i2, .int i3, .int i4, .int i5, u6, u7], [.int i5, .ref r0], M, J)) (fl_n 2 rfl) <|
  fl_td (s' := (26, [.ref r0, .int i1, .int i2, .int i3, .int i4, .int i5, u6, u7], [.int (if (0 < (M (r0 + 3) i5.toNatClampNeg)) ∧ (((((M r0 4) >>> (i5 &&& 31)) &&& 1) = 0) ∧ (¬ ((M r0 3) = i5))) then 1 else 0)], M, J)) (fl_cv (o := some (.int (if (0 < (M (r0 + 3) i5.toNatClampNeg)) ∧ (((((M r0 4) >>> (i5 &&& 31)) &&& 1) = 0) ∧ (¬ ((M r0 3) = i5))) then 1 else 0))) rfl rfl rfl rfl (cc_29 M J i5 r0) rfl) <|
  fl_dnot (fl_if (t := 100) rfl rfl) fl_b0 (fun h2 =>
   fl_td (s' := (33, [.ref r0, .int i1, .int i2, .int i3, .int i4, .int i5, u6, u7], [.int i5, .int i1, .ref r0], M, J)) (fl_n 3 rfl) <|
   fl_td (s' := (36, [.ref r0, .int i1, .int i2, .int i3, .int i4, .int i5, u6, u7], [.int (v_30 i1 i5 r0 M)], M, J)) (fl_cv (o := some (.int (v_30 i1 i5 r0 M))) rfl rfl rfl rfl (cc_30 M J i1 i5 r0) rfl) <|
   fl_td (s' := (60, [.ref r0, .int i1, .int i2, .int i3, .int i4, .int i5, .int (v_30 i1 i5 r0 M), u7], [.int (v_30 i1 i5 r0 M), .int (M (r0 + 4) i5.toNatClampNeg), .int (M (r0 + 1) i5.toNatClampNeg), .int (M (r0 + 5) i1.toNatClampNeg)], M, J)) (fl_n 14 rfl) <|
   fl_td (s' := (63, [.ref r0, .int i1, .int i2, .int i3, .int i4, .int i5, .int (v_30 i1 i5 r0 M), u7], [.int (v_31 (M (r0 + 5) i1.toNatClampNeg) (M (r0 + 1) i5.toNatClampNeg) (M (r0 + 4) i5.toNatClampNeg) (v_30 i1 i5 r0 M))], M, J)) (fl_cs (o := some (.int (v_31 (M (r0 + 5) i1.toNatClampNeg) (M (r0 + 1) i5.toNatClampNeg) (M (r0 + 4) i5.toNatClampNeg) (v_30 i1 i5 r0 M)))) rfl rfl rfl (cc_31 M J (M (r0 + 5) i1.toNatClampNeg) (M (r0 + 1) i5.toNatClampNeg) (M (r0 + 4) i5.toNatClampNeg) (v_30 i1 i5 r0 M)) rfl) <|
   fl_td (s' := (68, [.ref r0, .int i1, .int i2, .int i3, .int i4, .int i5, .int (v_30 i1 i5 r0 M), .int (v_31 (M (r0 + 5) i1.toNatClampNeg) (M (r0 + 1) i5.toNatClampNeg) (M (r0 + 4) i5.toNatClampNeg) (v_30 i1 i5 r0 M))], [.int i3, .int (v_31 (M (r0 + 5) i1.toNatClampNeg) (M (r0 + 1) i5.toNatClampNeg) (M (r0 + 4) i5.toNatClampNeg) (v_30 i1 i5 r0 M))], M, J)) (fl_n 3 rfl) <|
   fl_dtwo (fl_ic (t := 90) rfl rfl) fl_cT (fun h3 =>
    fl_td (s' := (11, [.ref r0, .int i1, .int i5, .int (v_31 (M (r0 + 5) i1.toNatClampNeg) (M (r0 + 1) i5.toNatClampNeg) (M (r0 + 4) i5.toNatClampNeg) (v_30 i1 i5 r0 M)), .int (v_30 i1 i5 r0 M), .int (i5 + 1), .int (v_30 i1 i5 r0 M), .int (v_31 (M (r0 + 5) i1.toNatClampNeg) (M (r0 + 1) i5.toNatClampNeg) (M (r0 + 4) i5.toNatClampNeg) (v_30 i1 i5 r0 M))], [], M, J)) (fl_n 8 rfl) <|
    (q1 h1 h2 h3)) (fun h3 =>
    fl_td (s' := (74, [.ref r0, .int i1, .int i2, .int i3, .int i4, .int i5, .int (v_30 i1 i5 r0 M), .int (v_31 (M (r0 + 5) i1.toNatClampNeg) (M (r0 + 1) i5.toNatClampNeg) (M (r0 + 4) i5.toNatClampNeg) (v_30 i1 i5 r0 M))], [.int i3, .int (v_31 (M (r0 + 5) i1.toNatClampNeg) (M (r0 + 1) i5.toNatClampNeg) (M (r0 + 4) i5.toNatClampNeg) (v_30 i1 i5 r0 M))], M, J)) (fl_n 2 rfl) <|
    fl_dnot (fl_ic (t := 100) rfl rfl) fl_cF (fun h4 =>
     fl_td (s' := (80, [.ref r0, .int i1, .int i2, .int i3, .int i4, .int i5, .int (v_30 i1 i5 r0 M), .int (v_31 (M (r0 + 5) i1.toNatClampNeg) (M (r0 + 1) i5.toNatClampNeg) (M (r0 + 4) i5.toNatClampNeg) (v_30 i1 i5 r0 M))], [.int (-9), .int i2], M, J)) (fl_n 2 rfl) <|
     fl_dtwo (fl_ic (t := 100) rfl rfl) fl_cT (fun h5 =>
      fl_td (s' := (11, [.ref r0, .int i1, .int i2, .int i3, .int i4, .int (i5 + 1), .int (v_30 i1 i5 r0 M), .int (v_31 (M (r0 + 5) i1.toNatClampNeg) (M (r0 + 1) i5.toNatClampNeg) (M (r0 + 4) i5.toNatClampNeg) (v_30 i1 i5 r0 M))], [], M, J)) (fl_n 2 rfl) <|
      (q2 h1 h2 h3 h4 h5)) (fun h5 =>
      fl_td (s' := (87, [.ref r0, .int i1, .int i2, .int i3, .int i4, .int i5, .int (v_30 i1 i5 r0 M), .int (v_31 (M (r0 + 5) i1.toNatClampNeg) (M (r0 + 1) i5.toNatClampNeg) (M (r0 + 4) i5.toNatClampNeg) (v_30 i1 i5 r0 M))], [.int i4, .int (v_30 i1 i5 r0 M)], M, J)) (fl_n 2 rfl) <|
      fl_dnot (fl_ic (t := 100) rfl rfl) fl_nlt (fun h6 =>
       fl_td (s' := (11, [.ref r0, .int i1, .int i5, .int (v_31 (M (r0 + 5) i1.toNatClampNeg) (M (r0 + 1) i5.toNatClampNeg) (M (r0 + 4) i5.toNatClampNeg) (v_30 i1 i5 r0 M)), .int (v_30 i1 i5 r0 M), .int (i5 + 1), .int (v_30 i1 i5 r0 M), .int (v_31 (M (r0 + 5) i1.toNatClampNeg) (M (r0 + 1) i5.toNatClampNeg) (M (r0 + 4) i5.toNatClampNeg) (v_30 i1 i5 r0 M))], [], M, J)) (fl_n 8 rfl) <|
       (q3 h1 h2 h3 h4 h5 h6)) (fun h6 =>
       fl_td (s' := (11, [.ref r0, .int i1, .int i2, .int i3, .int i4, .int (i5 + 1), .int (v_30 i1 i5 r0 M), .int (v_31 (M (r0 + 5) i1.toNatClampNeg) (M (r0 + 1) i5.toNatClampNeg) (M (r0 + 4) i5.toNatClampNeg) (v_30 i1 i5 r0 M))], [], M, J)) (fl_n 2 rfl) <|
       (q4 h1 h2 h3 h4 h5 h6)))) (fun h4 =>
     fl_td (s' := (11, [.ref r0, .int i1, .int i2, .int i3, .int i4, .int (i5 + 1), .int (v_30 i1 i5 r0 M), .int (v_31 (M (r0 + 5) i1.toNatClampNeg) (M (r0 + 1) i5.toNatClampNeg) (M (r0 + 4) i5.toNatClampNeg) (v_30 i1 i5 r0 M))], [], M, J)) (fl_n 2 rfl) <|
     (q5 h1 h2 h3 h4)))) (fun h2 =>
   fl_td (s' := (11, [.ref r0, .int i1, .int i2, .int i3, .int i4, .int (i5 + 1), u6, u7], [], M, J)) (fl_n 2 rfl) <|
   (q6 h1 h2))) (fun h1 =>
  (q7 h1))
theorem lp_28_11 {r : fl_Q} (i1 i2 i3 i4 : Int32) (r0 : Nat) (u6 u7 : Value) (M : fl_M) (J : fl_J) (hx : ∀ w5 w6 w7 : Value, fl_dn fB28 (106, [.ref r0, .int i1, .int ((lr_28_11 i1 i2 i3 i4 r0 M).1), .int ((lr_28_11 i1 i2 i3 i4 r0 M).2.1), .int ((lr_28_11 i1 i2 i3 i4 r0 M).2.2), w5, w6, w7], [], M, J) r) : fl_dn fB28 (11, [.ref r0, .int i1, .int i2, .int i3, .int i4, .int 0, u6, u7], [], M, J) r := by
  have hb := fi_bd (M r0 0)
  have key : ∀ (n m : Nat) (w6 w7 : Value), m + n = ((M r0 0)).toNatClampNeg → fl_dn fB28 (11, [.ref r0, .int i1, .int ((lq_28_11 i1 i2 i3 i4 r0 M m).1), .int ((lq_28_11 i1 i2 i3 i4 r0 M m).2.1), .int ((lq_28_11 i1 i2 i3 i4 r0 M m).2.2), .int (Int32.ofNat m), w6, w7], [], M, J) r := by
    intro n
    induction n with
    | zero =>
      intro m w6 w7 hm
      have hm : m = ((M r0 0)).toNatClampNeg := by omega
      have hn : ¬ ((Int32.ofNat m) < (M r0 0)) := fun z => by have z := (fi_lt (by omega)).mp z; omega
      exact ts_28_11 i1 ((lq_28_11 i1 i2 i3 i4 r0 M m).1) ((lq_28_11 i1 i2 i3 i4 r0 M m).2.1) ((lq_28_11 i1 i2 i3 i4 r0 M m).2.2) (Int32.ofNat m) r0 w6 w7 M J (fun h1 h2 h3 => absurd h1 hn) (fun h1 h2 h3 h4 h5 => absurd h1 hn) (fun h1 h2 h3 h4 h5 h6 => absurd h1 hn) (fun h1 h2 h3 h4 h5 h6 => absurd h1 hn) (fun h1 h2 h3 h4 => absurd h1 hn) (fun h1 h2 => absurd h1 hn) (fun h1 => (by have e : lr_28_11 i1 i2 i3 i4 r0 M = lq_28_11 i1 i2 i3 i4 r0 M m := (by show lq_28_11 i1 i2 i3 i4 r0 M (((M r0 0)).toNatClampNeg) = _; rw [← hm]); rw [e] at hx; exact hx _ _ _))
    | succ n ih =>
      intro m w6 w7 hm
      have hp : (Int32.ofNat m) < (M r0 0) := by exact (fi_lt (by omega)).mpr (by omega)
      refine ts_28_11 i1 ((lq_28_11 i1 i2 i3 i4 r0 M m).1) ((lq_28_11 i1 i2 i3 i4 r0 M m).2.1) ((lq_28_11 i1 i2 i3 i4 r0 M m).2.2) (Int32.ofNat m) r0 w6 w7 M J (fun h1 h2 h3 => ?_) (fun h1 h2 h3 h4 h5 => ?_) (fun h1 h2 h3 h4 h5 h6 => ?_) (fun h1 h2 h3 h4 h5 h6 => ?_) (fun h1 h2 h3 h4 => ?_) (fun h1 h2 => ?_) (fun h1 => absurd hp h1)
      · have e : lq_28_11 i1 i2 i3 i4 r0 M (m + 1) = ((Int32.ofNat m), (v_31 (M (r0 + 5) i1.toNatClampNeg) (M (r0 + 1) (Int32.ofNat m).toNatClampNeg) (M (r0 + 4) (Int32.ofNat m).toNatClampNeg) (v_30 i1 (Int32.ofNat m) r0 M)), (v_30 i1 (Int32.ofNat m) r0 M)) := by
          rw [lqs_28_11]
          unfold ls_28_11
          simp only [if_pos h2, if_pos h3]
        have q := ih (m + 1) (.int (v_30 i1 (Int32.ofNat m) r0 M)) (.int (v_31 (M (r0 + 5) i1.toNatClampNeg) (M (r0 + 1) (Int32.ofNat m).toNatClampNeg) (M (r0 + 4) (Int32.ofNat m).toNatClampNeg) (v_30 i1 (Int32.ofNat m) r0 M))) (by omega)
        rw [e] at q
        first | (rw [fi_s]; exact q) | (rw [← fi_s] at q; exact q) | (simp only [fi_s] at q ⊢; exact q)
      · have e : lq_28_11 i1 i2 i3 i4 r0 M (m + 1) = (((lq_28_11 i1 i2 i3 i4 r0 M m).1), ((lq_28_11 i1 i2 i3 i4 r0 M m).2.1), ((lq_28_11 i1 i2 i3 i4 r0 M m).2.2)) := by
          rw [lqs_28_11]
          unfold ls_28_11
          simp only [if_pos h2, if_neg h3, if_pos h4, if_pos h5]
        have q := ih (m + 1) (.int (v_30 i1 (Int32.ofNat m) r0 M)) (.int (v_31 (M (r0 + 5) i1.toNatClampNeg) (M (r0 + 1) (Int32.ofNat m).toNatClampNeg) (M (r0 + 4) (Int32.ofNat m).toNatClampNeg) (v_30 i1 (Int32.ofNat m) r0 M))) (by omega)
        rw [e] at q
        first | (rw [fi_s]; exact q) | (rw [← fi_s] at q; exact q) | (simp only [fi_s] at q ⊢; exact q)
      · have e : lq_28_11 i1 i2 i3 i4 r0 M (m + 1) = ((Int32.ofNat m), (v_31 (M (r0 + 5) i1.toNatClampNeg) (M (r0 + 1) (Int32.ofNat m).toNatClampNeg) (M (r0 + 4) (Int32.ofNat m).toNatClampNeg) (v_30 i1 (Int32.ofNat m) r0 M)), (v_30 i1 (Int32.ofNat m) r0 M)) := by
          rw [lqs_28_11]
          unfold ls_28_11
          simp only [if_pos h2, if_neg h3, if_pos h4, if_neg h5, if_pos h6]
        have q := ih (m + 1) (.int (v_30 i1 (Int32.ofNat m) r0 M)) (.int (v_31 (M (r0 + 5) i1.toNatClampNeg) (M (r0 + 1) (Int32.ofNat m).toNatClampNeg) (M (r0 + 4) (Int32.ofNat m).toNatClampNeg) (v_30 i1 (Int32.ofNat m) r0 M))) (by omega)
        rw [e] at q
        first | (rw [fi_s]; exact q) | (rw [← fi_s] at q; exact q) | (simp only [fi_s] at q ⊢; exact q)
      · have e : lq_28_11 i1 i2 i3 i4 r0 M (m + 1) = (((lq_28_11 i1 i2 i3 i4 r0 M m).1), ((lq_28_11 i1 i2 i3 i4 r0 M m).2.1), ((lq_28_11 i1 i2 i3 i4 r0 M m).2.2)) := by
          rw [lqs_28_11]
          unfold ls_28_11
          simp only [if_pos h2, if_neg h3, if_pos h4, if_neg h5, if_neg h6]
        have q := ih (m + 1) (.int (v_30 i1 (Int32.ofNat m) r0 M)) (.int (v_31 (M (r0 + 5) i1.toNatClampNeg) (M (r0 + 1) (Int32.ofNat m).toNatClampNeg) (M (r0 + 4) (Int32.ofNat m).toNatClampNeg) (v_30 i1 (Int32.ofNat m) r0 M))) (by omega)
        rw [e] at q
        first | (rw [fi_s]; exact q) | (rw [← fi_s] at q; exact q) | (simp only [fi_s] at q ⊢; exact q)
      · have e : lq_28_11 i1 i2 i3 i4 r0 M (m + 1) = (((lq_28_11 i1 i2 i3 i4 r0 M m).1), ((lq_28_11 i1 i2 i3 i4 r0 M m).2.1), ((lq_28_11 i1 i2 i3 i4 r0 M m).2.2)) := by
          rw [lqs_28_11]
          unfold ls_28_11
          simp only [if_pos h2, if_neg h3, if_neg h4]
        have q := ih (m + 1) (.int (v_30 i1 (Int32.ofNat m) r0 M)) (.int (v_31 (M (r0 + 5) i1.toNatClampNeg) (M (r0 + 1) (Int32.ofNat m).toNatClampNeg) (M (r0 + 4) (Int32.ofNat m).toNatClampNeg) (v_30 i1 (Int32.ofNat m) r0 M))) (by omega)
        rw [e] at q
        first | (rw [fi_s]; exact q) | (rw [← fi_s] at q; exact q) | (simp only [fi_s] at q ⊢; exact q)
      · have e : lq_28_11 i1 i2 i3 i4 r0 M (m + 1) = (((lq_28_11 i1 i2 i3 i4 r0 M m).1), ((lq_28_11 i1 i2 i3 i4 r0 M m).2.1), ((lq_28_11 i1 i2 i3 i4 r0 M m).2.2)) := by
          rw [lqs_28_11]
          unfold ls_28_11
          simp only [if_neg h2]
        have q := ih (m + 1) w6 w7 (by omega)
        rw [e] at q
        first | (rw [fi_s]; exact q) | (rw [← fi_s] at q; exact q) | (simp only [fi_s] at q ⊢; exact q)
  exact key (((M r0 0)).toNatClampNeg) 0 u6 u7 (Nat.zero_add _)
theorem cc_28 (M : fl_M) (J : fl_J) (i : Int32) (T : Nat) : fl_C 28 [.ref T, .int i] M J (some (.int ((lr_28_11 i (-9) 0 0 T M).1)), M, J) :=
 fl_Co (B := fB28) rfl rfl <|
 fl_td (s' := (11, [.ref T, .int i, .int (-9), .int 0, .int 0, .int 0, .null, .null], [], M, J)) (fl_n 8 rfl) <|
 lp_28_11 i (-9) 0 0 T .null .null M J (fun u1 u2 u3 =>
  fx_gen (p := fun (II4 : Int32) => fl_dn fB28 (106, [.ref T, .int i, .int II4, .int ((lr_28_11 i (-9) 0 0 T M).2.1), .int ((lr_28_11 i (-9) 0 0 T M).2.2), u1, u2, u3], [], M, J) (some (.int ((lr_28_11 i (-9) 0 0 T M).1)), M, J)) ((lr_28_11 i (-9) 0 0 T M).1) (fun II4 eII4 =>
   fx_gen (p := fun (II5 : Int32) => fl_dn fB28 (106, [.ref T, .int i, .int II4, .int II5, .int ((lr_28_11 i (-9) 0 0 T M).2.2), u1, u2, u3], [], M, J) (some (.int ((lr_28_11 i (-9) 0 0 T M).1)), M, J)) ((lr_28_11 i (-9) 0 0 T M).2.1) (fun II5 eII5 =>
    fx_gen (p := fun (II6 : Int32) => fl_dn fB28 (106, [.ref T, .int i, .int II4, .int II5, .int II6, u1, u2, u3], [], M, J) (some (.int ((lr_28_11 i (-9) 0 0 T M).1)), M, J)) ((lr_28_11 i (-9) 0 0 T M).2.2) (fun II6 eII6 =>
     fl_td (s' := (107, [.ref T, .int i, .int II4, .int II5, .int II6, u1, u2, u3], [.int II4], M, J)) (fl_n 1 rfl) <|
     fl_rt rfl (fun _ => rfl) (by subst eII4; subst eII5; subst eII6; rfl)))))
def fB27 : sm_P := (fun pc => sm_ch sm_t27 pc, sm_Kn 1 4 none, fun x => sm_lk sm_ca1 x, some .int)
-- MiceRegisters$Register.miceThatWant 4
def ls_27_4 (i1 : Int32) (r0 : Nat) (M : fl_M) (m : Nat) (q : Int32) : Int32 := (if ((lr_28_11 (Int32.ofNat m) (-9) 0 0 r0 M).1) = i1 then (q ||| ((1 : Int32) <<< ((Int32.ofNat m) &&& 31))) else q)
def lq_27_4 (i1 i2 : Int32) (r0 : Nat) (M : fl_M) (m : Nat) : Int32 := fx_it (ls_27_4 i1 r0 M) m i2
theorem lqs_27_4 (i1 i2 : Int32) (r0 : Nat) (M : fl_M) (m : Nat) : lq_27_4 i1 i2 r0 M (m + 1) = (ls_27_4 i1 r0 M) m (lq_27_4 i1 i2 r0 M m) := by
  unfold lq_27_4
  exact fx_it_s _ _ _
def lr_27_4 (i1 i2 : Int32) (r0 : Nat) (M : fl_M) : Int32 := (lq_27_4 i1 i2 r0 M (((M r0 1)).toNatClampNeg))
theorem ts_27_4 {r : fl_Q} (i1 i2 i3 : Int32) (r0 : Nat) (M : fl_M) (J : fl_J) (q1 : (i3 < (M r0 1)) → (((lr_28_11 i3 (-9) 0 0 r0 M).1) = i1) → fl_dn fB27 (4, [.ref r0, .int i1, .int (i2 ||| ((1 : Int32) <<< (i3 &&& 31))), .int (i3 + 1)], [], M, J) r) (q2 : (i3 < (M r0 1)) → (¬ (((lr_28_11 i3 (-9) 0 0 r0 M).1) = i1)) → fl_dn fB27 (4, [.ref r0, .int i1, .int i2, .int (i3 + 1)], [], M, J) r) (q3 : (¬ (i3 < (M r0 1))) → fl_dn fB27 (33, [.ref r0, .int i1, .int i2, .int i3], [], M, J) r) : fl_dn fB27 (4, [.ref r0, .int i1, .int i2, .int i3], [], M, J) r :=
 fl_td (s' := (9, [.ref r0, .int i1, .int i2, .int i3], [.int (M r0 1), .int i3], M, J)) (fl_n 3 rfl) <|
 fl_dnot (fl_ic (t := 33) rfl rfl) fl_nlt (fun h1 =>
  fl_td (s' := (14, [.ref r0, .int i1, .int i2, .int i3], [.int i3, .ref r0], M, J)) (fl_n 2 rfl) <|
  fl_td (s' := (17, [.ref r0, .int i1, .int i2, .int i3], [.int ((lr_28_11 i3 (-9) 0 0 r0 M).1)], M, J)) (fl_cv (o := some (.int ((lr_28_11 i3 (-9) 0 0 r0 M).1))) rfl rfl rfl rfl (cc_28 M J i3 r0) rfl) <|
  fx_gen (p := fun (II7 : Int32) => fl_dn fB27 (17, [.ref r0, .int i1, .int i2, .int i3], [.int II7], M, J) r) ((lr_28_11 i3 (-9) 0 0 r0 M).1) (fun II7 eII7 =>
   fl_td (s' := (18, [.ref r0, .int i1, .int i2, .int i3], [.int i1, .int II7], M, J)) (fl_n 1 rfl) <|
   fl_dnot (fl_ic (t := 27) rfl rfl) fl_cF (fun h2 =>
    fl_td (s' := (4, [.ref r0, .int i1, .int (i2 ||| ((1 : Int32) <<< (i3 &&& 31))), .int (i3 + 1)], [], M, J)) (fl_n 8 rfl) <|
    (by subst eII7; exact (q1 h1 h2))) (fun h2 =>
    fl_td (s' := (4, [.ref r0, .int i1, .int i2, .int (i3 + 1)], [], M, J)) (fl_n 2 rfl) <|
    (by subst eII7; exact (q2 h1 h2))))) (fun h1 =>
  (q3 h1))
theorem lp_27_4 {r : fl_Q} (i1 i2 : Int32) (r0 : Nat) (M : fl_M) (J : fl_J) (hx : ∀ w3 : Value, fl_dn fB27 (33, [.ref r0, .int i1, .int (lr_27_4 i1 i2 r0 M), w3], [], M, J) r) : fl_dn fB27 (4, [.ref r0, .int i1, .int i2, .int 0], [], M, J) r := by
  have hb := fi_bd (M r0 1)
  have key : ∀ (n m : Nat), m + n = ((M r0 1)).toNatClampNeg → fl_dn fB27 (4, [.ref r0, .int i1, .int (lq_27_4 i1 i2 r0 M m), .int (Int32.ofNat m)], [], M, J) r := by
    intro n
    induction n with
    | zero =>
      intro m hm
      have hm : m = ((M r0 1)).toNatClampNeg := by omega
      have hn : ¬ ((Int32.ofNat m) < (M r0 1)) := fun z => by have z := (fi_lt (by omega)).mp z; omega
      exact ts_27_4 i1 (lq_27_4 i1 i2 r0 M m) (Int32.ofNat m) r0 M J (fun h1 h2 => absurd h1 hn) (fun h1 h2 => absurd h1 hn) (fun h1 => (by have e : lr_27_4 i1 i2 r0 M = lq_27_4 i1 i2 r0 M m := (by show lq_27_4 i1 i2 r0 M (((M r0 1)).toNatClampNeg) = _; rw [← hm]); rw [e] at hx; exact hx _))
    | succ n ih =>
      intro m hm
      have hp : (Int32.ofNat m) < (M r0 1) := by exact (fi_lt (by omega)).mpr (by omega)
      refine ts_27_4 i1 (lq_27_4 i1 i2 r0 M m) (Int32.ofNat m) r0 M J (fun h1 h2 => ?_) (fun h1 h2 => ?_) (fun h1 => absurd hp h1)
      · have e : lq_27_4 i1 i2 r0 M (m + 1) = ((lq_27_4 i1 i2 r0 M m) ||| ((1 : Int32) <<< ((Int32.ofNat m) &&& 31))) := by
          rw [lqs_27_4]
          unfold ls_27_4
          simp only [if_pos h2]
        have q := ih (m + 1) (by omega)
        rw [e] at q
        first | (rw [fi_s]; exact q) | (rw [← fi_s] at q; exact q) | (simp only [fi_s] at q ⊢; exact q)
      · have e : lq_27_4 i1 i2 r0 M (m + 1) = (lq_27_4 i1 i2 r0 M m) := by
          rw [lqs_27_4]
          unfold ls_27_4
          simp only [if_neg h2]
        have q := ih (m + 1) (by omega)
        rw [e] at q
        first | (rw [fi_s]; exact q) | (rw [← fi_s] at q; exact q) | (simp only [fi_s] at q ⊢; exact q)
  exact key (((M r0 1)).toNatClampNeg) 0 (Nat.zero_add _)
theorem cc_27 (M : fl_M) (J : fl_J) (l : Int32) (T : Nat) : fl_C 27 [.ref T, .int l] M J (some (.int (lr_27_4 l 0 T M)), M, J) :=
 fl_Co (B := fB27) rfl rfl <|
 fl_td (s' := (4, [.ref T, .int l, .int 0, .int 0], [], M, J)) (fl_n 4 rfl) <|
 lp_27_4 l 0 T M J (fun u8 =>
  fx_gen (p := fun (II9 : Int32) => fl_dn fB27 (33, [.ref T, .int l, .int II9, u8], [], M, J) (some (.int (lr_27_4 l 0 T M)), M, J)) (lr_27_4 l 0 T M) (fun II9 eII9 =>
   fl_td (s' := (34, [.ref T, .int l, .int II9, u8], [.int II9], M, J)) (fl_n 1 rfl) <|
   fl_rt rfl (fun _ => rfl) (by subst eII9; rfl)))
def fB38 : sm_P := (fun pc => sm_ch sm_t38 pc, sm_Kn 1 4 none, fun x => sm_lk sm_ca1 x, some .int)
-- MiceRegisters$Register.linesLikedBy 4
def ls_38_4 (i1 : Int32) (r0 : Nat) (M : fl_M) (m : Nat) (q : Int32) : Int32 := (if 0 < (v_31 (M (r0 + 5) i1.toNatClampNeg) (M (r0 + 1) (Int32.ofNat m).toNatClampNeg) (M (r0 + 4) (Int32.ofNat m).toNatClampNeg) (v_30 i1 (Int32.ofNat m) r0 M)) then (q + 1) else (q + 0))
def lq_38_4 (i1 i2 : Int32) (r0 : Nat) (M : fl_M) (m : Nat) : Int32 := fx_it (ls_38_4 i1 r0 M) m i2
theorem lqs_38_4 (i1 i2 : Int32) (r0 : Nat) (M : fl_M) (m : Nat) : lq_38_4 i1 i2 r0 M (m + 1) = (ls_38_4 i1 r0 M) m (lq_38_4 i1 i2 r0 M m) := by
  unfold lq_38_4
  exact fx_it_s _ _ _
def lr_38_4 (i1 i2 : Int32) (r0 : Nat) (M : fl_M) : Int32 := (lq_38_4 i1 i2 r0 M (((M r0 0)).toNatClampNeg))
theorem ts_38_4 {r : fl_Q} (i1 i2 i3 : Int32) (r0 : Nat) (M : fl_M) (J : fl_J) (q1 : (i3 < (M r0 0)) → (0 < (v_31 (M (r0 + 5) i1.toNatClampNeg) (M (r0 + 1) i3.toNatClampNeg) (M (r0 + 4) i3.toNatClampNeg) (v_30 i1 i3 r0 M))) → fl_dn fB38 (4, [.ref r0, .int i1, .int (i2 + 1), .int (i3 + 1)], [], M, J) r) (q2 : (i3 < (M r0 0)) → (¬ (0 < (v_31 (M (r0 + 5) i1.toNatClampNeg) (M (r0 + 1) i3.toNatClampNeg) (M (r0 + 4) i3.toNatClampNeg) (v_30 i1 i3 r0 M)))) → fl_dn fB38 (4, [.ref r0, .int i1, .int (i2 + 0), .int (i3 + 1)], [], M, J) r) (q3 : (¬ (i3 < (M r0 0))) → fl_dn fB38 (56, [.ref r0, .int i1, .int i2, .int i3], [], M, J) r) : fl_dn fB38 (4, [.ref r0, .int i1, .int i2, .int i3], [], M, J) r :=
 fl_td (s' := (9, [.ref r0, .int i1, .int i2, .int i3], [.int (M r0 0), .int i3], M, J)) (fl_n 3 rfl) <|
 fl_dnot (fl_ic (t := 56) rfl rfl) fl_nlt (fun h1 =>
  fl_td (s' := (34, [.ref r0, .int i1, .int i2, .int i3], [.int i3, .int i1, .ref r0, .int (M (r0 + 4) i3.toNatClampNeg), .int (M (r0 + 1) i3.toNatClampNeg), .int (M (r0 + 5) i1.toNatClampNeg), .int i2], M, J)) (fl_n 16 rfl) <|
  fl_td (s' := (37, [.ref r0, .int i1, .int i2, .int i3], [.int (v_30 i1 i3 r0 M), .int (M (r0 + 4) i3.toNatClampNeg), .int (M (r0 + 1) i3.toNatClampNeg), .int (M (r0 + 5) i1.toNatClampNeg), .int i2], M, J)) (fl_cv (o := some (.int (v_30 i1 i3 r0 M))) rfl rfl rfl rfl (cc_30 M J i1 i3 r0) rfl) <|
  fl_td (s' := (40, [.ref r0, .int i1, .int i2, .int i3], [.int (v_31 (M (r0 + 5) i1.toNatClampNeg) (M (r0 + 1) i3.toNatClampNeg) (M (r0 + 4) i3.toNatClampNeg) (v_30 i1 i3 r0 M)), .int i2], M, J)) (fl_cs (o := some (.int (v_31 (M (r0 + 5) i1.toNatClampNeg) (M (r0 + 1) i3.toNatClampNeg) (M (r0 + 4) i3.toNatClampNeg) (v_30 i1 i3 r0 M)))) rfl rfl rfl (cc_31 M J (M (r0 + 5) i1.toNatClampNeg) (M (r0 + 1) i3.toNatClampNeg) (M (r0 + 4) i3.toNatClampNeg) (v_30 i1 i3 r0 M)) rfl) <|
  fl_dnot (fl_if (t := 47) rfl rfl) fl_nle (fun h2 =>
   fl_td (s' := (4, [.ref r0, .int i1, .int (i2 + 1), .int (i3 + 1)], [], M, J)) (fl_n 6 rfl) <|
   (q1 h1 h2)) (fun h2 =>
   fl_td (s' := (4, [.ref r0, .int i1, .int (i2 + 0), .int (i3 + 1)], [], M, J)) (fl_n 5 rfl) <|
   (q2 h1 h2))) (fun h1 =>
  (q3 h1))
theorem lp_38_4 {r : fl_Q} (i1 i2 : Int32) (r0 : Nat) (M : fl_M) (J : fl_J) (hx : ∀ w3 : Value, fl_dn fB38 (56, [.ref r0, .int i1, .int (lr_38_4 i1 i2 r0 M), w3], [], M, J) r) : fl_dn fB38 (4, [.ref r0, .int i1, .int i2, .int 0], [], M, J) r := by
  have hb := fi_bd (M r0 0)
  have key : ∀ (n m : Nat), m + n = ((M r0 0)).toNatClampNeg → fl_dn fB38 (4, [.ref r0, .int i1, .int (lq_38_4 i1 i2 r0 M m), .int (Int32.ofNat m)], [], M, J) r := by
    intro n
    induction n with
    | zero =>
      intro m hm
      have hm : m = ((M r0 0)).toNatClampNeg := by omega
      have hn : ¬ ((Int32.ofNat m) < (M r0 0)) := fun z => by have z := (fi_lt (by omega)).mp z; omega
      exact ts_38_4 i1 (lq_38_4 i1 i2 r0 M m) (Int32.ofNat m) r0 M J (fun h1 h2 => absurd h1 hn) (fun h1 h2 => absurd h1 hn) (fun h1 => (by have e : lr_38_4 i1 i2 r0 M = lq_38_4 i1 i2 r0 M m := (by show lq_38_4 i1 i2 r0 M (((M r0 0)).toNatClampNeg) = _; rw [← hm]); rw [e] at hx; exact hx _))
    | succ n ih =>
      intro m hm
      have hp : (Int32.ofNat m) < (M r0 0) := by exact (fi_lt (by omega)).mpr (by omega)
      refine ts_38_4 i1 (lq_38_4 i1 i2 r0 M m) (Int32.ofNat m) r0 M J (fun h1 h2 => ?_) (fun h1 h2 => ?_) (fun h1 => absurd hp h1)
      · have e : lq_38_4 i1 i2 r0 M (m + 1) = ((lq_38_4 i1 i2 r0 M m) + 1) := by
          rw [lqs_38_4]
          unfold ls_38_4
          simp only [if_pos h2]
        have q := ih (m + 1) (by omega)
        rw [e] at q
        first | (rw [fi_s]; exact q) | (rw [← fi_s] at q; exact q) | (simp only [fi_s] at q ⊢; exact q)
      · have e : lq_38_4 i1 i2 r0 M (m + 1) = ((lq_38_4 i1 i2 r0 M m) + 0) := by
          rw [lqs_38_4]
          unfold ls_38_4
          simp only [if_neg h2]
        have q := ih (m + 1) (by omega)
        rw [e] at q
        first | (rw [fi_s]; exact q) | (rw [← fi_s] at q; exact q) | (simp only [fi_s] at q ⊢; exact q)
  exact key (((M r0 0)).toNatClampNeg) 0 (Nat.zero_add _)
theorem cc_38 (M : fl_M) (J : fl_J) (i : Int32) (T : Nat) : fl_C 38 [.ref T, .int i] M J (some (.int (lr_38_4 i 0 T M)), M, J) :=
 fl_Co (B := fB38) rfl rfl <|
 fl_td (s' := (4, [.ref T, .int i, .int 0, .int 0], [], M, J)) (fl_n 4 rfl) <|
 lp_38_4 i 0 T M J (fun u10 =>
  fx_gen (p := fun (II11 : Int32) => fl_dn fB38 (56, [.ref T, .int i, .int II11, u10], [], M, J) (some (.int (lr_38_4 i 0 T M)), M, J)) (lr_38_4 i 0 T M) (fun II11 eII11 =>
   fl_td (s' := (57, [.ref T, .int i, .int II11, u10], [.int II11], M, J)) (fl_n 1 rfl) <|
   fl_rt rfl (fun _ => rfl) (by subst eII11; rfl)))
def fB39 : sm_P := (fun pc => sm_ch sm_t39 pc, sm_Kn 1 3 none, fun x => sm_lk sm_ca1 x, some .int)
-- MiceRegisters$Register.linesLittleWrong 4
def ls_39_4 (r0 : Nat) (M : fl_M) (m : Nat) (q : Int32) : Int32 := (if 3 < (M (r0 + 1) (Int32.ofNat m).toNatClampNeg) then (q + 0) else (q + 1))
def lq_39_4 (i1 : Int32) (r0 : Nat) (M : fl_M) (m : Nat) : Int32 := fx_it (ls_39_4 r0 M) m i1
theorem lqs_39_4 (i1 : Int32) (r0 : Nat) (M : fl_M) (m : Nat) : lq_39_4 i1 r0 M (m + 1) = (ls_39_4 r0 M) m (lq_39_4 i1 r0 M m) := by
  unfold lq_39_4
  exact fx_it_s _ _ _
def lr_39_4 (i1 : Int32) (r0 : Nat) (M : fl_M) : Int32 := (lq_39_4 i1 r0 M (((M r0 0)).toNatClampNeg))
theorem ts_39_4 {r : fl_Q} (i1 i2 : Int32) (r0 : Nat) (M : fl_M) (J : fl_J) (q1 : (i2 < (M r0 0)) → (3 < (M (r0 + 1) i2.toNatClampNeg)) → fl_dn fB39 (4, [.ref r0, .int (i1 + 0), .int (i2 + 1)], [], M, J) r) (q2 : (i2 < (M r0 0)) → (¬ (3 < (M (r0 + 1) i2.toNatClampNeg))) → fl_dn fB39 (4, [.ref r0, .int (i1 + 1), .int (i2 + 1)], [], M, J) r) (q3 : (¬ (i2 < (M r0 0))) → fl_dn fB39 (36, [.ref r0, .int i1, .int i2], [], M, J) r) : fl_dn fB39 (4, [.ref r0, .int i1, .int i2], [], M, J) r :=
 fl_td (s' := (9, [.ref r0, .int i1, .int i2], [.int (M r0 0), .int i2], M, J)) (fl_n 3 rfl) <|
 fl_dnot (fl_ic (t := 36) rfl rfl) fl_nlt (fun h1 =>
  fl_td (s' := (20, [.ref r0, .int i1, .int i2], [.int 3, .int (M (r0 + 1) i2.toNatClampNeg), .int i1], M, J)) (fl_n 6 rfl) <|
  fl_dtwo (fl_ic (t := 27) rfl rfl) fl_cT (fun h2 =>
   fl_td (s' := (4, [.ref r0, .int (i1 + 0), .int (i2 + 1)], [], M, J)) (fl_n 5 rfl) <|
   (q1 h1 h2)) (fun h2 =>
   fl_td (s' := (4, [.ref r0, .int (i1 + 1), .int (i2 + 1)], [], M, J)) (fl_n 6 rfl) <|
   (q2 h1 h2))) (fun h1 =>
  (q3 h1))
theorem lp_39_4 {r : fl_Q} (i1 : Int32) (r0 : Nat) (M : fl_M) (J : fl_J) (hx : ∀ w2 : Value, fl_dn fB39 (36, [.ref r0, .int (lr_39_4 i1 r0 M), w2], [], M, J) r) : fl_dn fB39 (4, [.ref r0, .int i1, .int 0], [], M, J) r := by
  have hb := fi_bd (M r0 0)
  have key : ∀ (n m : Nat), m + n = ((M r0 0)).toNatClampNeg → fl_dn fB39 (4, [.ref r0, .int (lq_39_4 i1 r0 M m), .int (Int32.ofNat m)], [], M, J) r := by
    intro n
    induction n with
    | zero =>
      intro m hm
      have hm : m = ((M r0 0)).toNatClampNeg := by omega
      have hn : ¬ ((Int32.ofNat m) < (M r0 0)) := fun z => by have z := (fi_lt (by omega)).mp z; omega
      exact ts_39_4 (lq_39_4 i1 r0 M m) (Int32.ofNat m) r0 M J (fun h1 h2 => absurd h1 hn) (fun h1 h2 => absurd h1 hn) (fun h1 => (by have e : lr_39_4 i1 r0 M = lq_39_4 i1 r0 M m := (by show lq_39_4 i1 r0 M (((M r0 0)).toNatClampNeg) = _; rw [← hm]); rw [e] at hx; exact hx _))
    | succ n ih =>
      intro m hm
      have hp : (Int32.ofNat m) < (M r0 0) := by exact (fi_lt (by omega)).mpr (by omega)
      refine ts_39_4 (lq_39_4 i1 r0 M m) (Int32.ofNat m) r0 M J (fun h1 h2 => ?_) (fun h1 h2 => ?_) (fun h1 => absurd hp h1)
      · have e : lq_39_4 i1 r0 M (m + 1) = ((lq_39_4 i1 r0 M m) + 0) := by
          rw [lqs_39_4]
          unfold ls_39_4
          simp only [if_pos h2]
        have q := ih (m + 1) (by omega)
        rw [e] at q
        first | (rw [fi_s]; exact q) | (rw [← fi_s] at q; exact q) | (simp only [fi_s] at q ⊢; exact q)
      · have e : lq_39_4 i1 r0 M (m + 1) = ((lq_39_4 i1 r0 M m) + 1) := by
          rw [lqs_39_4]
          unfold ls_39_4
          simp only [if_neg h2]
        have q := ih (m + 1) (by omega)
        rw [e] at q
        first | (rw [fi_s]; exact q) | (rw [← fi_s] at q; exact q) | (simp only [fi_s] at q ⊢; exact q)
  exact key (((M r0 0)).toNatClampNeg) 0 (Nat.zero_add _)
theorem cc_39 (M : fl_M) (J : fl_J) (T : Nat) : fl_C 39 [.ref T] M J (some (.int (lr_39_4 0 T M)), M, J) :=
 fl_Co (B := fB39) rfl rfl <|
 fl_td (s' := (4, [.ref T, .int 0, .int 0], [], M, J)) (fl_n 4 rfl) <|
 lp_39_4 0 T M J (fun u12 =>
  fx_gen (p := fun (II13 : Int32) => fl_dn fB39 (36, [.ref T, .int II13, u12], [], M, J) (some (.int (lr_39_4 0 T M)), M, J)) (lr_39_4 0 T M) (fun II13 eII13 =>
   fl_td (s' := (37, [.ref T, .int II13, u12], [.int II13], M, J)) (fl_n 1 rfl) <|
   fl_rt rfl (fun _ => rfl) (by subst eII13; rfl)))
def fB40 : sm_P := (fun pc => sm_ch sm_t40 pc, sm_Kn 1 3 none, fun x => sm_lk sm_ca1 x, some .int)
def v_40 (i : Int32) (T : Nat) (M : fl_M) : Int32 := (if 0 < (v_35 (M (T + 5) i.toNatClampNeg) (M (T + 6) i.toNatClampNeg)) then (((M (T + 3) ((M (T + 8) i.toNatClampNeg).toNatClampNeg)) + (v_35 (M (T + 5) i.toNatClampNeg) (M (T + 6) i.toNatClampNeg))) - 1) / (v_35 (M (T + 5) i.toNatClampNeg) (M (T + 6) i.toNatClampNeg)) else 0)
theorem cc_40 (M : fl_M) (J : fl_J) (i : Int32) (T : Nat) : fl_C 40 [.ref T, .int i] M J (some (.int (v_40 i T M)), M, J) :=
 fl_Co (B := fB40) rfl rfl <|
 fl_td (s' := (12, [.ref T, .int i, .null], [.int (M (T + 6) i.toNatClampNeg), .int (M (T + 5) i.toNatClampNeg)], M, J)) (fl_n 8 rfl) <|
 fl_td (s' := (15, [.ref T, .int i, .null], [.int (v_35 (M (T + 5) i.toNatClampNeg) (M (T + 6) i.toNatClampNeg))], M, J)) (fl_cs (o := some (.int (v_35 (M (T + 5) i.toNatClampNeg) (M (T + 6) i.toNatClampNeg)))) rfl rfl rfl (cc_35 M J (M (T + 5) i.toNatClampNeg) (M (T + 6) i.toNatClampNeg)) rfl) <|
 fl_td (s' := (17, [.ref T, .int i, .int (v_35 (M (T + 5) i.toNatClampNeg) (M (T + 6) i.toNatClampNeg))], [.int (v_35 (M (T + 5) i.toNatClampNeg) (M (T + 6) i.toNatClampNeg))], M, J)) (fl_n 2 rfl) <|
 fl_dnot (fl_if (t := 40) rfl rfl) fl_nle (fun h1 =>
  fl_td (s' := (41, [.ref T, .int i, .int (v_35 (M (T + 5) i.toNatClampNeg) (M (T + 6) i.toNatClampNeg))], [.int ((((M (T + 3) ((M (T + 8) i.toNatClampNeg).toNatClampNeg)) + (v_35 (M (T + 5) i.toNatClampNeg) (M (T + 6) i.toNatClampNeg))) - 1) / (v_35 (M (T + 5) i.toNatClampNeg) (M (T + 6) i.toNatClampNeg)))], M, J)) (fl_n 14 rfl) <|
  fl_rt rfl (fun _ => rfl) (by unfold v_40; first | (simp only [if_pos h1]; done) | rfl)) (fun h1 =>
  fl_td (s' := (41, [.ref T, .int i, .int (v_35 (M (T + 5) i.toNatClampNeg) (M (T + 6) i.toNatClampNeg))], [.int 0], M, J)) (fl_n 1 rfl) <|
  fl_rt rfl (fun _ => rfl) (by unfold v_40; first | (simp only [if_neg h1]; done) | rfl))
def fB41 : sm_P := (fun pc => sm_ch sm_t41 pc, sm_Kn 1 3 none, fun x => sm_lk sm_ca1 x, some .int)
-- MiceRegisters$Register.allCheese 4
def ls_41_4 (r0 : Nat) (M : fl_M) (m : Nat) (q : Int32) : Int32 := (q + (M (r0 + 4) (Int32.ofNat m).toNatClampNeg))
def lq_41_4 (i1 : Int32) (r0 : Nat) (M : fl_M) (m : Nat) : Int32 := fx_it (ls_41_4 r0 M) m i1
theorem lqs_41_4 (i1 : Int32) (r0 : Nat) (M : fl_M) (m : Nat) : lq_41_4 i1 r0 M (m + 1) = (ls_41_4 r0 M) m (lq_41_4 i1 r0 M m) := by
  unfold lq_41_4
  exact fx_it_s _ _ _
def lr_41_4 (i1 : Int32) (r0 : Nat) (M : fl_M) : Int32 := (lq_41_4 i1 r0 M (((M r0 0)).toNatClampNeg))
theorem ts_41_4 {r : fl_Q} (i1 i2 : Int32) (r0 : Nat) (M : fl_M) (J : fl_J) (q1 : (i2 < (M r0 0)) → fl_dn fB41 (4, [.ref r0, .int (i1 + (M (r0 + 4) i2.toNatClampNeg)), .int (i2 + 1)], [], M, J) r) (q2 : (¬ (i2 < (M r0 0))) → fl_dn fB41 (27, [.ref r0, .int i1, .int i2], [], M, J) r) : fl_dn fB41 (4, [.ref r0, .int i1, .int i2], [], M, J) r :=
 fl_td (s' := (9, [.ref r0, .int i1, .int i2], [.int (M r0 0), .int i2], M, J)) (fl_n 3 rfl) <|
 fl_dnot (fl_ic (t := 27) rfl rfl) fl_nlt (fun h1 =>
  fl_td (s' := (4, [.ref r0, .int (i1 + (M (r0 + 4) i2.toNatClampNeg)), .int (i2 + 1)], [], M, J)) (fl_n 9 rfl) <|
  (q1 h1)) (fun h1 =>
  (q2 h1))
theorem lp_41_4 {r : fl_Q} (i1 : Int32) (r0 : Nat) (M : fl_M) (J : fl_J) (hx : ∀ w2 : Value, fl_dn fB41 (27, [.ref r0, .int (lr_41_4 i1 r0 M), w2], [], M, J) r) : fl_dn fB41 (4, [.ref r0, .int i1, .int 0], [], M, J) r := by
  have hb := fi_bd (M r0 0)
  have key : ∀ (n m : Nat), m + n = ((M r0 0)).toNatClampNeg → fl_dn fB41 (4, [.ref r0, .int (lq_41_4 i1 r0 M m), .int (Int32.ofNat m)], [], M, J) r := by
    intro n
    induction n with
    | zero =>
      intro m hm
      have hm : m = ((M r0 0)).toNatClampNeg := by omega
      have hn : ¬ ((Int32.ofNat m) < (M r0 0)) := fun z => by have z := (fi_lt (by omega)).mp z; omega
      exact ts_41_4 (lq_41_4 i1 r0 M m) (Int32.ofNat m) r0 M J (fun h1 => absurd h1 hn) (fun h1 => (by have e : lr_41_4 i1 r0 M = lq_41_4 i1 r0 M m := (by show lq_41_4 i1 r0 M (((M r0 0)).toNatClampNeg) = _; rw [← hm]); rw [e] at hx; exact hx _))
    | succ n ih =>
      intro m hm
      have hp : (Int32.ofNat m) < (M r0 0) := by exact (fi_lt (by omega)).mpr (by omega)
      refine ts_41_4 (lq_41_4 i1 r0 M m) (Int32.ofNat m) r0 M J (fun h1 => ?_) (fun h1 => absurd hp h1)
      · have e : lq_41_4 i1 r0 M (m + 1) = ((lq_41_4 i1 r0 M m) + (M (r0 + 4) (Int32.ofNat m).toNatClampNeg)) := by
          rw [lqs_41_4]
          unfold ls_41_4
          rfl
        have q := ih (m + 1) (by omega)
        rw [e] at q
        first | (rw [fi_s]; exact q) | (rw [← fi_s] at q; exact q) | (simp only [fi_s] at q ⊢; exact q)
  exact key (((M r0 0)).toNatClampNeg) 0 (Nat.zero_add _)
theorem cc_41 (M : fl_M) (J : fl_J) (T : Nat) : fl_C 41 [.ref T] M J (some (.int (lr_41_4 0 T M)), M, J) :=
 fl_Co (B := fB41) rfl rfl <|
 fl_td (s' := (4, [.ref T, .int 0, .int 0], [], M, J)) (fl_n 4 rfl) <|
 lp_41_4 0 T M J (fun u14 =>
  fx_gen (p := fun (II15 : Int32) => fl_dn fB41 (27, [.ref T, .int II15, u14], [], M, J) (some (.int (lr_41_4 0 T M)), M, J)) (lr_41_4 0 T M) (fun II15 eII15 =>
   fl_td (s' := (28, [.ref T, .int II15, u14], [.int II15], M, J)) (fl_n 1 rfl) <|
   fl_rt rfl (fun _ => rfl) (by subst eII15; rfl)))
def fB66 : sm_P := (fun pc => sm_ch sm_t66 pc, sm_Kn 1 3 none, fun x => sm_lk sm_ca1 x, some .int)
-- MiceRegisters$Register.allLeft 4
def ls_66_4 (r0 : Nat) (M : fl_M) (m : Nat) (q : Int32) : Int32 := (q + (M (r0 + 3) (Int32.ofNat m).toNatClampNeg))
def lq_66_4 (i1 : Int32) (r0 : Nat) (M : fl_M) (m : Nat) : Int32 := fx_it (ls_66_4 r0 M) m i1
theorem lqs_66_4 (i1 : Int32) (r0 : Nat) (M : fl_M) (m : Nat) : lq_66_4 i1 r0 M (m + 1) = (ls_66_4 r0 M) m (lq_66_4 i1 r0 M m) := by
  unfold lq_66_4
  exact fx_it_s _ _ _
def lr_66_4 (i1 : Int32) (r0 : Nat) (M : fl_M) : Int32 := (lq_66_4 i1 r0 M (((M r0 0)).toNatClampNeg))
theorem ts_66_4 {r : fl_Q} (i1 i2 : Int32) (r0 : Nat) (M : fl_M) (J : fl_J) (q1 : (i2 < (M r0 0)) → fl_dn fB66 (4, [.ref r0, .int (i1 + (M (r0 + 3) i2.toNatClampNeg)), .int (i2 + 1)], [], M, J) r) (q2 : (¬ (i2 < (M r0 0))) → fl_dn fB66 (27, [.ref r0, .int i1, .int i2], [], M, J) r) : fl_dn fB66 (4, [.ref r0, .int i1, .int i2], [], M, J) r :=
 fl_td (s' := (9, [.ref r0, .int i1, .int i2], [.int (M r0 0), .int i2], M, J)) (fl_n 3 rfl) <|
 fl_dnot (fl_ic (t := 27) rfl rfl) fl_nlt (fun h1 =>
  fl_td (s' := (4, [.ref r0, .int (i1 + (M (r0 + 3) i2.toNatClampNeg)), .int (i2 + 1)], [], M, J)) (fl_n 9 rfl) <|
  (q1 h1)) (fun h1 =>
  (q2 h1))
theorem lp_66_4 {r : fl_Q} (i1 : Int32) (r0 : Nat) (M : fl_M) (J : fl_J) (hx : ∀ w2 : Value, fl_dn fB66 (27, [.ref r0, .int (lr_66_4 i1 r0 M), w2], [], M, J) r) : fl_dn fB66 (4, [.ref r0, .int i1, .int 0], [], M, J) r := by
  have hb := fi_bd (M r0 0)
  have key : ∀ (n m : Nat), m + n = ((M r0 0)).toNatClampNeg → fl_dn fB66 (4, [.ref r0, .int (lq_66_4 i1 r0 M m), .int (Int32.ofNat m)], [], M, J) r := by
    intro n
    induction n with
    | zero =>
      intro m hm
      have hm : m = ((M r0 0)).toNatClampNeg := by omega
      have hn : ¬ ((Int32.ofNat m) < (M r0 0)) := fun z => by have z := (fi_lt (by omega)).mp z; omega
      exact ts_66_4 (lq_66_4 i1 r0 M m) (Int32.ofNat m) r0 M J (fun h1 => absurd h1 hn) (fun h1 => (by have e : lr_66_4 i1 r0 M = lq_66_4 i1 r0 M m := (by show lq_66_4 i1 r0 M (((M r0 0)).toNatClampNeg) = _; rw [← hm]); rw [e] at hx; exact hx _))
    | succ n ih =>
      intro m hm
      have hp : (Int32.ofNat m) < (M r0 0) := by exact (fi_lt (by omega)).mpr (by omega)
      refine ts_66_4 (lq_66_4 i1 r0 M m) (Int32.ofNat m) r0 M J (fun h1 => ?_) (fun h1 => absurd hp h1)
      · have e : lq_66_4 i1 r0 M (m + 1) = ((lq_66_4 i1 r0 M m) + (M (r0 + 3) (Int32.ofNat m).toNatClampNeg)) := by
          rw [lqs_66_4]
          unfold ls_66_4
          rfl
        have q := ih (m + 1) (by omega)
        rw [e] at q
        first | (rw [fi_s]; exact q) | (rw [← fi_s] at q; exact q) | (simp only [fi_s] at q ⊢; exact q)
  exact key (((M r0 0)).toNatClampNeg) 0 (Nat.zero_add _)
theorem cc_66 (M : fl_M) (J : fl_J) (T : Nat) : fl_C 66 [.ref T] M J (some (.int (lr_66_4 0 T M)), M, J) :=
 fl_Co (B := fB66) rfl rfl <|
 fl_td (s' := (4, [.ref T, .int 0, .int 0], [], M, J)) (fl_n 4 rfl) <|
 lp_66_4 0 T M J (fun u16 =>
  fx_gen (p := fun (II17 : Int32) => fl_dn fB66 (27, [.ref T, .int II17, u16], [], M, J) (some (.int (lr_66_4 0 T M)), M, J)) (lr_66_4 0 T M) (fun II17 eII17 =>
   fl_td (s' := (28, [.ref T, .int II17, u16], [.int II17], M, J)) (fl_n 1 rfl) <|
   fl_rt rfl (fun _ => rfl) (by subst eII17; rfl)))
def fB77 : sm_P := (fun pc => sm_ch sm_t77 pc, sm_Kn 1 4 none, fun x => sm_lk sm_ca1 x, some .int)
-- MiceRegisters$Register.leftTogether 4
def ls_77_4 (i1 : Int32) (r0 : Nat) (M : fl_M) (m : Nat) (q : Int32) : Int32 := (if ((i1 >>> ((Int32.ofNat m) &&& 31)) &&& 1) = 1 then (q + (M (r0 + 3) (Int32.ofNat m).toNatClampNeg)) else (q + 0))
def lq_77_4 (i1 i2 : Int32) (r0 : Nat) (M : fl_M) (m : Nat) : Int32 := fx_it (ls_77_4 i1 r0 M) m i2
theorem lqs_77_4 (i1 i2 : Int32) (r0 : Nat) (M : fl_M) (m : Nat) : lq_77_4 i1 i2 r0 M (m + 1) = (ls_77_4 i1 r0 M) m (lq_77_4 i1 i2 r0 M m) := by
  unfold lq_77_4
  exact fx_it_s _ _ _
def lr_77_4 (i1 i2 : Int32) (r0 : Nat) (M : fl_M) : Int32 := (lq_77_4 i1 i2 r0 M (((M r0 0)).toNatClampNeg))
theorem ts_77_4 {r : fl_Q} (i1 i2 i3 : Int32) (r0 : Nat) (M : fl_M) (J : fl_J) (q1 : (i3 < (M r0 0)) → (((i1 >>> (i3 &&& 31)) &&& 1) = 1) → fl_dn fB77 (4, [.ref r0, .int i1, .int (i2 + (M (r0 + 3) i3.toNatClampNeg)), .int (i3 + 1)], [], M, J) r) (q2 : (i3 < (M r0 0)) → (¬ (((i1 >>> (i3 &&& 31)) &&& 1) = 1)) → fl_dn fB77 (4, [.ref r0, .int i1, .int (i2 + 0), .int (i3 + 1)], [], M, J) r) (q3 : (¬ (i3 < (M r0 0))) → fl_dn fB77 (40, [.ref r0, .int i1, .int i2, .int i3], [], M, J) r) : fl_dn fB77 (4, [.ref r0, .int i1, .int i2, .int i3], [], M, J) r :=
 fl_td (s' := (9, [.ref r0, .int i1, .int i2, .int i3], [.int (M r0 0), .int i3], M, J)) (fl_n 3 rfl) <|
 fl_dnot (fl_ic (t := 40) rfl rfl) fl_nlt (fun h1 =>
  fl_td (s' := (19, [.ref r0, .int i1, .int i2, .int i3], [.int 1, .int ((i1 >>> (i3 &&& 31)) &&& 1), .int i2], M, J)) (fl_n 7 rfl) <|
  fl_dnot (fl_ic (t := 31) rfl rfl) fl_cF (fun h2 =>
   fl_td (s' := (4, [.ref r0, .int i1, .int (i2 + (M (r0 + 3) i3.toNatClampNeg)), .int (i3 + 1)], [], M, J)) (fl_n 9 rfl) <|
   (q1 h1 h2)) (fun h2 =>
   fl_td (s' := (4, [.ref r0, .int i1, .int (i2 + 0), .int (i3 + 1)], [], M, J)) (fl_n 5 rfl) <|
   (q2 h1 h2))) (fun h1 =>
  (q3 h1))
theorem lp_77_4 {r : fl_Q} (i1 i2 : Int32) (r0 : Nat) (M : fl_M) (J : fl_J) (hx : ∀ w3 : Value, fl_dn fB77 (40, [.ref r0, .int i1, .int (lr_77_4 i1 i2 r0 M), w3], [], M, J) r) : fl_dn fB77 (4, [.ref r0, .int i1, .int i2, .int 0], [], M, J) r := by
  have hb := fi_bd (M r0 0)
  have key : ∀ (n m : Nat), m + n = ((M r0 0)).toNatClampNeg → fl_dn fB77 (4, [.ref r0, .int i1, .int (lq_77_4 i1 i2 r0 M m), .int (Int32.ofNat m)], [], M, J) r := by
    intro n
    induction n with
    | zero =>
      intro m hm
      have hm : m = ((M r0 0)).toNatClampNeg := by omega
      have hn : ¬ ((Int32.ofNat m) < (M r0 0)) := fun z => by have z := (fi_lt (by omega)).mp z; omega
      exact ts_77_4 i1 (lq_77_4 i1 i2 r0 M m) (Int32.ofNat m) r0 M J (fun h1 h2 => absurd h1 hn) (fun h1 h2 => absurd h1 hn) (fun h1 => (by have e : lr_77_4 i1 i2 r0 M = lq_77_4 i1 i2 r0 M m := (by show lq_77_4 i1 i2 r0 M (((M r0 0)).toNatClampNeg) = _; rw [← hm]); rw [e] at hx; exact hx _))
    | succ n ih =>
      intro m hm
      have hp : (Int32.ofNat m) < (M r0 0) := by exact (fi_lt (by omega)).mpr (by omega)
      refine ts_77_4 i1 (lq_77_4 i1 i2 r0 M m) (Int32.ofNat m) r0 M J (fun h1 h2 => ?_) (fun h1 h2 => ?_) (fun h1 => absurd hp h1)
      · have e : lq_77_4 i1 i2 r0 M (m + 1) = ((lq_77_4 i1 i2 r0 M m) + (M (r0 + 3) (Int32.ofNat m).toNatClampNeg)) := by
          rw [lqs_77_4]
          unfold ls_77_4
          simp only [if_pos h2]
        have q := ih (m + 1) (by omega)
        rw [e] at q
        first | (rw [fi_s]; exact q) | (rw [← fi_s] at q; exact q) | (simp only [fi_s] at q ⊢; exact q)
      · have e : lq_77_4 i1 i2 r0 M (m + 1) = ((lq_77_4 i1 i2 r0 M m) + 0) := by
          rw [lqs_77_4]
          unfold ls_77_4
          simp only [if_neg h2]
        have q := ih (m + 1) (by omega)
        rw [e] at q
        first | (rw [fi_s]; exact q) | (rw [← fi_s] at q; exact q) | (simp only [fi_s] at q ⊢; exact q)
  exact key (((M r0 0)).toNatClampNeg) 0 (Nat.zero_add _)
theorem cc_77 (M : fl_M) (J : fl_J) (s : Int32) (T : Nat) : fl_C 77 [.ref T, .int s] M J (some (.int (lr_77_4 s 0 T M)), M, J) :=
 fl_Co (B := fB77) rfl rfl <|
 fl_td (s' := (4, [.ref T, .int s, .int 0, .int 0], [], M, J)) (fl_n 4 rfl) <|
 lp_77_4 s 0 T M J (fun u18 =>
  fx_gen (p := fun (II19 : Int32) => fl_dn fB77 (40, [.ref T, .int s, .int II19, u18], [], M, J) (some (.int (lr_77_4 s 0 T M)), M, J)) (lr_77_4 s 0 T M) (fun II19 eII19 =>
   fl_td (s' := (41, [.ref T, .int s, .int II19, u18], [.int II19], M, J)) (fl_n 1 rfl) <|
   fl_rt rfl (fun _ => rfl) (by subst eII19; rfl)))
def fB61 : sm_P := (fun pc => sm_ch sm_t61 pc, sm_Kn 1 3 none, fun x => sm_lk sm_ca1 x, some .int)
-- MiceRegisters$Register.linesEatenUp 4
def ls_61_4 (r0 : Nat) (M : fl_M) (m : Nat) (q : Int32) : Int32 := (if (M (r0 + 3) (Int32.ofNat m).toNatClampNeg) = 0 then (q ||| ((1 : Int32) <<< ((Int32.ofNat m) &&& 31))) else (q ||| 0))
def lq_61_4 (i1 : Int32) (r0 : Nat) (M : fl_M) (m : Nat) : Int32 := fx_it (ls_61_4 r0 M) m i1
theorem lqs_61_4 (i1 : Int32) (r0 : Nat) (M : fl_M) (m : Nat) : lq_61_4 i1 r0 M (m + 1) = (ls_61_4 r0 M) m (lq_61_4 i1 r0 M m) := by
  unfold lq_61_4
  exact fx_it_s _ _ _
def lr_61_4 (i1 : Int32) (r0 : Nat) (M : fl_M) : Int32 := (lq_61_4 i1 r0 M (((M r0 0)).toNatClampNeg))
theorem ts_61_4 {r : fl_Q} (i1 i2 : Int32) (r0 : Nat) (M : fl_M) (J : fl_J) (q1 : (i2 < (M r0 0)) → ((M (r0 + 3) i2.toNatClampNeg) = 0) → fl_dn fB61 (4, [.ref r0, .int (i1 ||| ((1 : Int32) <<< (i2 &&& 31))), .int (i2 + 1)], [], M, J) r) (q2 : (i2 < (M r0 0)) → (¬ ((M (r0 + 3) i2.toNatClampNeg) = 0)) → fl_dn fB61 (4, [.ref r0, .int (i1 ||| 0), .int (i2 + 1)], [], M, J) r) (q3 : (¬ (i2 < (M r0 0))) → fl_dn fB61 (37, [.ref r0, .int i1, .int i2], [], M, J) r) : fl_dn fB61 (4, [.ref r0, .int i1, .int i2], [], M, J) r :=
 fl_td (s' := (9, [.ref r0, .int i1, .int i2], [.int (M r0 0), .int i2], M, J)) (fl_n 3 rfl) <|
 fl_dnot (fl_ic (t := 37) rfl rfl) fl_nlt (fun h1 =>
  fl_td (s' := (19, [.ref r0, .int i1, .int i2], [.int (M (r0 + 3) i2.toNatClampNeg), .int i1], M, J)) (fl_n 5 rfl) <|
  fl_dnot (fl_if (t := 28) rfl rfl) fl_cF (fun h2 =>
   fl_td (s' := (4, [.ref r0, .int (i1 ||| ((1 : Int32) <<< (i2 &&& 31))), .int (i2 + 1)], [], M, J)) (fl_n 8 rfl) <|
   (q1 h1 h2)) (fun h2 =>
   fl_td (s' := (4, [.ref r0, .int (i1 ||| 0), .int (i2 + 1)], [], M, J)) (fl_n 5 rfl) <|
   (q2 h1 h2))) (fun h1 =>
  (q3 h1))
theorem lp_61_4 {r : fl_Q} (i1 : Int32) (r0 : Nat) (M : fl_M) (J : fl_J) (hx : ∀ w2 : Value, fl_dn fB61 (37, [.ref r0, .int (lr_61_4 i1 r0 M), w2], [], M, J) r) : fl_dn fB61 (4, [.ref r0, .int i1, .int 0], [], M, J) r := by
  have hb := fi_bd (M r0 0)
  have key : ∀ (n m : Nat), m + n = ((M r0 0)).toNatClampNeg → fl_dn fB61 (4, [.ref r0, .int (lq_61_4 i1 r0 M m), .int (Int32.ofNat m)], [], M, J) r := by
    intro n
    induction n with
    | zero =>
      intro m hm
      have hm : m = ((M r0 0)).toNatClampNeg := by omega
      have hn : ¬ ((Int32.ofNat m) < (M r0 0)) := fun z => by have z := (fi_lt (by omega)).mp z; omega
      exact ts_61_4 (lq_61_4 i1 r0 M m) (Int32.ofNat m) r0 M J (fun h1 h2 => absurd h1 hn) (fun h1 h2 => absurd h1 hn) (fun h1 => (by have e : lr_61_4 i1 r0 M = lq_61_4 i1 r0 M m := (by show lq_61_4 i1 r0 M (((M r0 0)).toNatClampNeg) = _; rw [← hm]); rw [e] at hx; exact hx _))
    | succ n ih =>
      intro m hm
      have hp : (Int32.ofNat m) < (M r0 0) := by exact (fi_lt (by omega)).mpr (by omega)
      refine ts_61_4 (lq_61_4 i1 r0 M m) (Int32.ofNat m) r0 M J (fun h1 h2 => ?_) (fun h1 h2 => ?_) (fun h1 => absurd hp h1)
      · have e : lq_61_4 i1 r0 M (m + 1) = ((lq_61_4 i1 r0 M m) ||| ((1 : Int32) <<< ((Int32.ofNat m) &&& 31))) := by
          rw [lqs_61_4]
          unfold ls_61_4
          simp only [if_pos h2]
        have q := ih (m + 1) (by omega)
        rw [e] at q
        first | (rw [fi_s]; exact q) | (rw [← fi_s] at q; exact q) | (simp only [fi_s] at q ⊢; exact q)
      · have e : lq_61_4 i1 r0 M (m + 1) = ((lq_61_4 i1 r0 M m) ||| 0) := by
          rw [lqs_61_4]
          unfold ls_61_4
          simp only [if_neg h2]
        have q := ih (m + 1) (by omega)
        rw [e] at q
        first | (rw [fi_s]; exact q) | (rw [← fi_s] at q; exact q) | (simp only [fi_s] at q ⊢; exact q)
  exact key (((M r0 0)).toNatClampNeg) 0 (Nat.zero_add _)
theorem cc_61 (M : fl_M) (J : fl_J) (T : Nat) : fl_C 61 [.ref T] M J (some (.int (lr_61_4 0 T M)), M, J) :=
 fl_Co (B := fB61) rfl rfl <|
 fl_td (s' := (4, [.ref T, .int 0, .int 0], [], M, J)) (fl_n 4 rfl) <|
 lp_61_4 0 T M J (fun u20 =>
  fx_gen (p := fun (II21 : Int32) => fl_dn fB61 (37, [.ref T, .int II21, u20], [], M, J) (some (.int (lr_61_4 0 T M)), M, J)) (lr_61_4 0 T M) (fun II21 eII21 =>
   fl_td (s' := (38, [.ref T, .int II21, u20], [.int II21], M, J)) (fl_n 1 rfl) <|
   fl_rt rfl (fun _ => rfl) (by subst eII21; rfl)))
def fB95 : sm_P := (fun pc => sm_ch sm_t95 pc, sm_Kn 1 4 none, fun x => sm_lk sm_ca1 x, some .int)
-- MiceRegisters$Register.miceOfKind 4
def ls_95_4 (i1 : Int32) (r0 : Nat) (M : fl_M) (m : Nat) (q : Int32) : Int32 := (if (i1 = 0) ∨ (((M (r0 + 5) (Int32.ofNat m).toNatClampNeg) = i1) ∨ ((((M (r0 + 5) (Int32.ofNat m).toNatClampNeg) = 4) ∧ ((i1 = 2) ∨ (((M (r0 + 5) (Int32.ofNat m).toNatClampNeg) = 5) ∧ (i1 = 3)))) ∨ ((¬ ((M (r0 + 5) (Int32.ofNat m).toNatClampNeg) = 4)) ∧ (((M (r0 + 5) (Int32.ofNat m).toNatClampNeg) = 5) ∧ (i1 = 3))))) then (q + 1) else (q + 0))
def lq_95_4 (i1 i2 : Int32) (r0 : Nat) (M : fl_M) (m : Nat) : Int32 := fx_it (ls_95_4 i1 r0 M) m i2
theorem lqs_95_4 (i1 i2 : Int32) (r0 : Nat) (M : fl_M) (m : Nat) : lq_95_4 i1 i2 r0 M (m + 1) = (ls_95_4 i1 r0 M) m (lq_95_4 i1 i2 r0 M m) := by
  unfold lq_95_4
  exact fx_it_s _ _ _
def lr_95_4 (i1 i2 : Int32) (r0 : Nat) (M : fl_M) : Int32 := (lq_95_4 i1 i2 r0 M (((M r0 1)).toNatClampNeg))
theorem ts_95_4 {r : fl_Q} (i1 i2 i3 : Int32) (r0 : Nat) (M : fl_M) (J : fl_J) (q1 : (i3 < (M r0 1)) → ((i1 = 0) ∨ (((M (r0 + 5) i3.toNatClampNeg) = i1) ∨ ((((M (r0 + 5) i3.toNatClampNeg) = 4) ∧ ((i1 = 2) ∨ (((M (r0 + 5) i3.toNatClampNeg) = 5) ∧ (i1 = 3)))) ∨ ((¬ ((M (r0 + 5) i3.toNatClampNeg) = 4)) ∧ (((M (r0 + 5) i3.toNatClampNeg) = 5) ∧ (i1 = 3)))))) → fl_dn fB95 (4, [.ref r0, .int i1, .int (i2 + 1), .int (i3 + 1)], [], M, J) r) (q2 : (i3 < (M r0 1)) → (¬ ((i1 = 0) ∨ (((M (r0 + 5) i3.toNatClampNeg) = i1) ∨ ((((M (r0 + 5) i3.toNatClampNeg) = 4) ∧ ((i1 = 2) ∨ (((M (r0 + 5) i3.toNatClampNeg) = 5) ∧ (i1 = 3)))) ∨ ((¬ ((M (r0 + 5) i3.toNatClampNeg) = 4)) ∧ (((M (r0 + 5) i3.toNatClampNeg) = 5) ∧ (i1 = 3))))))) → fl_dn fB95 (4, [.ref r0, .int i1, .int (i2 + 0), .int (i3 + 1)], [], M, J) r) (q3 : (¬ (i3 < (M r0 1))) → fl_dn fB95 (39, [.ref r0, .int i1, .int i2, .int i3], [], M, J) r) : fl_dn fB95 (4, [.ref r0, .int i1, .int i2, .int i3], [], M, J) r :=
 fl_td (s' := (9, [.ref r0, .int i1, .int i2, .int i3], [.int (M r0 1), .int i3], M, J)) (fl_n 3 rfl) <|
 fl_dnot (fl_ic (t := 39) rfl rfl) fl_nlt (fun h1 =>
  fl_td (s' := (20, [.ref r0, .int i1, .int i2, .int i3], [.int i1, .int (M (r0 + 5) i3.toNatClampNeg), .int i2], M, J)) (fl_n 6 rfl) <|
  fl_td (s' := (23, [.ref r0, .int i1, .int i2, .int i3], [.int (if (i1 = 0) ∨ (((M (r0 + 5) i3.toNatClampNeg) = i1) ∨ ((((M (r0 + 5) i3.toNatClampNeg) = 4) ∧ ((i1 = 2) ∨ (((M (r0 + 5) i3.toNatClampNeg) = 5) ∧ (i1 = 3)))) ∨ ((¬ ((M (r0 + 5) i3.toNatClampNeg) = 4)) ∧ (((M (r0 + 5) i3.toNatClampNeg) = 5) ∧ (i1 = 3))))) then 1 else 0), .int i2], M, J)) (fl_cs (o := some (.int (if (i1 = 0) ∨ (((M (r0 + 5) i3.toNatClampNeg) = i1) ∨ ((((M (r0 + 5) i3.toNatClampNeg) = 4) ∧ ((i1 = 2) ∨ (((M (r0 + 5) i3.toNatClampNeg) = 5) ∧ (i1 = 3)))) ∨ ((¬ ((M (r0 + 5) i3.toNatClampNeg) = 4)) ∧ (((M (r0 + 5) i3.toNatClampNeg) = 5) ∧ (i1 = 3))))) then 1 else 0))) rfl rfl rfl (cc_37 M J (M (r0 + 5) i3.toNatClampNeg) i1) rfl) <|
  fl_dnot (fl_if (t := 30) rfl rfl) fl_b0 (fun h2 =>
   fl_td (s' := (4, [.ref r0, .int i1, .int (i2 + 1), .int (i3 + 1)], [], M, J)) (fl_n 6 rfl) <|
   (q1 h1 h2)) (fun h2 =>
   fl_td (s' := (4, [.ref r0, .int i1, .int (i2 + 0), .int (i3 + 1)], [], M, J)) (fl_n 5 rfl) <|
   (q2 h1 h2))) (fun h1 =>
  (q3 h1))
theorem lp_95_4 {r : fl_Q} (i1 i2 : Int32) (r0 : Nat) (M : fl_M) (J : fl_J) (hx : ∀ w3 : Value, fl_dn fB95 (39, [.ref r0, .int i1, .int (lr_95_4 i1 i2 r0 M), w3], [], M, J) r) : fl_dn fB95 (4, [.ref r0, .int i1, .int i2, .int 0], [], M, J) r := by
  have hb := fi_bd (M r0 1)
  have key : ∀ (n m : Nat), m + n = ((M r0 1)).toNatClampNeg → fl_dn fB95 (4, [.ref r0, .int i1, .int (lq_95_4 i1 i2 r0 M m), .int (Int32.ofNat m)], [], M, J) r := by
    intro n
    induction n with
    | zero =>
      intro m hm
      have hm : m = ((M r0 1)).toNatClampNeg := by omega
      have hn : ¬ ((Int32.ofNat m) < (M r0 1)) := fun z => by have z := (fi_lt (by omega)).mp z; omega
      exact ts_95_4 i1 (lq_95_4 i1 i2 r0 M m) (Int32.ofNat m) r0 M J (fun h1 h2 => absurd h1 hn) (fun h1 h2 => absurd h1 hn) (fun h1 => (by have e : lr_95_4 i1 i2 r0 M = lq_95_4 i1 i2 r0 M m := (by show lq_95_4 i1 i2 r0 M (((M r0 1)).toNatClampNeg) = _; rw [← hm]); rw [e] at hx; exact hx _))
    | succ n ih =>
      intro m hm
      have hp : (Int32.ofNat m) < (M r0 1) := by exact (fi_lt (by omega)).mpr (by omega)
      refine ts_95_4 i1 (lq_95_4 i1 i2 r0 M m) (Int32.ofNat m) r0 M J (fun h1 h2 => ?_) (fun h1 h2 => ?_) (fun h1 => absurd hp h1)
      · have e : lq_95_4 i1 i2 r0 M (m + 1) = ((lq_95_4 i1 i2 r0 M m) + 1) := by
          rw [lqs_95_4]
          unfold ls_95_4
          simp only [if_pos h2]
        have q := ih (m + 1) (by omega)
        rw [e] at q
        first | (rw [fi_s]; exact q) | (rw [← fi_s] at q; exact q) | (simp only [fi_s] at q ⊢; exact q)
      · have e : lq_95_4 i1 i2 r0 M (m + 1) = ((lq_95_4 i1 i2 r0 M m) + 0) := by
          rw [lqs_95_4]
          unfold ls_95_4
          simp only [if_neg h2]
        have q := ih (m + 1) (by omega)
        rw [e] at q
        first | (rw [fi_s]; exact q) | (rw [← fi_s] at q; exact q) | (simp only [fi_s] at q ⊢; exact q)
  exact key (((M r0 1)).toNatClampNeg) 0 (Nat.zero_add _)
theorem cc_95 (M : fl_M) (J : fl_J) (kind : Int32) (T : Nat) : fl_C 95 [.ref T, .int kind] M J (some (.int (lr_95_4 kind 0 T M)), M, J) :=
 fl_Co (B := fB95) rfl rfl <|
 fl_td (s' := (4, [.ref T, .int kind, .int 0, .int 0], [], M, J)) (fl_n 4 rfl) <|
 lp_95_4 kind 0 T M J (fun u22 =>
  fx_gen (p := fun (II23 : Int32) => fl_dn fB95 (39, [.ref T, .int kind, .int II23, u22], [], M, J) (some (.int (lr_95_4 kind 0 T M)), M, J)) (lr_95_4 kind 0 T M) (fun II23 eII23 =>
   fl_td (s' := (40, [.ref T, .int kind, .int II23, u22], [.int II23], M, J)) (fl_n 1 rfl) <|
   fl_rt rfl (fun _ => rfl) (by subst eII23; rfl)))
def fB22 : sm_P := (fun pc => sm_ch sm_t22 pc, sm_Kn 1 2 none, fun x => sm_lk sm_ca1 x, none)
-- MiceRegisters$Register.beginAnew 18
def ls_22_18 (r0 : Nat) (m : Nat) (q : fl_M) : fl_M := (fl_u (fl_u q (r0 + 3) (Int32.ofNat m).toNatClampNeg (q (r0 + 2) (Int32.ofNat m).toNatClampNeg)) (r0 + 4) (Int32.ofNat m).toNatClampNeg 0)
def lq_22_18 (r0 : Nat) (M : fl_M) (m : Nat) : fl_M := fx_it (ls_22_18 r0) m M
theorem lqs_22_18 (r0 : Nat) (M : fl_M) (m : Nat) : lq_22_18 r0 M (m + 1) = (ls_22_18 r0) m (lq_22_18 r0 M m) := by
  unfold lq_22_18
  exact fx_it_s _ _ _
def lr_22_18 (r0 : Nat) (M : fl_M) : fl_M := (lq_22_18 r0 M (((M r0 0)).toNatClampNeg))
theorem ts_22_18 {r : fl_Q} (i1 : Int32) (r0 : Nat) (M : fl_M) (J : fl_J) (q1 : (i1 < (M r0 0)) → fl_dn fB22 (18, [.ref r0, .int (i1 + 1)], [], (fl_u (fl_u M (r0 + 3) i1.toNatClampNeg (M (r0 + 2) i1.toNatClampNeg)) (r0 + 4) i1.toNatClampNeg 0), J) r) (q2 : (¬ (i1 < (M r0 0))) → fl_dn fB22 (51, [.ref r0, .int i1], [], M, J) r) : fl_dn fB22 (18, [.ref r0, .int i1], [], M, J) r :=
 fl_td (s' := (23, [.ref r0, .int i1], [.int (M r0 0), .int i1], M, J)) (fl_n 3 rfl) <|
 fl_dnot (fl_ic (t := 51) rfl rfl) fl_nlt (fun h1 =>
  fl_td (s' := (18, [.ref r0, .int (i1 + 1)], [], (fl_u (fl_u M (r0 + 3) i1.toNatClampNeg (M (r0 + 2) i1.toNatClampNeg)) (r0 + 4) i1.toNatClampNeg 0), J)) (fl_n 15 rfl) <|
  (q1 h1)) (fun h1 =>
  (q2 h1))
theorem lk_22_18 (r0 : Nat) (M : fl_M) (m : Nat) : ((lq_22_18 r0 M m) r0 0) = (M r0 0) := by
  induction m with
  | zero => rfl
  | succ m ih =>
    rw [← ih]
    rw [lqs_22_18]
    generalize lq_22_18 r0 M m = q
    unfold ls_22_18
    (repeat' split) <;> first | with_reducible rfl | (simp [fl_u]; done) | rfl
theorem lp_22_18 {r : fl_Q} (r0 : Nat) (M : fl_M) (J : fl_J) (hx : ∀ w1 : Value, fl_dn fB22 (51, [.ref r0, w1], [], (lr_22_18 r0 M), J) r) : fl_dn fB22 (18, [.ref r0, .int 0], [], M, J) r := by
  have hb := fi_bd (M r0 0)
  have hB := fun m => lk_22_18 r0 M m
  have key : ∀ (n m : Nat), m + n = ((M r0 0)).toNatClampNeg → fl_dn fB22 (18, [.ref r0, .int (Int32.ofNat m)], [], (lq_22_18 r0 M m), J) r := by
    intro n
    induction n with
    | zero =>
      intro m hm
      have hm : m = ((M r0 0)).toNatClampNeg := by omega
      have hn : ¬ ((Int32.ofNat m) < ((lq_22_18 r0 M m) r0 0)) := fun z => by rw [hB m] at z; have z := (fi_lt (by omega)).mp z; omega
      exact ts_22_18 (Int32.ofNat m) r0 (lq_22_18 r0 M m) J (fun h1 => absurd h1 hn) (fun h1 => (by have e : lr_22_18 r0 M = lq_22_18 r0 M m := (by show lq_22_18 r0 M (((M r0 0)).toNatClampNeg) = _; rw [← hm]); rw [e] at hx; exact hx _))
    | succ n ih =>
      intro m hm
      have hp : (Int32.ofNat m) < ((lq_22_18 r0 M m) r0 0) := by rw [hB m]; exact (fi_lt (by omega)).mpr (by omega)
      refine ts_22_18 (Int32.ofNat m) r0 (lq_22_18 r0 M m) J (fun h1 => ?_) (fun h1 => absurd hp h1)
      · have e : lq_22_18 r0 M (m + 1) = (fl_u (fl_u (lq_22_18 r0 M m) (r0 + 3) (Int32.ofNat m).toNatClampNeg ((lq_22_18 r0 M m) (r0 + 2) (Int32.ofNat m).toNatClampNeg)) (r0 + 4) (Int32.ofNat m).toNatClampNeg 0) := by
          rw [lqs_22_18]
          unfold ls_22_18
          rfl
        have q := ih (m + 1) (by omega)
        rw [e] at q
        first | (rw [fi_s]; exact q) | (rw [← fi_s] at q; exact q) | (simp only [fi_s] at q ⊢; exact q)
  exact key (((M r0 0)).toNatClampNeg) 0 (Nat.zero_add _)
-- MiceRegisters$Register.beginAnew 53
def ls_22_53 (r0 : Nat) (m : Nat) (q : fl_M) : fl_M := (fl_u q (r0 + 8) (Int32.ofNat m).toNatClampNeg (q (r0 + 7) (Int32.ofNat m).toNatClampNeg))
def lq_22_53 (r0 : Nat) (M : fl_M) (m : Nat) : fl_M := fx_it (ls_22_53 r0) m M
theorem lqs_22_53 (r0 : Nat) (M : fl_M) (m : Nat) : lq_22_53 r0 M (m + 1) = (ls_22_53 r0) m (lq_22_53 r0 M m) := by
  unfold lq_22_53
  exact fx_it_s _ _ _
def lr_22_53 (r0 : Nat) (M : fl_M) : fl_M := (lq_22_53 r0 M (((M r0 1)).toNatClampNeg))
theorem ts_22_53 {r : fl_Q} (i1 : Int32) (r0 : Nat) (M : fl_M) (J : fl_J) (q1 : (i1 < (M r0 1)) → fl_dn fB22 (53, [.ref r0, .int (i1 + 1)], [], (fl_u M (r0 + 8) i1.toNatClampNeg (M (r0 + 7) i1.toNatClampNeg)), J) r) (q2 : (¬ (i1 < (M r0 1))) → fl_dn fB22 (79, [.ref r0, .int i1], [], M, J) r) : fl_dn fB22 (53, [.ref r0, .int i1], [], M, J) r :=
 fl_td (s' := (58, [.ref r0, .int i1], [.int (M r0 1), .int i1], M, J)) (fl_n 3 rfl) <|
 fl_dnot (fl_ic (t := 79) rfl rfl) fl_nlt (fun h1 =>
  fl_td (s' := (53, [.ref r0, .int (i1 + 1)], [], (fl_u M (r0 + 8) i1.toNatClampNeg (M (r0 + 7) i1.toNatClampNeg)), J)) (fl_n 10 rfl) <|
  (q1 h1)) (fun h1 =>
  (q2 h1))
theorem lk_22_53 (r0 : Nat) (M : fl_M) (m : Nat) : ((lq_22_53 r0 M m) r0 1) = (M r0 1) := by
  induction m with
  | zero => rfl
  | succ m ih =>
    rw [← ih]
    rw [lqs_22_53]
    generalize lq_22_53 r0 M m = q
    unfold ls_22_53
    (repeat' split) <;> first | with_reducible rfl | (simp [fl_u]; done) | rfl
theorem lp_22_53 {r : fl_Q} (r0 : Nat) (M : fl_M) (J : fl_J) (hx : ∀ w1 : Value, fl_dn fB22 (79, [.ref r0, w1], [], (lr_22_53 r0 M), J) r) : fl_dn fB22 (53, [.ref r0, .int 0], [], M, J) r := by
  have hb := fi_bd (M r0 1)
  have hB := fun m => lk_22_53 r0 M m
  have key : ∀ (n m : Nat), m + n = ((M r0 1)).toNatClampNeg → fl_dn fB22 (53, [.ref r0, .int (Int32.ofNat m)], [], (lq_22_53 r0 M m), J) r := by
    intro n
    induction n with
    | zero =>
      intro m hm
      have hm : m = ((M r0 1)).toNatClampNeg := by omega
      have hn : ¬ ((Int32.ofNat m) < ((lq_22_53 r0 M m) r0 1)) := fun z => by rw [hB m] at z; have z := (fi_lt (by omega)).mp z; omega
      exact ts_22_53 (Int32.ofNat m) r0 (lq_22_53 r0 M m) J (fun h1 => absurd h1 hn) (fun h1 => (by have e : lr_22_53 r0 M = lq_22_53 r0 M m := (by show lq_22_53 r0 M (((M r0 1)).toNatClampNeg) = _; rw [← hm]); rw [e] at hx; exact hx _))
    | succ n ih =>
      intro m hm
      have hp : (Int32.ofNat m) < ((lq_22_53 r0 M m) r0 1) := by rw [hB m]; exact (fi_lt (by omega)).mpr (by omega)
      refine ts_22_53 (Int32.ofNat m) r0 (lq_22_53 r0 M m) J (fun h1 => ?_) (fun h1 => absurd hp h1)
      · have e : lq_22_53 r0 M (m + 1) = (fl_u (lq_22_53 r0 M m) (r0 + 8) (Int32.ofNat m).toNatClampNeg ((lq_22_53 r0 M m) (r0 + 7) (Int32.ofNat m).toNatClampNeg)) := by
          rw [lqs_22_53]
          unfold ls_22_53
          rfl
        have q := ih (m + 1) (by omega)
        rw [e] at q
        first | (rw [fi_s]; exact q) | (rw [← fi_s] at q; exact q) | (simp only [fi_s] at q ⊢; exact q)
  exact key (((M r0 1)).toNatClampNeg) 0 (Nat.zero_add _)
theorem cc_22 (M : fl_M) (J : fl_J) (T : Nat) : fl_C 22 [.ref T] M J (none, (lr_22_53 T (lr_22_18 T (fl_u (fl_u (fl_u M T 2 0) T 3 (-9)) T 4 0))), J) :=
 fl_Co (B := fB22) rfl rfl <|
 fl_td (s' := (18, [.ref T, .int 0], [], (fl_u (fl_u (fl_u M T 2 0) T 3 (-9)) T 4 0), J)) (fl_n 11 rfl) <|
 lp_22_18 T (fl_u (fl_u (fl_u M T 2 0) T 3 (-9)) T 4 0) J (fun u24 =>
  fx_gen (p := fun (MM25 : fl_M) => fl_dn fB22 (51, [.ref T, u24], [], MM25, J) (none, (lr_22_53 T (lr_22_18 T (fl_u (fl_u (fl_u M T 2 0) T 3 (-9)) T 4 0))), J)) (lr_22_18 T (fl_u (fl_u (fl_u M T 2 0) T 3 (-9)) T 4 0)) (fun MM25 eMM25 =>
   fl_td (s' := (53, [.ref T, .int 0], [], MM25, J)) (fl_n 2 rfl) <|
   lp_22_53 T MM25 J (fun u26 =>
    fx_gen (p := fun (MM27 : fl_M) => fl_dn fB22 (79, [.ref T, u26], [], MM27, J) (none, (lr_22_53 T (lr_22_18 T (fl_u (fl_u (fl_u M T 2 0) T 3 (-9)) T 4 0))), J)) (lr_22_53 T MM25) (fun MM27 eMM27 =>
     fl_rt rfl (fun _ => rfl) (by subst eMM25; subst eMM27; rfl)))))
theorem fr_22_18 {T : Nat} {M : fl_M} {c j : Nat} (hc : c < T ∨ T + 9 ≤ c) : (lr_22_18 T M) c j = M c j := by
  have g0 : ¬ c = T := by omega
  have g1 : ¬ c = T + 1 := by omega
  have g2 : ¬ c = T + 2 := by omega
  have g3 : ¬ c = T + 3 := by omega
  have g4 : ¬ c = T + 4 := by omega
  have g5 : ¬ c = T + 5 := by omega
  have g6 : ¬ c = T + 6 := by omega
  have g7 : ¬ c = T + 7 := by omega
  have g8 : ¬ c = T + 8 := by omega
  unfold lr_22_18 lq_22_18
  refine it_k (fun q : fl_M => q c j = M c j) rfl (fun m q hq => ?_)
  unfold ls_22_18
  (try repeat' split) <;> first | with_reducible exact hq | (simp [fl_u, g0, g1, g2, g3, g4, g5, g6, g7, g8, hq]; done)
theorem fr_22_53 {T : Nat} {M : fl_M} {c j : Nat} (hc : c < T ∨ T + 9 ≤ c) : (lr_22_53 T M) c j = M c j := by
  have g0 : ¬ c = T := by omega
  have g1 : ¬ c = T + 1 := by omega
  have g2 : ¬ c = T + 2 := by omega
  have g3 : ¬ c = T + 3 := by omega
  have g4 : ¬ c = T + 4 := by omega
  have g5 : ¬ c = T + 5 := by omega
  have g6 : ¬ c = T + 6 := by omega
  have g7 : ¬ c = T + 7 := by omega
  have g8 : ¬ c = T + 8 := by omega
  unfold lr_22_53 lq_22_53
  refine it_k (fun q : fl_M => q c j = M c j) rfl (fun m q hq => ?_)
  unfold ls_22_53
  (try repeat' split) <;> first | with_reducible exact hq | (simp [fl_u, g0, g1, g2, g3, g4, g5, g6, g7, g8, hq]; done)
def fB23 : sm_P := (fun pc => sm_ch sm_t23 pc, sm_Kn 1 3 none, fun x => sm_lk sm_ca1 x, none)
-- MiceRegisters$Register.takeFrom 42
def ls_23_42 (r0 r1 : Nat) (m : Nat) (q : fl_M) : fl_M := (fl_u (fl_u (fl_u (fl_u q (r0 + 1) (Int32.ofNat m).toNatClampNeg (q (r1 + 1) (Int32.ofNat m).toNatClampNeg)) (r0 + 2) (Int32.ofNat m).toNatClampNeg ((fl_u q (r0 + 1) (Int32.ofNat m).toNatClampNeg (q (r1 + 1) (Int32.ofNat m).toNatClampNeg)) (r1 + 2) (Int32.ofNat m).toNatClampNeg)) (r0 + 3) (Int32.ofNat m).toNatClampNeg ((fl_u (fl_u q (r0 + 1) (Int32.ofNat m).toNatClampNeg (q (r1 + 1) (Int32.ofNat m).toNatClampNeg)) (r0 + 2) (Int32.ofNat m).toNatClampNeg ((fl_u q (r0 + 1) (Int32.ofNat m).toNatClampNeg (q (r1 + 1) (Int32.ofNat m).toNatClampNeg)) (r1 + 2) (Int32.ofNat m).toNatClampNeg)) (r1 + 3) (Int32.ofNat m).toNatClampNeg)) (r0 + 4) (Int32.ofNat m).toNatClampNeg ((fl_u (fl_u (fl_u q (r0 + 1) (Int32.ofNat m).toNatClampNeg (q (r1 + 1) (Int32.ofNat m).toNatClampNeg)) (r0 + 2) (Int32.ofNat m).toNatClampNeg ((fl_u q (r0 + 1) (Int32.ofNat m).toNatClampNeg (q (r1 + 1) (Int32.ofNat m).toNatClampNeg)) (r1 + 2) (Int32.ofNat m).toNatClampNeg)) (r0 + 3) (Int32.ofNat m).toNatClampNeg ((fl_u (fl_u q (r0 + 1) (Int32.ofNat m).toNatClampNeg (q (r1 + 1) (Int32.ofNat m).toNatClampNeg)) (r0 + 2) (Int32.ofNat m).toNatClampNeg ((fl_u q (r0 + 1) (Int32.ofNat m).toNatClampNeg (q (r1 + 1) (Int32.ofNat m).toNatClampNeg)) (r1 + 2) (Int32.ofNat m).toNatClampNeg)) (r1 + 3) (Int32.ofNat m).toNatClampNeg)) (r1 + 4) (Int32.ofNat m).toNatClampNeg))
def lq_23_42 (r0 r1 : Nat) (M : fl_M) (m : Nat) : fl_M := fx_it (ls_23_42 r0 r1) m M
theorem lqs_23_42 (r0 r1 : Nat) (M : fl_M) (m : Nat) : lq_23_42 r0 r1 M (m + 1) = (ls_23_42 r0 r1) m (lq_23_42 r0 r1 M m) := by
  unfold lq_23_42
  exact fx_it_s _ _ _
def lr_23_42 (r0 r1 : Nat) (M : fl_M) : fl_M := (lq_23_42 r0 r1 M (((M r0 0)).toNatClampNeg))
theorem ts_23_42 {r : fl_Q} (i2 : Int32) (r0 r1 : Nat) (M : fl_M) (J : fl_J) (q1 : (i2 < (M r0 0)) → fl_dn fB23 (42, [.ref r0, .ref r1, .int (i2 + 1)], [], (fl_u (fl_u (fl_u (fl_u M (r0 + 1) i2.toNatClampNeg (M (r1 + 1) i2.toNatClampNeg)) (r0 + 2) i2.toNatClampNeg ((fl_u M (r0 + 1) i2.toNatClampNeg (M (r1 + 1) i2.toNatClampNeg)) (r1 + 2) i2.toNatClampNeg)) (r0 + 3) i2.toNatClampNeg ((fl_u (fl_u M (r0 + 1) i2.toNatClampNeg (M (r1 + 1) i2.toNatClampNeg)) (r0 + 2) i2.toNatClampNeg ((fl_u M (r0 + 1) i2.toNatClampNeg (M (r1 + 1) i2.toNatClampNeg)) (r1 + 2) i2.toNatClampNeg)) (r1 + 3) i2.toNatClampNeg)) (r0 + 4) i2.toNatClampNeg ((fl_u (fl_u (fl_u M (r0 + 1) i2.toNatClampNeg (M (r1 + 1) i2.toNatClampNeg)) (r0 + 2) i2.toNatClampNeg ((fl_u M (r0 + 1) i2.toNatClampNeg (M (r1 + 1) i2.toNatClampNeg)) (r1 + 2) i2.toNatClampNeg)) (r0 + 3) i2.toNatClampNeg ((fl_u (fl_u M (r0 + 1) i2.toNatClampNeg (M (r1 + 1) i2.toNatClampNeg)) (r0 + 2) i2.toNatClampNeg ((fl_u M (r0 + 1) i2.toNatClampNeg (M (r1 + 1) i2.toNatClampNeg)) (r1 + 2) i2.toNatClampNeg)) (r1 + 3) i2.toNatClampNeg)) (r1 + 4) i2.toNatClampNeg)), J) r) (q2 : (¬ (i2 < (M r0 0))) → fl_dn fB23 (104, [.ref r0, .ref r1, .int i2], [], M, J) r) : fl_dn fB23 (42, [.ref r0, .ref r1, .int i2], [], M, J) r :=
 fl_td (s' := (47, [.ref r0, .ref r1, .int i2], [.int (M r0 0), .int i2], M, J)) (fl_n 3 rfl) <|
 fl_dnot (fl_ic (t := 104) rfl rfl) fl_nlt (fun h1 =>
  fl_td (s' := (42, [.ref r0, .ref r1, .int (i2 + 1)], [], (fl_u (fl_u (fl_u (fl_u M (r0 + 1) i2.toNatClampNeg (M (r1 + 1) i2.toNatClampNeg)) (r0 + 2) i2.toNatClampNeg ((fl_u M (r0 + 1) i2.toNatClampNeg (M (r1 + 1) i2.toNatClampNeg)) (r1 + 2) i2.toNatClampNeg)) (r0 + 3) i2.toNatClampNeg ((fl_u (fl_u M (r0 + 1) i2.toNatClampNeg (M (r1 + 1) i2.toNatClampNeg)) (r0 + 2) i2.toNatClampNeg ((fl_u M (r0 + 1) i2.toNatClampNeg (M (r1 + 1) i2.toNatClampNeg)) (r1 + 2) i2.toNatClampNeg)) (r1 + 3) i2.toNatClampNeg)) (r0 + 4) i2.toNatClampNeg ((fl_u (fl_u (fl_u M (r0 + 1) i2.toNatClampNeg (M (r1 + 1) i2.toNatClampNeg)) (r0 + 2) i2.toNatClampNeg ((fl_u M (r0 + 1) i2.toNatClampNeg (M (r1 + 1) i2.toNatClampNeg)) (r1 + 2) i2.toNatClampNeg)) (r0 + 3) i2.toNatClampNeg ((fl_u (fl_u M (r0 + 1) i2.toNatClampNeg (M (r1 + 1) i2.toNatClampNeg)) (r0 + 2) i2.toNatClampNeg ((fl_u M (r0 + 1) i2.toNatClampNeg (M (r1 + 1) i2.toNatClampNeg)) (r1 + 2) i2.toNatClampNeg)) (r1 + 3) i2.toNatClampNeg)) (r1 + 4) i2.toNatClampNeg)), J)) (fl_n 34 rfl) <|
  (q1 h1)) (fun h1 =>
  (q2 h1))
theorem lk_23_42 (r0 r1 : Nat) (M : fl_M) (m : Nat) : ((lq_23_42 r0 r1 M m) r0 0) = (M r0 0) := by
  induction m with
  | zero => rfl
  | succ m ih =>
    rw [← ih]
    rw [lqs_23_42]
    generalize lq_23_42 r0 r1 M m = q
    unfold ls_23_42
    (repeat' split) <;> first | with_reducible rfl | (simp [fl_u, fr_22_18, fr_22_53]; done) | rfl
theorem lp_23_42 {r : fl_Q} (r0 r1 : Nat) (M : fl_M) (J : fl_J) (hx : ∀ w2 : Value, fl_dn fB23 (104, [.ref r0, .ref r1, w2], [], (lr_23_42 r0 r1 M), J) r) : fl_dn fB23 (42, [.ref r0, .ref r1, .int 0], [], M, J) r := by
  have hb := fi_bd (M r0 0)
  have hB := fun m => lk_23_42 r0 r1 M m
  have key : ∀ (n m : Nat), m + n = ((M r0 0)).toNatClampNeg → fl_dn fB23 (42, [.ref r0, .ref r1, .int (Int32.ofNat m)], [], (lq_23_42 r0 r1 M m), J) r := by
    intro n
    induction n with
    | zero =>
      intro m hm
      have hm : m = ((M r0 0)).toNatClampNeg := by omega
      have hn : ¬ ((Int32.ofNat m) < ((lq_23_42 r0 r1 M m) r0 0)) := fun z => by rw [hB m] at z; have z := (fi_lt (by omega)).mp z; omega
      exact ts_23_42 (Int32.ofNat m) r0 r1 (lq_23_42 r0 r1 M m) J (fun h1 => absurd h1 hn) (fun h1 => (by have e : lr_23_42 r0 r1 M = lq_23_42 r0 r1 M m := (by show lq_23_42 r0 r1 M (((M r0 0)).toNatClampNeg) = _; rw [← hm]); rw [e] at hx; exact hx _))
    | succ n ih =>
      intro m hm
      have hp : (Int32.ofNat m) < ((lq_23_42 r0 r1 M m) r0 0) := by rw [hB m]; exact (fi_lt (by omega)).mpr (by omega)
      refine ts_23_42 (Int32.ofNat m) r0 r1 (lq_23_42 r0 r1 M m) J (fun h1 => ?_) (fun h1 => absurd hp h1)
      · have e : lq_23_42 r0 r1 M (m + 1) = (fl_u (fl_u (fl_u (fl_u (lq_23_42 r0 r1 M m) (r0 + 1) (Int32.ofNat m).toNatClampNeg ((lq_23_42 r0 r1 M m) (r1 + 1) (Int32.ofNat m).toNatClampNeg)) (r0 + 2) (Int32.ofNat m).toNatClampNeg ((fl_u (lq_23_42 r0 r1 M m) (r0 + 1) (Int32.ofNat m).toNatClampNeg ((lq_23_42 r0 r1 M m) (r1 + 1) (Int32.ofNat m).toNatClampNeg)) (r1 + 2) (Int32.ofNat m).toNatClampNeg)) (r0 + 3) (Int32.ofNat m).toNatClampNeg ((fl_u (fl_u (lq_23_42 r0 r1 M m) (r0 + 1) (Int32.ofNat m).toNatClampNeg ((lq_23_42 r0 r1 M m) (r1 + 1) (Int32.ofNat m).toNatClampNeg)) (r0 + 2) (Int32.ofNat m).toNatClampNeg ((fl_u (lq_23_42 r0 r1 M m) (r0 + 1) (Int32.ofNat m).toNatClampNeg ((lq_23_42 r0 r1 M m) (r1 + 1) (Int32.ofNat m).toNatClampNeg)) (r1 + 2) (Int32.ofNat m).toNatClampNeg)) (r1 + 3) (Int32.ofNat m).toNatClampNeg)) (r0 + 4) (Int32.ofNat m).toNatClampNeg ((fl_u (fl_u (fl_u (lq_23_42 r0 r1 M m) (r0 + 1) (Int32.ofNat m).toNatClampNeg ((lq_23_42 r0 r1 M m) (r1 + 1) (Int32.ofNat m).toNatClampNeg)) (r0 + 2) (Int32.ofNat m).toNatClampNeg ((fl_u (lq_23_42 r0 r1 M m) (r0 + 1) (Int32.ofNat m).toNatClampNeg ((lq_23_42 r0 r1 M m) (r1 + 1) (Int32.ofNat m).toNatClampNeg)) (r1 + 2) (Int32.ofNat m).toNatClampNeg)) (r0 + 3) (Int32.ofNat m).toNatClampNeg ((fl_u (fl_u (lq_23_42 r0 r1 M m) (r0 + 1) (Int32.ofNat m).toNatClampNeg ((lq_23_42 r0 r1 M m) (r1 + 1) (Int32.ofNat m).toNatClampNeg)) (r0 + 2) (Int32.ofNat m).toNatClampNeg ((fl_u (lq_23_42 r0 r1 M m) (r0 + 1) (Int32.ofNat m).toNatClampNeg ((lq_23_42 r0 r1 M m) (r1 + 1) (Int32.ofNat m).toNatClampNeg)) (r1 + 2) (Int32.ofNat m).toNatClampNeg)) (r1 + 3) (Int32.ofNat m).toNatClampNeg)) (r1 + 4) (Int32.ofNat m).toNatClampNeg)) := by
          rw [lqs_23_42]
          unfold ls_23_42
          rfl
        have q := ih (m + 1) (by omega)
        rw [e] at q
        first | (rw [fi_s]; exact q) | (rw [← fi_s] at q; exact q) | (simp only [fi_s] at q ⊢; exact q)
  exact key (((M r0 0)).toNatClampNeg) 0 (Nat.zero_add _)
