theorem lp_134_9 {r : fl_Q} (i1 i2 i3 i4 : Int32) (u6 u7 u8 : Value) (M : fl_M) (J : fl_J) (hx : ∀ w5 w6 w7 w8 : Value, fl_dn fB134 (164, [.ref 81, .int i1, .int i2, .int ((lr_134_9 i1 i2 i3 i4 M).1), .int ((lr_134_9 i1 i2 i3 i4 M).2), w5, w6, w7, w8], [], M, J) r) : fl_dn fB134 (9, [.ref 81, .int i1, .int i2, .int i3, .int i4, .int 0, u6, u7, u8], [], M, J) r := by
  have hb := fi_bd (M 81 1)
  have key : ∀ (n m : Nat) (w6 w7 w8 : Value), m + n = ((M 81 1)).toNatClampNeg → fl_dn fB134 (9, [.ref 81, .int i1, .int i2, .int ((lq_134_9 i1 i2 i3 i4 M m).1), .int ((lq_134_9 i1 i2 i3 i4 M m).2), .int (Int32.ofNat m), w6, w7, w8], [], M, J) r := by
    intro n
    induction n with
    | zero =>
      intro m w6 w7 w8 hm
      have hm : m = ((M 81 1)).toNatClampNeg := by omega
      have hn : ¬ ((Int32.ofNat m) < (M 81 1)) := fun z => by have z := (fi_lt (by omega)).mp z; omega
      exact ts_134_9 i1 i2 ((lq_134_9 i1 i2 i3 i4 M m).1) ((lq_134_9 i1 i2 i3 i4 M m).2) (Int32.ofNat m) w6 w7 w8 M J (fun h1 h2 h3 h4 => absurd h1 hn) (fun h1 h2 h3 h4 h5 => absurd h1 hn) (fun h1 h2 h3 h4 h5 h6 h7 => absurd h1 hn) (fun h1 h2 h3 h4 h5 h6 h7 => absurd h1 hn) (fun h1 h2 h3 h4 h5 h6 => absurd h1 hn) (fun h1 h2 h3 h8 h9 => absurd h1 hn) (fun h1 h2 h3 h8 h9 h10 => absurd h1 hn) (fun h1 h2 h3 h8 h9 h10 h11 h12 => absurd h1 hn) (fun h1 h2 h3 h8 h9 h10 h11 h12 => absurd h1 hn) (fun h1 h2 h3 h8 h9 h10 h11 => absurd h1 hn) (fun h1 h2 h3 h8 h13 => absurd h1 hn) (fun h1 h2 h3 h8 h13 h14 => absurd h1 hn) (fun h1 h2 h3 h8 h13 h14 h15 h16 => absurd h1 hn) (fun h1 h2 h3 h8 h13 h14 h15 h16 => absurd h1 hn) (fun h1 h2 h3 h8 h13 h14 h15 => absurd h1 hn) (fun h1 h2 h17 => absurd h1 hn) (fun h1 h2 h17 h18 => absurd h1 hn) (fun h1 h2 h17 h18 h19 h20 => absurd h1 hn) (fun h1 h2 h17 h18 h19 h20 => absurd h1 hn) (fun h1 h2 h17 h18 h19 => absurd h1 hn) (fun h1 => (by have e : lr_134_9 i1 i2 i3 i4 M = lq_134_9 i1 i2 i3 i4 M m := (by show lq_134_9 i1 i2 i3 i4 M (((M 81 1)).toNatClampNeg) = _; rw [← hm]); rw [e] at hx; exact hx _ _ _ _))
    | succ n ih =>
      intro m w6 w7 w8 hm
      have hp : (Int32.ofNat m) < (M 81 1) := by exact (fi_lt (by omega)).mpr (by omega)
      refine ts_134_9 i1 i2 ((lq_134_9 i1 i2 i3 i4 M m).1) ((lq_134_9 i1 i2 i3 i4 M m).2) (Int32.ofNat m) w6 w7 w8 M J (fun h1 h2 h3 h4 => ?_) (fun h1 h2 h3 h4 h5 => ?_) (fun h1 h2 h3 h4 h5 h6 h7 => ?_) (fun h1 h2 h3 h4 h5 h6 h7 => ?_) (fun h1 h2 h3 h4 h5 h6 => ?_) (fun h1 h2 h3 h8 h9 => ?_) (fun h1 h2 h3 h8 h9 h10 => ?_) (fun h1 h2 h3 h8 h9 h10 h11 h12 => ?_) (fun h1 h2 h3 h8 h9 h10 h11 h12 => ?_) (fun h1 h2 h3 h8 h9 h10 h11 => ?_) (fun h1 h2 h3 h8 h13 => ?_) (fun h1 h2 h3 h8 h13 h14 => ?_) (fun h1 h2 h3 h8 h13 h14 h15 h16 => ?_) (fun h1 h2 h3 h8 h13 h14 h15 h16 => ?_) (fun h1 h2 h3 h8 h13 h14 h15 => ?_) (fun h1 h2 h17 => ?_) (fun h1 h2 h17 h18 => ?_) (fun h1 h2 h17 h18 h19 h20 => ?_) (fun h1 h2 h17 h18 h19 h20 => ?_) (fun h1 h2 h17 h18 h19 => ?_) (fun h1 => absurd hp h1)
      · have e : lq_134_9 i1 i2 i3 i4 M (m + 1) = ((Int32.ofNat m), 0) := by
          rw [lqs_134_9]
          unfold ls_134_9
          simp only [if_pos h2, if_pos h3, if_pos h4]
        have q := ih (m + 1) (.int 0) (.int 0) (.int 1) (by omega)
        rw [e] at q
        first | (rw [fi_s]; exact q) | (rw [← fi_s] at q; exact q) | (simp only [fi_s] at q ⊢; exact q)
      · have e : lq_134_9 i1 i2 i3 i4 M (m + 1) = (((lq_134_9 i1 i2 i3 i4 M m).1), ((lq_134_9 i1 i2 i3 i4 M m).2)) := by
          rw [lqs_134_9]
          unfold ls_134_9
          simp only [if_pos h2, if_pos h3, if_neg h4, if_pos h5]
        have q := ih (m + 1) (.int 0) (.int 0) (.int 0) (by omega)
        rw [e] at q
        first | (rw [fi_s]; exact q) | (rw [← fi_s] at q; exact q) | (simp only [fi_s] at q ⊢; exact q)
      · have e : lq_134_9 i1 i2 i3 i4 M (m + 1) = ((Int32.ofNat m), 0) := by
          rw [lqs_134_9]
          unfold ls_134_9
          simp only [if_pos h2, if_pos h3, if_neg h4, if_neg h5, if_pos h6, if_pos h7]
        have q := ih (m + 1) (.int 0) (.int 0) (.int 1) (by omega)
        rw [e] at q
        first | (rw [fi_s]; exact q) | (rw [← fi_s] at q; exact q) | (simp only [fi_s] at q ⊢; exact q)
      · have e : lq_134_9 i1 i2 i3 i4 M (m + 1) = (((lq_134_9 i1 i2 i3 i4 M m).1), ((lq_134_9 i1 i2 i3 i4 M m).2)) := by
          rw [lqs_134_9]
          unfold ls_134_9
          simp only [if_pos h2, if_pos h3, if_neg h4, if_neg h5, if_pos h6, if_neg h7]
        have q := ih (m + 1) (.int 0) (.int 0) (.int 0) (by omega)
        rw [e] at q
        first | (rw [fi_s]; exact q) | (rw [← fi_s] at q; exact q) | (simp only [fi_s] at q ⊢; exact q)
      · have e : lq_134_9 i1 i2 i3 i4 M (m + 1) = (((lq_134_9 i1 i2 i3 i4 M m).1), ((lq_134_9 i1 i2 i3 i4 M m).2)) := by
          rw [lqs_134_9]
          unfold ls_134_9
          simp only [if_pos h2, if_pos h3, if_neg h4, if_neg h5, if_neg h6]
        have q := ih (m + 1) (.int 0) (.int 0) (.int 0) (by omega)
        rw [e] at q
        first | (rw [fi_s]; exact q) | (rw [← fi_s] at q; exact q) | (simp only [fi_s] at q ⊢; exact q)
      · have e : lq_134_9 i1 i2 i3 i4 M (m + 1) = ((Int32.ofNat m), 0) := by
          rw [lqs_134_9]
          unfold ls_134_9
          simp only [if_pos h2, if_neg h3, if_pos h8, if_pos h9]
        have q := ih (m + 1) (.int 0) (.int 0) (.int 1) (by omega)
        rw [e] at q
        first | (rw [fi_s]; exact q) | (rw [← fi_s] at q; exact q) | (simp only [fi_s] at q ⊢; exact q)
      · have e : lq_134_9 i1 i2 i3 i4 M (m + 1) = (((lq_134_9 i1 i2 i3 i4 M m).1), ((lq_134_9 i1 i2 i3 i4 M m).2)) := by
          rw [lqs_134_9]
          unfold ls_134_9
          simp only [if_pos h2, if_neg h3, if_pos h8, if_neg h9, if_pos h10]
        have q := ih (m + 1) (.int 0) (.int 0) (.int 0) (by omega)
        rw [e] at q
        first | (rw [fi_s]; exact q) | (rw [← fi_s] at q; exact q) | (simp only [fi_s] at q ⊢; exact q)
      · have e : lq_134_9 i1 i2 i3 i4 M (m + 1) = ((Int32.ofNat m), 0) := by
          rw [lqs_134_9]
          unfold ls_134_9
          simp only [if_pos h2, if_neg h3, if_pos h8, if_neg h9, if_neg h10, if_pos h11, if_pos h12]
        have q := ih (m + 1) (.int 0) (.int 0) (.int 1) (by omega)
        rw [e] at q
        first | (rw [fi_s]; exact q) | (rw [← fi_s] at q; exact q) | (simp only [fi_s] at q ⊢; exact q)
      · have e : lq_134_9 i1 i2 i3 i4 M (m + 1) = (((lq_134_9 i1 i2 i3 i4 M m).1), ((lq_134_9 i1 i2 i3 i4 M m).2)) := by
          rw [lqs_134_9]
          unfold ls_134_9
          simp only [if_pos h2, if_neg h3, if_pos h8, if_neg h9, if_neg h10, if_pos h11, if_neg h12]
        have q := ih (m + 1) (.int 0) (.int 0) (.int 0) (by omega)
        rw [e] at q
        first | (rw [fi_s]; exact q) | (rw [← fi_s] at q; exact q) | (simp only [fi_s] at q ⊢; exact q)
      · have e : lq_134_9 i1 i2 i3 i4 M (m + 1) = (((lq_134_9 i1 i2 i3 i4 M m).1), ((lq_134_9 i1 i2 i3 i4 M m).2)) := by
          rw [lqs_134_9]
          unfold ls_134_9
          simp only [if_pos h2, if_neg h3, if_pos h8, if_neg h9, if_neg h10, if_neg h11]
        have q := ih (m + 1) (.int 0) (.int 0) (.int 0) (by omega)
        rw [e] at q
        first | (rw [fi_s]; exact q) | (rw [← fi_s] at q; exact q) | (simp only [fi_s] at q ⊢; exact q)
      · have e : lq_134_9 i1 i2 i3 i4 M (m + 1) = ((Int32.ofNat m), (v_136 i1 i2 (Int32.ofNat m) M)) := by
          rw [lqs_134_9]
          unfold ls_134_9
          simp only [if_pos h2, if_neg h3, if_neg h8, if_pos h13]
        have q := ih (m + 1) (.int 1) (.int (v_136 i1 i2 (Int32.ofNat m) M)) (.int 1) (by omega)
        rw [e] at q
        first | (rw [fi_s]; exact q) | (rw [← fi_s] at q; exact q) | (simp only [fi_s] at q ⊢; exact q)
      · have e : lq_134_9 i1 i2 i3 i4 M (m + 1) = (((lq_134_9 i1 i2 i3 i4 M m).1), ((lq_134_9 i1 i2 i3 i4 M m).2)) := by
          rw [lqs_134_9]
          unfold ls_134_9
          simp only [if_pos h2, if_neg h3, if_neg h8, if_neg h13, if_pos h14]
        have q := ih (m + 1) (.int 1) (.int (v_136 i1 i2 (Int32.ofNat m) M)) (.int 0) (by omega)
        rw [e] at q
        first | (rw [fi_s]; exact q) | (rw [← fi_s] at q; exact q) | (simp only [fi_s] at q ⊢; exact q)
      · have e : lq_134_9 i1 i2 i3 i4 M (m + 1) = ((Int32.ofNat m), (v_136 i1 i2 (Int32.ofNat m) M)) := by
          rw [lqs_134_9]
          unfold ls_134_9
          simp only [if_pos h2, if_neg h3, if_neg h8, if_neg h13, if_neg h14, if_pos h15, if_pos h16]
        have q := ih (m + 1) (.int 1) (.int (v_136 i1 i2 (Int32.ofNat m) M)) (.int 1) (by omega)
        rw [e] at q
        first | (rw [fi_s]; exact q) | (rw [← fi_s] at q; exact q) | (simp only [fi_s] at q ⊢; exact q)
      · have e : lq_134_9 i1 i2 i3 i4 M (m + 1) = (((lq_134_9 i1 i2 i3 i4 M m).1), ((lq_134_9 i1 i2 i3 i4 M m).2)) := by
          rw [lqs_134_9]
          unfold ls_134_9
          simp only [if_pos h2, if_neg h3, if_neg h8, if_neg h13, if_neg h14, if_pos h15, if_neg h16]
        have q := ih (m + 1) (.int 1) (.int (v_136 i1 i2 (Int32.ofNat m) M)) (.int 0) (by omega)
        rw [e] at q
        first | (rw [fi_s]; exact q) | (rw [← fi_s] at q; exact q) | (simp only [fi_s] at q ⊢; exact q)
      · have e : lq_134_9 i1 i2 i3 i4 M (m + 1) = (((lq_134_9 i1 i2 i3 i4 M m).1), ((lq_134_9 i1 i2 i3 i4 M m).2)) := by
          rw [lqs_134_9]
          unfold ls_134_9
          simp only [if_pos h2, if_neg h3, if_neg h8, if_neg h13, if_neg h14, if_neg h15]
        have q := ih (m + 1) (.int 1) (.int (v_136 i1 i2 (Int32.ofNat m) M)) (.int 0) (by omega)
        rw [e] at q
        first | (rw [fi_s]; exact q) | (rw [← fi_s] at q; exact q) | (simp only [fi_s] at q ⊢; exact q)
      · have e : lq_134_9 i1 i2 i3 i4 M (m + 1) = ((Int32.ofNat m), 0) := by
          rw [lqs_134_9]
          unfold ls_134_9
          simp only [if_neg h2, if_pos h17]
        have q := ih (m + 1) (.int 0) (.int 0) (.int 1) (by omega)
        rw [e] at q
        first | (rw [fi_s]; exact q) | (rw [← fi_s] at q; exact q) | (simp only [fi_s] at q ⊢; exact q)
      · have e : lq_134_9 i1 i2 i3 i4 M (m + 1) = (((lq_134_9 i1 i2 i3 i4 M m).1), ((lq_134_9 i1 i2 i3 i4 M m).2)) := by
          rw [lqs_134_9]
          unfold ls_134_9
          simp only [if_neg h2, if_neg h17, if_pos h18]
        have q := ih (m + 1) (.int 0) (.int 0) (.int 0) (by omega)
        rw [e] at q
        first | (rw [fi_s]; exact q) | (rw [← fi_s] at q; exact q) | (simp only [fi_s] at q ⊢; exact q)
      · have e : lq_134_9 i1 i2 i3 i4 M (m + 1) = ((Int32.ofNat m), 0) := by
          rw [lqs_134_9]
          unfold ls_134_9
          simp only [if_neg h2, if_neg h17, if_neg h18, if_pos h19, if_pos h20]
        have q := ih (m + 1) (.int 0) (.int 0) (.int 1) (by omega)
        rw [e] at q
        first | (rw [fi_s]; exact q) | (rw [← fi_s] at q; exact q) | (simp only [fi_s] at q ⊢; exact q)
      · have e : lq_134_9 i1 i2 i3 i4 M (m + 1) = (((lq_134_9 i1 i2 i3 i4 M m).1), ((lq_134_9 i1 i2 i3 i4 M m).2)) := by
          rw [lqs_134_9]
          unfold ls_134_9
          simp only [if_neg h2, if_neg h17, if_neg h18, if_pos h19, if_neg h20]
        have q := ih (m + 1) (.int 0) (.int 0) (.int 0) (by omega)
        rw [e] at q
        first | (rw [fi_s]; exact q) | (rw [← fi_s] at q; exact q) | (simp only [fi_s] at q ⊢; exact q)
      · have e : lq_134_9 i1 i2 i3 i4 M (m + 1) = (((lq_134_9 i1 i2 i3 i4 M m).1), ((lq_134_9 i1 i2 i3 i4 M m).2)) := by
          rw [lqs_134_9]
          unfold ls_134_9
          simp only [if_neg h2, if_neg h17, if_neg h18, if_neg h19]
        have q := ih (m + 1) (.int 0) (.int 0) (.int 0) (by omega)
        rw [e] at q
        first | (rw [fi_s]; exact q) | (rw [← fi_s] at q; exact q) | (simp only [fi_s] at q ⊢; exact q)
  exact key (((M 81 1)).toNatClampNeg) 0 u6 u7 u8 (Nat.zero_add _)
