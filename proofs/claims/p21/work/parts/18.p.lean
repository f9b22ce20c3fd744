/-! In which lines. -/
def jd (J J' : fl_J) : Prop := J 0 13 = J' 81 12 ∧ J 0 14 = J' 81 13
theorem fl_wo {J : fl_J} {a i c j : Nat} {v : Int64} (h : c ≠ a ∨ j ≠ i) : fl_w J a i v c j = J c j := by
  unfold fl_w
  rw [if_neg (fun z => by rcases h with h | h; exact h z.1; exact h z.2)]
theorem fl_ws {J : fl_J} {a i : Nat} {v : Int64} : fl_w J a i v a i = v := by
  unfold fl_w
  rw [if_pos ⟨rfl, rfl⟩]
section SE
variable {C R : fl_M}
theorem nv_A {v : Int32} : ((¬ (v < 0)) ∧ (¬ (320 < v))) ↔ (¬ v < 0 ∧ ¬ 320 < v) := Iff.rfl
theorem su_p (h : t2 C R) (v : Int32) : v_80 v C = v_179 v R ∧ t2 (m_80 v C) (m_179 v R) := by
  obtain ⟨a0, a1, s1, s4, sd, d0, d4⟩ := tt_n h.1
  have bb := bit_b a0.1 a0.2
  have n9 : ∀ x : Int32, x = -1 ∨ x = -4 → ¬ x = 0 := fun x hx => by rcases hx with rfl | rfl <;> decide
  unfold v_80 v_179 m_80 m_179 v_177
  rw [← s4, ← s1]
  by_cases c1 : v < 0
  · simp only [if_pos c1, if_neg (fun z : (¬ (v < 0)) ∧ (¬ (320 < v)) => z.1 c1), if_neg (n9 (-1) (Or.inl rfl))]
    exact ⟨trivial, h⟩
  · by_cases c2 : 320 < v
    · simp only [if_neg c1, if_pos c2, if_neg (fun z : (¬ (v < 0)) ∧ (¬ (320 < v)) => z.2 c2), if_neg (n9 (-1) (Or.inl rfl))]
      exact ⟨trivial, h⟩
    · simp only [if_neg c1, if_neg c2, if_pos (⟨c1, c2⟩ : (¬ (v < 0)) ∧ (¬ (320 < v)))]
      by_cases c3 : C 15 1 = 0
      · simp only [if_pos c3, if_neg (n9 (-4) (Or.inr rfl))]
        exact ⟨trivial, h⟩
      · simp only [if_neg c3, if_true]
        generalize hall : ((1 : Int32) <<< ((C 15 0) &&& 31)) - 1 = all at *
        have key : (lr_80_49 v all all 0 1 C).1 = (lr_179_33 v all all 0 0 R).1 ∧ (lr_80_49 v all all 0 1 C).2.1 = (lr_179_33 v all all 0 0 R).2.1 ∧ (((lr_80_49 v all all 0 1 C).2.2 = 1 ∧ (lr_179_33 v all all 0 0 R).2.2 = 0) ∨ ((lr_80_49 v all all 0 1 C).2.2 = 0 ∧ (lr_179_33 v all all 0 0 R).2.2 = 1)) := by
          unfold lr_80_49 lr_179_33 lq_80_49 lq_179_33
          refine it_r (f := ls_80_49 v C) (g := ls_179_33 v R) (fun m x y => x.1 = y.1 ∧ x.2.1 = y.2.1 ∧ ((x.2.2 = 1 ∧ y.2.2 = 0) ∨ (x.2.2 = 0 ∧ y.2.2 = 1))) ⟨rfl, rfl, Or.inl ⟨rfl, rfl⟩⟩ (fun m x y hm hR => ?_)
          obtain ⟨x1, x2, x3⟩ := x
          obtain ⟨y1, y2, y3⟩ := y
          obtain ⟨r1, r2, r3⟩ := hR
          dsimp only at r1 r2 r3
          subst r1
          subst r2
          unfold ls_80_49 ls_179_33
          rw [lf_eq h.1.1]
          by_cases c : lr_178_4 (Int32.ofNat m) 0 R = v
          · simp only [if_pos c]
            exact ⟨trivial, trivial, Or.inr ⟨trivial, trivial⟩⟩
          · simp only [if_neg c]
            exact ⟨trivial, trivial, r3⟩
        obtain ⟨k1, k2, k3⟩ := key
        rw [k1, k2]
        rcases k3 with ⟨e1, e2⟩ | ⟨e1, e2⟩
        · simp only [e1, e2, if_neg (show ¬ (1 : Int32) = 0 by decide), if_true]
          exact ⟨trivial, t2_no h 4 (f := 4) (by decide)⟩
        · simp only [e1, e2, if_neg (show ¬ (1 : Int32) = 0 by decide), if_true]
          exact ⟨trivial, t2_tell h rfl⟩
/-- a number by 1 -/
theorem cd_1 (a : Int64) : lr_79_9 a 1 = (1, 0) := by
  have e0 : a - a / 1 * 1 = 0 := by rw [Int64.div_one, Int64.mul_one, Int64.sub_self]
  have s1 : fx_ix ls_79_9 1 (a, 1) = .inr (1, 0) := ix_s1 (m := 0) (b := (a, 1)) rfl (by unfold ls_79_9; rw [if_pos (show (0 : Int64) < 1 by decide), e0])
  have s2 : fx_ix ls_79_9 2 (a, 1) = .inl (1, 0) := ix_s1 s1 (by unfold ls_79_9; rw [if_neg (show ¬ (0 : Int64) < 0 by decide)])
  unfold lr_79_9 lq_79_9
  rw [ix_l s2 (by decide)]
  rfl
theorem j78_1 (a : Int64) (J : fl_J) : j_78 a 1 J = fl_w (fl_w J 0 13 a) 0 14 1 := by
  unfold j_78
  rw [cd_1]
  dsimp only
  rw [if_pos (show (0 : Int64) < 1 by decide), Int64.div_one, Int64.div_one]
theorem se_e (h : t2 C R) (v : Int32) : (lr_76_34 v 0 (-9) C).1 = (lr_176_30 v 0 (((1 : Int32) <<< ((C 15 0) &&& 31)) - 1) (fl_u R 81 11 (-9))).1 ∧ t2 (fl_u C 0 12 (lr_76_34 v 0 (-9) C).2) (lr_176_30 v 0 (((1 : Int32) <<< ((C 15 0) &&& 31)) - 1) (fl_u R 81 11 (-9))).2 := by
  obtain ⟨a0, a1, s1, s4, sd, d0, d4⟩ := tt_n h.1
  have bb := bit_b a0.1 a0.2
  unfold lr_76_34 lr_176_30 lq_76_34 lq_176_30
  generalize hall : ((1 : Int32) <<< ((C 15 0) &&& 31)) - 1 = all at *
  have eN : ((1 : Int32) <<< ((C 15 0) &&& 31)).toNatClampNeg = (all.toInt + 1).toNat := by rw [fi_cl, bb.2.2]
  rw [eN]
  obtain ⟨K, hK⟩ : ∃ K : Nat, K = (all.toInt + 1).toNat := ⟨_, rfl⟩
  rw [← hK]
  obtain ⟨TT, hT⟩ : ∃ TT, TT = fx_it (ls_76_34 v C) K (0, -9) := ⟨_, rfl⟩
  rw [← hT]
  have key : ∀ m, m ≤ K → ∃ (D A : Int32), fx_it (ls_176_30 v all) m (0, fl_u R 81 11 (-9)) = (D, fl_u R 81 11 A) ∧ (fx_it (ls_76_34 v C) (K - m) (0, -9)).1 + D = (TT).1 ∧ (if (fx_it (ls_76_34 v C) (K - m) (0, -9)).2 = (-9) then A else (fx_it (ls_76_34 v C) (K - m) (0, -9)).2) = (TT).2 := by
    intro m
    induction m with
    | zero =>
      intro _
      refine ⟨0, -9, rfl, by rw [Nat.sub_zero, Int32.add_zero, hT], ?_⟩
      rw [Nat.sub_zero, ← hT]
      split
      · rename_i e; exact e.symm
      · rfl
    | succ m ih =>
      intro hm
      obtain ⟨D, A, e1, e2, e3⟩ := ih (by omega)
      have em := fi_ti (m := m) (by omega)
      have ek := fi_ti (m := K - (m + 1)) (by omega)
      have eset : all - Int32.ofNat m = Int32.ofNat (K - (m + 1)) := by
        rw [fi_e, fi_sub (by omega) (by omega), em, ek]
        omega
      have lR : lr_178_4 (Int32.ofNat (K - (m + 1))) 0 (fl_u R 81 11 A) = lr_77_4 (Int32.ofNat (K - (m + 1))) 0 15 C := by
        have g : tr 15 0 C (fl_u R 81 11 A) := tr_rc h.1.1 (fl_uo (Or.inr (by decide))) (fl_uo (Or.inr (by decide))) (fun k hk => fl_un (by omega)) (fun k _ _ => by rw [fl_un (by decide)])
        exact (lf_eq g _).symm
      have up : K - m = K - (m + 1) + 1 := by omega
      rw [up, fx_it_s] at e2 e3
      have st : fx_it (ls_176_30 v all) (m + 1) (0, fl_u R 81 11 (-9)) = (if lr_77_4 (Int32.ofNat (K - (m + 1))) 0 15 C = v then (D + 1, fl_u (fl_u R 81 11 A) 81 11 (Int32.ofNat (K - (m + 1)))) else (D + 0, fl_u (fl_u R 81 11 A) 81 11 A)) := by
        rw [fx_it_s, e1]
        unfold ls_176_30
        dsimp only
        rw [eset, lR, fl_us]
      have uu : ∀ B, fl_u (fl_u R 81 11 A) 81 11 B = fl_u R 81 11 B := fun B => by
        funext c j
        unfold fl_u
        split <;> rfl
      rw [uu, uu] at st
      generalize fx_it (ls_76_34 v C) (K - (m + 1)) (0, -9) = U at e2 e3 ⊢
      unfold ls_76_34 at e2 e3
      by_cases c : lr_77_4 (Int32.ofNat (K - (m + 1))) 0 15 C = v
      · rw [if_pos c] at st e2 e3
        refine ⟨D + 1, Int32.ofNat (K - (m + 1)), st, ?_, ?_⟩
        · rw [← e2]
          split
          · rw [Int32.add_assoc, Int32.add_comm 1 D]
          · rw [Int32.add_assoc, Int32.add_comm 1 D]
        · rw [← e3]
          by_cases c9 : U.2 = (-9)
          · rw [if_pos c9, if_pos c9, if_neg (fun z => by rw [fi_e, ek, fj_9] at z; omega)]
          · rw [if_neg c9, if_neg c9, if_neg c9]
      · rw [if_neg c] at st e2 e3
        exact ⟨D + 0, A, st, by rw [Int32.add_zero]; exact e2, e3⟩
  obtain ⟨D, A, e1, e2, e3⟩ := key K (Nat.le_refl _)
  rw [Nat.sub_self] at e2 e3
  rw [e1]
  have e2' : (0 : Int32) + D = (TT).1 := e2
  have e3' : A = (TT).2 := e3
  rw [Int32.zero_add] at e2'
  exact ⟨e2'.symm, t2_tell h e3'.symm⟩
theorem se_p (h : t2 C R) {J J' : fl_J} (hj : jd J J') (v : Int32) : v_76 v C = (if (v_177 v R) = 0 then 1 else v_177 v R) ∧ t2 (m_76 v C) (m_176 v R) ∧ jd (j_76 v C J) (j_176 v R J') := by
  obtain ⟨a0, a1, s1, s4, sd, d0, d4⟩ := tt_n h.1
  have n9 : ∀ x : Int32, x = -1 ∨ x = -4 → ¬ x = 0 := fun x hx => by rcases hx with rfl | rfl <;> decide
  unfold v_76 m_76 m_176 j_76 j_176 v_177
  rw [← s4, ← s1]
  by_cases c1 : v < 0
  · simp only [if_pos c1, if_neg (fun z : (¬ (v < 0)) ∧ (¬ (320 < v)) => z.1 c1), if_neg (n9 (-1) (Or.inl rfl))]
    exact ⟨trivial, h, hj⟩
  · by_cases c2 : 320 < v
    · simp only [if_neg c1, if_pos c2, if_neg (fun z : (¬ (v < 0)) ∧ (¬ (320 < v)) => z.2 c2), if_neg (n9 (-1) (Or.inl rfl))]
      exact ⟨trivial, h, hj⟩
    · simp only [if_neg c1, if_neg c2, if_pos (⟨c1, c2⟩ : (¬ (v < 0)) ∧ (¬ (320 < v)))]
      by_cases c3 : C 15 1 = 0
      · simp only [if_pos c3, if_neg (n9 (-4) (Or.inr rfl))]
        exact ⟨trivial, h, hj⟩
      · simp only [if_neg c3, if_true]
        obtain ⟨k1, k2⟩ := se_e h v
        refine ⟨trivial, k2, ?_⟩
        rw [j78_1, k1]
        unfold jd
        rw [fl_wo (Or.inr (by decide)), fl_ws, fl_ws, fl_wo (Or.inr (by decide)), fl_ws, fl_ws]
        exact ⟨rfl, rfl⟩
end SE
