/-! Runs are unique. -/
def ut_X (X : sm_X) : Prop := ∀ (k : Nat) (vs : List Value) (h : List va_E) (o1 : Option Value) (h1 : List va_E) (o2 : Option Value) (h2 : List va_E), X k vs h o1 h1 → X k vs h o2 h2 → o1 = o2 ∧ h1 = h2
/-- no call is one of Math's or System's own -/
def ut_B (B : sm_P) : Prop := ∀ x q, B.2.2.1 x = some q → B.2.1.2.2.2.2.2.2 x = none
theorem ut_cc {ca : Nat → Option (Nat × Nat × Nat × Nat)} {i : Instr} {n : Nat} {st : List Value} {h : List va_E} {k k' : Nat} {vs vs' r r' : List Value} (a : sm_cal ca i n st h k vs r) (b : sm_cal ca i n st h k' vs' r') : k = k' ∧ vs = vs' ∧ r = r' := by
  obtain ⟨-, -, a⟩ := a
  obtain ⟨-, -, b⟩ := b
  have key : ∀ (x k k' n n' : Nat) (t t' ci ci' : Nat), ca x = some (t, k, n, ci) → ca x = some (t', k', n', ci') → t = t' ∧ k = k' ∧ n = n' := by
    intro x k k' n n' t t' ci ci' h1 h2
    rw [h1] at h2
    cases h2
    exact ⟨rfl, rfl, rfl⟩
  have app : ∀ (A A' R R' : List Value), A.length = A'.length → A.reverse ++ R = A'.reverse ++ R' → A = A' ∧ R = R' := by
    intro A A' R R' hl he
    have hl2 : A.reverse.length = A'.reverse.length := by rw [List.length_reverse, List.length_reverse, hl]
    obtain ⟨h1, h2⟩ := List.append_inj he hl2
    exact ⟨List.reverse_inj.mp h1, h2⟩
  rcases a with ⟨x, ci, bb, As, rfl, c1, e1, rfl, -⟩ | ⟨x, ci, rfl, c1, e1⟩ | ⟨x, ci, rfl, c1, e1⟩
  · rcases b with ⟨x', ci', bb', As', e, c2, e2, rfl, -⟩ | ⟨x', ci', e, c2, e2⟩ | ⟨x', ci', e, c2, e2⟩
    · cases e
      obtain ⟨-, k1, k2⟩ := key x _ _ _ _ _ _ _ _ c1 c2
      subst k1
      obtain ⟨z1, z2⟩ := app As As' _ _ k2 (e1.symm.trans e2)
      cases z2
      exact ⟨rfl, by rw [z1], rfl⟩
    · cases e
    · cases e
  · rcases b with ⟨x', ci', bb', As', e, c2, e2, rfl, -⟩ | ⟨x', ci', e, c2, e2⟩ | ⟨x', ci', e, c2, e2⟩
    · cases e
    · cases e
      obtain ⟨-, k1, k2⟩ := key x _ _ _ _ _ _ _ _ c1 c2
      obtain ⟨z1, z2⟩ := app vs vs' r r' k2 (e1.symm.trans e2)
      exact ⟨k1, z1, z2⟩
    · cases e
      obtain ⟨t, -, -⟩ := key x _ _ _ _ _ _ _ _ c1 c2
      cases t
  · rcases b with ⟨x', ci', bb', As', e, c2, e2, rfl, -⟩ | ⟨x', ci', e, c2, e2⟩ | ⟨x', ci', e, c2, e2⟩
    · cases e
    · cases e
      obtain ⟨t, -, -⟩ := key x _ _ _ _ _ _ _ _ c1 c2
      cases t
    · cases e
      obtain ⟨-, k1, k2⟩ := key x _ _ _ _ _ _ _ _ c1 c2
      obtain ⟨z1, z2⟩ := app vs vs' r r' k2 (e1.symm.trans e2)
      exact ⟨k1, z1, z2⟩
theorem ut_rs {ret : Option FieldType} {i : Instr} {n pc : Nat} {st : List Value} {o : Option Value} {K : sm_K} {lv : sm_L} {h : List va_E} {t : sm_T} (a : sm_ret ret i n st o) (b : sm_step K i n pc lv st h = some t) : False := by
  obtain ⟨-, ⟨rfl, -⟩ | ⟨rfl, -⟩ | ⟨rfl, -⟩⟩ := a
  · cases b
  · cases b
  · cases b
theorem ut_rc {ret : Option FieldType} {ca : Nat → Option (Nat × Nat × Nat × Nat)} {i : Instr} {n k : Nat} {st vs r : List Value} {o : Option Value} {h : List va_E} (a : sm_ret ret i n st o) (b : sm_cal ca i n st h k vs r) : False := by
  obtain ⟨-, -, b⟩ := b
  obtain ⟨-, ⟨rfl, -⟩ | ⟨rfl, -⟩ | ⟨rfl, -⟩⟩ := a
  all_goals rcases b with ⟨x, _, _, _, e, -⟩ | ⟨x, _, e, -⟩ | ⟨x, _, e, -⟩
  all_goals cases e
theorem ut_rr {ret : Option FieldType} {i : Instr} {n : Nat} {st : List Value} {o o' : Option Value} (a : sm_ret ret i n st o) (b : sm_ret ret i n st o') : o = o' := by
  obtain ⟨-, a⟩ := a
  obtain ⟨-, b⟩ := b
  rcases a with ⟨rfl, v, rfl, rfl, -⟩ | ⟨rfl, v, rfl, rfl, -⟩ | ⟨rfl, rfl, rfl, -⟩
  · rcases b with ⟨-, v', e, rfl, -⟩ | ⟨e, -⟩ | ⟨e, -⟩
    · cases e; rfl
    · cases e
    · cases e
  · rcases b with ⟨e, -⟩ | ⟨-, v', e, rfl, -⟩ | ⟨e, -⟩
    · cases e
    · cases e; rfl
    · cases e
  · rcases b with ⟨e, -⟩ | ⟨e, -⟩ | ⟨-, -, rfl, -⟩
    · cases e
    · cases e
    · rfl
theorem ut_sc {B : sm_P} (hB : ut_B B) {i : Instr} {n pc k : Nat} {st vs r : List Value} {lv : sm_L} {h : List va_E} {t : sm_T} (a : sm_step B.2.1 i n pc lv st h = some t) (b : sm_cal B.2.2.1 i n st h k vs r) : False := by
  obtain ⟨rfl, -, b⟩ := b
  rcases b with ⟨x, ci, bb, As, rfl, -⟩ | ⟨x, ci, rfl, c, -⟩ | ⟨x, ci, rfl, c, -⟩
  · cases a
  · have e := hB x _ c
    have a : (if (3 : Nat) = 3 then (B.2.1.2.2.2.2.2.2 x).bind _ else none) = some t := a
    rw [if_pos rfl, e] at a
    cases a
  · have e := hB x _ c
    have a : (if (3 : Nat) = 3 then (B.2.1.2.2.2.2.2.2 x).bind _ else none) = some t := a
    rw [if_pos rfl, e] at a
    cases a
theorem ut_rn {B : sm_P} {X : sm_X} (hB : ut_B B) (hX : ut_X X) : ∀ (f f' pc : Nat) (lv : sm_L) (st : List Value) (h : List va_E) (o1 : Option Value) (h1 : List va_E) (o2 : Option Value) (h2 : List va_E), sm_rn B X f pc lv st h o1 h1 → sm_rn B X f' pc lv st h o2 h2 → o1 = o2 ∧ h1 = h2 := by
  intro f
  induction f with
  | zero => intro f' pc lv st h o1 h1 o2 h2 a; exact a.elim
  | succ f ih =>
    intro f' pc lv st h o1 h1 o2 h2 a b
    cases f' with
    | zero => exact b.elim
    | succ f' =>
      obtain ⟨i, n, e1, a⟩ := a
      obtain ⟨i', n', e2, b⟩ := b
      rw [e1] at e2
      cases e2
      rcases a with ⟨a, rfl⟩ | ⟨t, a, a2⟩ | ⟨k, vs, r, oa, ha, a, a2, a3⟩
      · rcases b with ⟨b, rfl⟩ | ⟨t', b, b2⟩ | ⟨k', vs', r', ob, hb, b, b2, b3⟩
        · exact ⟨ut_rr a b, rfl⟩
        · exact (ut_rs a b).elim
        · exact (ut_rc a b).elim
      · rcases b with ⟨b, rfl⟩ | ⟨t', b, b2⟩ | ⟨k', vs', r', ob, hb, b, b2, b3⟩
        · exact (ut_rs b a).elim
        · rw [a] at b
          cases b
          exact ih _ _ _ _ _ _ _ _ _ a2 b2
        · exact (ut_sc hB a b).elim
      · rcases b with ⟨b, rfl⟩ | ⟨t', b, b2⟩ | ⟨k', vs', r', ob, hb, b, b2, b3⟩
        · exact (ut_rc b a).elim
        · exact (ut_sc hB b a).elim
        · obtain ⟨rfl, rfl, rfl⟩ := ut_cc a b
          obtain ⟨rfl, rfl⟩ := hX _ _ _ _ _ _ _ a2 b2
          exact ih _ _ _ _ _ _ _ _ _ a3 b3
def ut_o (o : Nat) : Bool := (sm_ca o).all fun q => (sm_lk (sm_na o) q.1).isNone
theorem ut_ok : (List.range 4).all ut_o = true := by decide +kernel
theorem ut_sB {k : Nat} (hk : k < 200) : ut_B (sm_B k) := by
  intro x q h
  have h : sm_lk (sm_ca (sm_O k)) x = some q := h
  obtain ⟨g1, g2, g3, g4, g5, g6, g7, g8, g9⟩ := sm_mgood_all _ (sm_m_in (k := k) (by rw [sm_md_len]; exact hk))
  have a := List.all_eq_true.mp (List.all_eq_true.mp ut_ok (sm_O k) (List.mem_range.mpr g7)) _ (sm_lk_s h)
  exact Option.isNone_iff_eq_none.mp a
theorem ut_Ex : ∀ d, ut_X (sm_Ex 200 sm_ML sm_B d) := by
  intro d
  induction d with
  | zero => intro k vs h o1 h1 o2 h2 a; exact a.elim
  | succ d ih =>
    intro k vs h o1 h1 o2 h2 a b
    obtain ⟨hk, -, f, a⟩ := a
    obtain ⟨-, -, f', b⟩ := b
    exact ut_rn (ut_sB hk) ih f f' _ _ _ _ _ _ _ _ a b
/-! The flat machine: what a run reads and writes as numbers by cell and place; calls are functions. -/
abbrev fl_M : Type := Nat → Nat → Int32
abbrev fl_J : Type := Nat → Nat → Int64
abbrev fl_S : Type := Nat × List Value × List Value × fl_M × fl_J
abbrev fl_Q : Type := Option Value × fl_M × fl_J
abbrev fl_X : Type := Nat → List Value → fl_M → fl_J → Option fl_Q
def fl_u (M : fl_M) (a i : Nat) (v : Int32) : fl_M := fun c j => if c = a ∧ j = i then v else M c j
def fl_w (J : fl_J) (a i : Nat) (v : Int64) : fl_J := fun c j => if c = a ∧ j = i then v else J c j
def fl_y (M : fl_M) (a0 sp a dp n : Nat) : fl_M := fun c j => if c = a ∧ dp ≤ j ∧ j < dp + n then M a0 (sp + (j - dp)) else M c j
/-- where an object's reference leads -/
def fl_fr (ci a k : Nat) : Nat := match ci with
  | 0 => a + k
  | 1 => a + (k - 4)
  | 2 => ([1, 2, 9, 10, 15, 24, 33, 42, 46, 59, 80] : List Nat).getD k 0
  | _ => ([82, 0, 83, 84, 0, 85, 86, 87, 88, 89, 90, 0, 0, 0, 0, 91, 0, 0, 0, 0, 92, 93, 0, 94, 95, 96, 97] : List Nat).getD k 0
/-- where a row of references leads -/
def fl_ar (a j : Nat) : Nat := if a = 46 then 47 + 4 * j else a + 1 + j
/-- what a field is: 0 an int, 1 a long, 2 a reference -/
def fl_ty (ci k : Nat) : Nat := match ci with
  | 0 => if k = 0 then 0 else 2
  | 1 => if k < 5 then 0 else 2
  | 2 => if k < 11 then 2 else if k < 13 then 0 else 1
  | _ => if k = 12 ∨ k = 13 then 1 else if k = 1 ∨ k = 4 ∨ k = 11 ∨ k = 14 ∨ k = 16 ∨ k = 17 ∨ k = 18 ∨ k = 19 ∨ k = 22 then 0 else 2
/-- how long the rows are -/
def fl_len (a : Nat) : Nat := ([0, 6, 6, 40, 40, 40, 40, 40, 40, 4, 4, 60, 60, 60, 60, 0, 8, 8, 8, 8, 4, 4, 4, 4, 0, 8, 8, 8, 8, 4, 4, 4, 4, 0, 8, 8, 8, 8, 4, 4, 4, 4, 0, 40, 40, 40, 3, 0, 40, 40, 40, 0, 40, 40, 40, 0, 40, 40, 40, 20, 8, 8, 8, 8, 8, 8, 8, 8, 8, 8, 8, 8, 8, 8, 8, 8, 8, 8, 8, 8, 6, 0, 3800, 8, 8, 4, 4, 6, 240, 4, 240, 6, 8, 8, 12, 168, 4, 5] : List Nat).getD a 0
/-- what a cell is: a row of ints 0, of bytes 1, of references 2, 3, 4, an object of class ci 10 + ci -/
def fl_kd (a : Nat) : Nat := ([12, 0, 2, 0, 0, 0, 0, 0, 0, 0, 3, 1, 1, 1, 1, 11, 0, 0, 0, 0, 0, 0, 0, 0, 11, 0, 0, 0, 0, 0, 0, 0, 0, 11, 0, 0, 0, 0, 0, 0, 0, 0, 10, 0, 0, 0, 4, 10, 0, 0, 0, 10, 0, 0, 0, 10, 0, 0, 0, 2, 0, 0, 0, 0, 0, 0, 0, 0, 0, 0, 0, 0, 0, 0, 0, 0, 0, 0, 0, 0, 0, 13, 0, 0, 0, 0, 0, 0, 0, 0, 0, 0, 0, 0, 0, 0, 0, 0] : List Nat).getD a 99
def fl_nf (ci : Nat) : Nat := match ci with
  | 0 => 4
  | 1 => 13
  | 2 => 15
  | _ => 27
def fl_fv (M : fl_M) (J : fl_J) (q : Nat × Nat × Nat) (a : Nat) : Value := match q.2.2 with
  | 0 => .int (M a q.2.1)
  | 1 => .long (J a q.2.1)
  | _ => .ref (fl_fr q.1 a q.2.1)
def fl_step (K : sm_K) (i : Instr) (pc : Nat) (ls st : List Value) (M : fl_M) (J : fl_J) : Option fl_S := match i with
  | .iconst v => some (pc + 1, ls, .int (Int32.ofInt v) :: st, M, J)
  | .bipush v => some (pc + 2, ls, .int (Int8.ofInt v).toInt32 :: st, M, J)
  | .sipush v => some (pc + 3, ls, .int (Int16.ofInt v).toInt32 :: st, M, J)
  | .lconst v => some (pc + 1, ls, .long (Int64.ofNat (v : Nat)) :: st, M, J)
  | .ldc x => (K.2.1 x).bind fun v => some (pc + 2, ls, .int v :: st, M, J)
  | .ldc_w x => (K.2.1 x).bind fun v => some (pc + 3, ls, .int v :: st, M, J)
  | .ldc2_w x => (K.2.2.1 x).bind fun v => some (pc + 3, ls, .long v :: st, M, J)
  | .iload_n k => (ls[(k : Nat)]?).bind fun v => some (pc + 1, ls, v :: st, M, J)
  | .iload k => (ls[k]?).bind fun v => some (pc + 2, ls, v :: st, M, J)
  | .lload_n k => (ls[(k : Nat)]?).bind fun v => some (pc + 1, ls, v :: st, M, J)
  | .lload k => (ls[k]?).bind fun v => some (pc + 2, ls, v :: st, M, J)
  | .aload_n k => (ls[(k : Nat)]?).bind fun v => some (pc + 1, ls, v :: st, M, J)
  | .aload k => (ls[k]?).bind fun v => some (pc + 2, ls, v :: st, M, J)
  | .istore_n k => sm_i1 st fun x r => some (pc + 1, ls.set k (.int x), r, M, J)
  | .istore k => sm_i1 st fun x r => some (pc + 2, ls.set k (.int x), r, M, J)
  | .lstore_n k => sm_l1 st fun x r => some (pc + 1, ls.set k (.long x), r, M, J)
  | .lstore k => sm_l1 st fun x r => some (pc + 2, ls.set k (.long x), r, M, J)
  | .astore_n k => sm_r1 st fun x r => some (pc + 1, ls.set k (.ref x), r, M, J)
  | .astore k => sm_r1 st fun x r => some (pc + 2, ls.set k (.ref x), r, M, J)
  | .iinc k v => (ls[k]?).bind fun w => sm_i1 [w] fun x _ => some (pc + 3, ls.set k (.int (x + Int32.ofInt v)), st, M, J)
  | .iadd => sm_i2 st fun x y r => some (pc + 1, ls, .int (x + y) :: r, M, J)
  | .isub => sm_i2 st fun x y r => some (pc + 1, ls, .int (x - y) :: r, M, J)
  | .imul => sm_i2 st fun x y r => some (pc + 1, ls, .int (x * y) :: r, M, J)
  | .iand => sm_i2 st fun x y r => some (pc + 1, ls, .int (x &&& y) :: r, M, J)
  | .ior => sm_i2 st fun x y r => some (pc + 1, ls, .int (x ||| y) :: r, M, J)
  | .ixor => sm_i2 st fun x y r => some (pc + 1, ls, .int (x ^^^ y) :: r, M, J)
  | .idiv => sm_i2 st fun x y r => some (pc + 1, ls, .int (x / y) :: r, M, J)
  | .irem => sm_i2 st fun x y r => some (pc + 1, ls, .int (x - x / y * y) :: r, M, J)
  | .ineg => sm_i1 st fun x r => some (pc + 1, ls, .int (0 - x) :: r, M, J)
  | .ishl => sm_i2 st fun x y r => some (pc + 1, ls, .int (x <<< (y &&& 31)) :: r, M, J)
  | .ishr => sm_i2 st fun x y r => some (pc + 1, ls, .int (x >>> (y &&& 31)) :: r, M, J)
  | .ladd => sm_l2 st fun x y r => some (pc + 1, ls, .long (x + y) :: r, M, J)
  | .lmul => sm_l2 st fun x y r => some (pc + 1, ls, .long (x * y) :: r, M, J)
  | .ldiv => sm_l2 st fun x y r => some (pc + 1, ls, .long (x / y) :: r, M, J)
  | .lrem => sm_l2 st fun x y r => some (pc + 1, ls, .long (x - x / y * y) :: r, M, J)
  | .lcmp => sm_l2 st fun x y r => some (pc + 1, ls, .int (lg_cmp x y) :: r, M, J)
  | .i2l => sm_i1 st fun x r => some (pc + 1, ls, .long x.toInt64 :: r, M, J)
  | .l2i => sm_l1 st fun x r => some (pc + 1, ls, .int x.toInt32 :: r, M, J)
  | .i2b => sm_i1 st fun x r => some (pc + 1, ls, .int x.toInt8.toInt32 :: r, M, J)
  | .goto off => (sm_j pc off).bind fun t => some (t, ls, st, M, J)
  | .ifCond q off => (sm_j pc off).bind fun t => sm_i1 st fun x r => some (if sm_cmp q x 0 = true then t else pc + 3, ls, r, M, J)
  | .if_icmp q off => (sm_j pc off).bind fun t => sm_i2 st fun x y r => some (if sm_cmp q x y = true then t else pc + 3, ls, r, M, J)
  | .tableswitch dflt lo hi offs => sm_i1 st fun x r => if x.toInt < lo ∨ hi < x.toInt then (sm_j pc dflt).bind fun t => some (t, ls, r, M, J) else (offs[(x.toInt - lo).toNat]?).bind fun off => (sm_j pc off).bind fun t => some (t, ls, r, M, J)
  | .getstatic _ => some (pc + 3, ls, .ref 999 :: st, M, J)
  | .getfield x => sm_r1 st fun a r => (K.1 x).bind fun q => some (pc + 3, ls, fl_fv M J q a :: r, M, J)
  | .arraylength => sm_r1 st fun a r => some (pc + 1, ls, .int (Int32.ofNat (fl_len a)) :: r, M, J)
  | .iaload => sm_ri st fun a i r => some (pc + 1, ls, .int (M a i.toNatClampNeg) :: r, M, J)
  | .baload => sm_ri st fun a i r => some (pc + 1, ls, .int (M a i.toNatClampNeg) :: r, M, J)
  | .aaload => sm_ri st fun a i r => some (pc + 1, ls, .ref (fl_ar a i.toNatClampNeg) :: r, M, J)
  | .iastore => sm_rii st fun a i x r => some (pc + 1, ls, r, fl_u M a i.toNatClampNeg x, J)
  | .bastore => sm_rii st fun a i x r => some (pc + 1, ls, r, fl_u M a i.toNatClampNeg (vp_nar .byte x), J)
  | .putfield x => (match st with
      | .int v :: .ref a :: r => (K.1 x).bind fun q => some (pc + 3, ls, r, fl_u M a q.2.1 v, J)
      | .long v :: .ref a :: r => (K.1 x).bind fun q => some (pc + 3, ls, r, M, fl_w J a q.2.1 v)
      | _ => none)
  | .dup => (match st with
      | v :: r => some (pc + 1, ls, v :: v :: r, M, J)
      | _ => none)
  | .dup2 => (match st with
      | v :: w :: r => some (pc + 1, ls, v :: w :: v :: w :: r, M, J)
      | _ => none)
  | .pop => (match st with
      | _ :: r => some (pc + 1, ls, r, M, J)
      | _ => none)
  | .pop2 => (match st with
      | _ :: r => some (pc + 1, ls, r, M, J)
      | _ => none)
  | .invokestatic x => (K.2.2.2.2.2.2 x).bind fun q => match q with
      | 0 => sm_i2 st fun x y r => some (pc + 3, ls, .int (if x < y then y else x) :: r, M, J)
      | 1 => sm_i2 st fun x y r => some (pc + 3, ls, .int (if y < x then y else x) :: r, M, J)
      | 2 => sm_i1 st fun x r => some (pc + 3, ls, .int (if 0 ≤ x then x else 0 - x) :: r, M, J)
      | 3 => sm_c5 st fun a0 sp a dp k r => some (pc + 3, ls, r, fl_y M a0 sp.toNatClampNeg a dp.toNatClampNeg k.toNatClampNeg, J)
      | _ => none
  | _ => none
/-- the numbers of a heap -/
def fm_i (h : List va_E) : fl_M := fun a i => if a = 999 then sm_kl i else match h[a]? with
  | some (.inl (_, _, .inl f)) => f i
  | some (.inr (_, fs)) => (match fs[i]? with
    | some (.int x) => x
    | _ => 0)
  | _ => 0
def fm_l (h : List va_E) : fl_J := fun a i => match h[a]? with
  | some (.inr (_, fs)) => (match fs[i]? with
    | some (.long x) => x
    | _ => 0)
  | _ => 0
def fl_tv (ci a k : Nat) (v : Value) : Prop := match fl_ty ci k with
  | 0 => ∃ x, v = .int x
  | 1 => ∃ x, v = .long x
  | _ => v = .ref (fl_fr ci a k)
/-- one cell is as it must be -/
def fl_ce (a : Nat) (e : va_E) : Prop := match e with
  | .inr (ci, fs) => fl_kd a = 10 + ci ∧ fs.length = fl_nf ci ∧ ∀ (k : Nat) (v : Value), fs[k]? = some v → fl_tv ci a k v
  | .inl (t, n, .inl _) => (fl_kd a = t ∧ t < 2) ∧ n = fl_len a
  | .inl (t, n, .inr (.inr (.inr (.inr f)))) => (fl_kd a = t ∧ 2 ≤ t ∧ t < 5) ∧ n = fl_len a ∧ ∀ j : Nat, j < n → f j = some (fl_ar a j)
  | _ => False
def fl_sh (h : List va_E) : Prop := h.length = 98 ∧ ∀ (a : Nat) (e : va_E), h[a]? = some e → fl_ce a e
theorem fl_sh_set {h : List va_E} {a : Nat} {e : va_E} (hh : fl_sh h) (he : fl_ce a e) : fl_sh (h.set a e) := by
  refine ⟨by rw [List.length_set]; exact hh.1, fun b e' hb => ?_⟩
  rw [List.getElem?_set] at hb
  by_cases hab : a = b
  · subst hab
    rw [if_pos rfl] at hb
    split at hb
    · cases hb
      exact he
    · cases hb
  · rw [if_neg hab] at hb
    exact hh.2 b e' hb
theorem fl_lt {h : List va_E} (hh : fl_sh h) {a : Nat} {e : va_E} (he : h[a]? = some e) : a < h.length ∧ a ≠ 999 := by
  have h1 : a < h.length := by
    rcases Nat.lt_or_ge a h.length with h1 | h1
    · exact h1
    · rw [List.getElem?_eq_none h1] at he
      cases he
  have := hh.1
  exact ⟨h1, by omega⟩
theorem fm_i_arr {h : List va_E} (hh : fl_sh h) {a t n : Nat} {f : Nat → Int32} (he : h[a]? = some (.inl (t, n, .inl f))) : fm_i h a = f := by
  funext i
  unfold fm_i
  rw [if_neg (fl_lt hh he).2, he]
theorem fm_i_set {h : List va_E} (hh : fl_sh h) {a t n : Nat} {f : Nat → Int32} (he : h[a]? = some (.inl (t, n, .inl f))) (i : Nat) (x : Int32) : fm_i (h.set a (.inl (t, n, .inl (upd f i x)))) = fl_u (fm_i h) a i x := by
  obtain ⟨h1, h2⟩ := fl_lt hh he
  funext c j
  unfold fl_u
  by_cases hc : c = a
  · subst hc
    have e : (h.set c (.inl (t, n, .inl (upd f i x))))[c]? = some (.inl (t, n, .inl (upd f i x))) := List.getElem?_set_self h1
    have g : fm_i (h.set c (.inl (t, n, .inl (upd f i x)))) c j = upd f i x j := by
      unfold fm_i
      rw [if_neg h2, e]
    rw [g, fm_i_arr hh he]
    unfold upd
    by_cases hj : j = i
    · rw [if_pos hj, if_pos ⟨rfl, hj⟩]
    · rw [if_neg hj, if_neg (fun z => hj z.2)]
  · rw [if_neg (fun z => hc z.1)]
    unfold fm_i
    rw [List.getElem?_set_ne (fun z => hc z.symm)]
theorem fm_l_set {h : List va_E} {a t n : Nat} {f : Nat → Int32} (he : h[a]? = some (.inl (t, n, .inl f))) (g : Nat → Int32) : fm_l (h.set a (.inl (t, n, .inl g))) = fm_l h := by
  funext c j
  unfold fm_l
  by_cases hc : c = a
  · subst hc
    have h1 : c < h.length := by
      rcases Nat.lt_or_ge c h.length with h1 | h1
      · exact h1
      · rw [List.getElem?_eq_none h1] at he
        cases he
    rw [List.getElem?_set_self h1, he]
  · rw [List.getElem?_set_ne (fun z => hc z.symm)]
theorem fl_ce_arr {a t n : Nat} {f g : Nat → Int32} (h : fl_ce a (.inl (t, n, .inl f))) : fl_ce a (.inl (t, n, .inl g)) := h
theorem fm_i_fld {h : List va_E} (hh : fl_sh h) {a ci k : Nat} {fs : List Value} {x : Int32} (he : h[a]? = some (.inr (ci, fs))) (hk : fs[k]? = some (.int x)) : fm_i h a k = x := by
  unfold fm_i
  rw [if_neg (fl_lt hh he).2, he]
  dsimp only
  rw [hk]
theorem fm_l_fld {h : List va_E} {a ci k : Nat} {fs : List Value} {x : Int64} (he : h[a]? = some (.inr (ci, fs))) (hk : fs[k]? = some (.long x)) : fm_l h a k = x := by
  unfold fm_l
  rw [he]
  dsimp only
  rw [hk]
theorem fl_ty_int {h : List va_E} (hh : fl_sh h) {a ci k : Nat} {fs : List Value} {v : Value} (he : h[a]? = some (.inr (ci, fs))) (hk : fs[k]? = some v) : fl_tv ci a k v := (hh.2 a _ he).2.2 k v hk
theorem fl_ce_set {h : List va_E} (hh : fl_sh h) {a ci k : Nat} {fs : List Value} {v : Value} (he : h[a]? = some (.inr (ci, fs))) (hv : fl_tv ci a k v) : fl_ce a (.inr (ci, fs.set k v)) := by
  refine ⟨(hh.2 a _ he).1, by rw [List.length_set]; exact (hh.2 a _ he).2.1, fun j w hj => ?_⟩
  rw [List.getElem?_set] at hj
  by_cases hkj : k = j
  · subst hkj
    rw [if_pos rfl] at hj
    split at hj
    · cases hj
      exact hv
    · cases hj
  · rw [if_neg hkj] at hj
    exact (hh.2 a _ he).2.2 j w hj
theorem fm_i_put {h : List va_E} (hh : fl_sh h) {a ci k : Nat} {fs : List Value} (he : h[a]? = some (.inr (ci, fs))) (hk : k < fs.length) (x : Int32) : fm_i (h.set a (.inr (ci, fs.set k (.int x)))) = fl_u (fm_i h) a k x := by
  obtain ⟨h1, h2⟩ := fl_lt hh he
  funext c j
  unfold fl_u
  by_cases hc : c = a
  · subst hc
    unfold fm_i
    rw [if_neg h2, if_neg h2, List.getElem?_set_self h1, he]
    dsimp only
    by_cases hj : j = k
    · subst hj
      rw [if_pos ⟨rfl, rfl⟩, List.getElem?_set_self hk]
    · rw [if_neg (fun z => hj z.2), List.getElem?_set_ne (fun z => hj z.symm)]
  · rw [if_neg (fun z => hc z.1)]
    unfold fm_i
    rw [List.getElem?_set_ne (fun z => hc z.symm)]
theorem fm_l_puti {h : List va_E} (hh : fl_sh h) {a ci k : Nat} {fs : List Value} (he : h[a]? = some (.inr (ci, fs))) (hk : k < fs.length) (ht : fl_ty ci k = 0) (x : Int32) : fm_l (h.set a (.inr (ci, fs.set k (.int x)))) = fm_l h := by
  obtain ⟨h1, h2⟩ := fl_lt hh he
  funext c j
  unfold fm_l
  by_cases hc : c = a
  · subst hc
    rw [List.getElem?_set_self h1, he]
    dsimp only
    by_cases hj : j = k
    · subst hj
      rw [List.getElem?_set_self hk]
      have hv := fl_ty_int hh he (List.getElem?_eq_getElem hk)
      unfold fl_tv at hv
      rw [ht] at hv
      obtain ⟨y, hy⟩ := hv
      rw [List.getElem?_eq_getElem hk, hy]
    · rw [List.getElem?_set_ne (fun z => hj z.symm)]
  · rw [List.getElem?_set_ne (fun z => hc z.symm)]
theorem fm_l_put {h : List va_E} (hh : fl_sh h) {a ci k : Nat} {fs : List Value} (he : h[a]? = some (.inr (ci, fs))) (hk : k < fs.length) (x : Int64) : fm_l (h.set a (.inr (ci, fs.set k (.long x)))) = fl_w (fm_l h) a k x := by
  obtain ⟨h1, h2⟩ := fl_lt hh he
  funext c j
  unfold fl_w
  by_cases hc : c = a
  · subst hc
    unfold fm_l
    rw [List.getElem?_set_self h1, he]
    dsimp only
    by_cases hj : j = k
    · subst hj
      rw [if_pos ⟨rfl, rfl⟩, List.getElem?_set_self hk]
    · rw [if_neg (fun z => hj z.2), List.getElem?_set_ne (fun z => hj z.symm)]
  · rw [if_neg (fun z => hc z.1)]
    unfold fm_l
    rw [List.getElem?_set_ne (fun z => hc z.symm)]
theorem fm_i_putl {h : List va_E} (hh : fl_sh h) {a ci k : Nat} {fs : List Value} (he : h[a]? = some (.inr (ci, fs))) (hk : k < fs.length) (ht : fl_ty ci k = 1) (x : Int64) : fm_i (h.set a (.inr (ci, fs.set k (.long x)))) = fm_i h := by
  obtain ⟨h1, h2⟩ := fl_lt hh he
  funext c j
  unfold fm_i
  by_cases hc : c = a
  · subst hc
    rw [if_neg h2, if_neg h2, List.getElem?_set_self h1, he]
    dsimp only
    by_cases hj : j = k
    · subst hj
      rw [List.getElem?_set_self hk]
      have hv := fl_ty_int hh he (List.getElem?_eq_getElem hk)
      unfold fl_tv at hv
      rw [ht] at hv
      obtain ⟨y, hy⟩ := hv
      rw [List.getElem?_eq_getElem hk, hy]
    · rw [List.getElem?_set_ne (fun z => hj z.symm)]
  · rw [List.getElem?_set_ne (fun z => hc z.symm)]
theorem fm_i_cpy {h : List va_E} (hh : fl_sh h) {a0 a t0 t n0 n : Nat} {f0 f : Nat → Int32} (h0 : h[a0]? = some (.inl (t0, n0, .inl f0))) (he : h[a]? = some (.inl (t, n, .inl f))) (sp dp k : Nat) : fm_i (h.set a (.inl (t, n, .inl (va_cpy f0 f sp dp k)))) = fl_y (fm_i h) a0 sp a dp k := by
  obtain ⟨h1, h2⟩ := fl_lt hh he
  funext c j
  unfold fl_y
  by_cases hc : c = a
  · subst hc
    have g : fm_i (h.set c (.inl (t, n, .inl (va_cpy f0 f sp dp k)))) c j = va_cpy f0 f sp dp k j := by
      unfold fm_i
      rw [if_neg h2, List.getElem?_set_self h1]
    rw [g, fm_i_arr hh he, fm_i_arr hh h0]
    unfold va_cpy
    by_cases hj : dp ≤ j ∧ j < dp + k
    · rw [if_pos hj, if_pos ⟨rfl, hj⟩]
    · rw [if_neg hj, if_neg (fun z => hj z.2)]
  · rw [if_neg (fun z => hc z.1)]
    unfold fm_i
    rw [List.getElem?_set_ne (fun z => hc z.symm)]
/-! The flat machine goes with the small one. -/
def fl_lr (nL : Nat) (lv : sm_L) (ls : List Value) : Prop := ls.length = nL ∧ ∀ q ∈ lv, ls[q.1]? = some q.2
theorem fl_lr_get {nL : Nat} {lv : sm_L} {ls : List Value} (h : fl_lr nL lv ls) {i : Nat} {v : Value} (hg : sm_get lv i = some v) : ls[i]? = some v := h.2 (i, v) (sm_get_mem hg)
theorem fl_lr_put {nL : Nat} {lv : sm_L} {ls : List Value} (h : fl_lr nL lv ls) {i : Nat} (hi : i < nL) (v : Value) {p : Nat × Value → Bool} (hp : ∀ q, p q = true → q.1 ≠ i) : fl_lr nL ((i, v) :: lv.filter p) (ls.set i v) := by
  refine ⟨by rw [List.length_set]; exact h.1, fun q hq => ?_⟩
  rcases List.mem_cons.mp hq with rfl | hq
  · exact List.getElem?_set_self (by rw [h.1]; exact hi)
  · obtain ⟨h1, h2⟩ := List.mem_filter.mp hq
    rw [List.getElem?_set_ne (fun z => hp q h2 z.symm)]
    exact h.2 q h1
theorem fl_lr_put1 {nL : Nat} {lv : sm_L} {ls : List Value} (h : fl_lr nL lv ls) {i : Nat} (hi : i < nL) (v : Value) : fl_lr nL (sm_put1 lv i v) (ls.set i v) :=
  fl_lr_put h hi v (fun q hq z => by
    obtain ⟨h1, -⟩ := sm_an hq
    rw [z] at h1
    simp at h1)
theorem fl_lr_put2 {nL : Nat} {lv : sm_L} {ls : List Value} (h : fl_lr nL lv ls) {i : Nat} (hi : i < nL) (v : Value) : fl_lr nL (sm_put2 lv i v) (ls.set i v) :=
  fl_lr_put h hi v (fun q hq z => by
    obtain ⟨h1, -⟩ := sm_an hq
    rw [z] at h1
    simp at h1)
/-- a class' tables are as the flat machine takes them -/
def fl_K (K : sm_K) : Prop := (∀ x q, K.1 x = some q → q.2.2 = fl_ty q.1 q.2.1) ∧ K.2.2.2.2.1 = none
def fl_G (K : sm_K) (i : Instr) (pc : Nat) (ls st : List Value) (h : List va_E) (t : sm_T) : Prop := ∃ ls', fl_step K i pc ls st (fm_i h) (fm_l h) = some (t.1, ls', t.2.2.1, fm_i t.2.2.2, fm_l t.2.2.2) ∧ fl_lr K.2.2.2.2.2.1 t.2.1 ls' ∧ fl_sh t.2.2.2
theorem fl_fv_s {h : List va_E} (hh : fl_sh h) {a ci k : Nat} {fs : List Value} {v : Value} (he : h[a]? = some (.inr (ci, fs))) (hk : fs[k]? = some v) {t : Nat} (ht : t = fl_ty ci k) : fl_fv (fm_i h) (fm_l h) (ci, k, t) a = v := by
  have hv := fl_ty_int hh he hk
  subst ht
  unfold fl_fv
  unfold fl_tv at hv
  dsimp only
  split at hv
  · rename_i e
    obtain ⟨x, rfl⟩ := hv
    rw [fm_i_fld hh he hk]
  · rename_i e
    obtain ⟨x, rfl⟩ := hv
    rw [fm_l_fld he hk]
  · rename_i e1 e2
    rw [hv]
set_option maxHeartbeats 4000000 in
theorem fl_sim {K : sm_K} (hK : fl_K K) {i : Instr} {n pc : Nat} {lv : sm_L} {ls st : List Value} {h : List va_E} {t : sm_T} (hs : sm_step K i n pc lv st h = some t) (hl : fl_lr K.2.2.2.2.2.1 lv ls) (hh : fl_sh h) : fl_G K i pc ls st h t := by
  cases i with
  | iconst v =>
    have hs9 := sm_if hs
    clear hs
    obtain ⟨rfl, hs⟩ := hs9
    cases hs
    exact ⟨ls, rfl, hl, hh⟩
  | bipush v =>
    have hs9 := sm_if hs
    clear hs
    obtain ⟨rfl, hs⟩ := hs9
    cases hs
    exact ⟨ls, rfl, hl, hh⟩
  | sipush v =>
    have hs9 := sm_if hs
    clear hs
    obtain ⟨rfl, hs⟩ := hs9
    cases hs
    exact ⟨ls, rfl, hl, hh⟩
  | lconst v =>
    have hs9 := sm_if hs
    clear hs
    obtain ⟨rfl, hs⟩ := hs9
    cases hs
    exact ⟨ls, rfl, hl, hh⟩
  | ldc x =>
    have hs9 := sm_if hs
    clear hs
    obtain ⟨rfl, hs⟩ := hs9
    have hs9 := sm_bd hs
    clear hs
    obtain ⟨v, hv, hs⟩ := hs9
    cases hs
    refine ⟨ls, ?_, hl, hh⟩
    show (K.2.1 x).bind _ = _
    rw [hv]
    rfl
  | ldc_w x =>
    have hs9 := sm_if hs
    clear hs
    obtain ⟨rfl, hs⟩ := hs9
    have hs9 := sm_bd hs
    clear hs
    obtain ⟨v, hv, hs⟩ := hs9
    cases hs
    refine ⟨ls, ?_, hl, hh⟩
    show (K.2.1 x).bind _ = _
    rw [hv]
    rfl
  | ldc2_w x =>
    have hs9 := sm_if hs
    clear hs
    obtain ⟨rfl, hs⟩ := hs9
    have hs9 := sm_bd hs
    clear hs
    obtain ⟨v, hv, hs⟩ := hs9
    cases hs
    refine ⟨ls, ?_, hl, hh⟩
    show (K.2.2.1 x).bind _ = _
    rw [hv]
    rfl
  | iload_n k =>
    have hs9 := sm_if hs
    clear hs
    obtain ⟨rfl, hs⟩ := hs9
    have hs9 := sm_bd hs
    clear hs
    obtain ⟨v, hv, hs⟩ := hs9
    have hs9 := sm_i1_s hs
    clear hs
    obtain ⟨x, r, he, hs⟩ := hs9
    cases he
    cases hs
    refine ⟨ls, ?_, hl, hh⟩
    show (ls[(k : Nat)]?).bind _ = _
    rw [fl_lr_get hl hv]
    rfl
  | iload k =>
    have hs9 := sm_if hs
    clear hs
    obtain ⟨rfl, hs⟩ := hs9
    have hs9 := sm_bd hs
    clear hs
    obtain ⟨v, hv, hs⟩ := hs9
    have hs9 := sm_i1_s hs
    clear hs
    obtain ⟨x, r, he, hs⟩ := hs9
    cases he
    cases hs
    refine ⟨ls, ?_, hl, hh⟩
    show (ls[k]?).bind _ = _
    rw [fl_lr_get hl hv]
    rfl
  | lload_n k =>
    have hs9 := sm_if hs
    clear hs
    obtain ⟨rfl, hs⟩ := hs9
    have hs9 := sm_bd hs
    clear hs
    obtain ⟨v, hv, hs⟩ := hs9
    have hs9 := sm_l1_s hs
    clear hs
    obtain ⟨x, r, he, hs⟩ := hs9
    cases he
    cases hs
    refine ⟨ls, ?_, hl, hh⟩
    show (ls[(k : Nat)]?).bind _ = _
    rw [fl_lr_get hl hv]
    rfl
  | lload k =>
    have hs9 := sm_if hs
    clear hs
    obtain ⟨rfl, hs⟩ := hs9
    have hs9 := sm_bd hs
    clear hs
    obtain ⟨v, hv, hs⟩ := hs9
    have hs9 := sm_l1_s hs
    clear hs
    obtain ⟨x, r, he, hs⟩ := hs9
    cases he
    cases hs
    refine ⟨ls, ?_, hl, hh⟩
    show (ls[k]?).bind _ = _
    rw [fl_lr_get hl hv]
    rfl
  | aload_n k =>
    have hs9 := sm_if hs
    clear hs
    obtain ⟨rfl, hs⟩ := hs9
    have hs9 := sm_bd hs
    clear hs
    obtain ⟨v, hv, hs⟩ := hs9
    have hs9 := sm_r1_s hs
    clear hs
    obtain ⟨x, r, he, hs⟩ := hs9
    cases he
    cases hs
    refine ⟨ls, ?_, hl, hh⟩
    show (ls[(k : Nat)]?).bind _ = _
    rw [fl_lr_get hl hv]
    rfl
  | aload k =>
    have hs9 := sm_if hs
    clear hs
    obtain ⟨rfl, hs⟩ := hs9
    have hs9 := sm_bd hs
    clear hs
    obtain ⟨v, hv, hs⟩ := hs9
    have hs9 := sm_r1_s hs
    clear hs
    obtain ⟨x, r, he, hs⟩ := hs9
    cases he
    cases hs
    refine ⟨ls, ?_, hl, hh⟩
    show (ls[k]?).bind _ = _
    rw [fl_lr_get hl hv]
    rfl
  | istore_n k =>
    have hs9 := sm_if hs
    clear hs
    obtain ⟨⟨rfl, hk⟩, hs⟩ := hs9
    have hs9 := sm_i1_s hs
    clear hs
    obtain ⟨x, r, he, hs⟩ := hs9
    subst he
    cases hs
    exact ⟨_, rfl, fl_lr_put1 hl hk _, hh⟩
  | istore k =>
    have hs9 := sm_if hs
    clear hs
    obtain ⟨⟨rfl, hk⟩, hs⟩ := hs9
    have hs9 := sm_i1_s hs
    clear hs
    obtain ⟨x, r, he, hs⟩ := hs9
    subst he
    cases hs
    exact ⟨_, rfl, fl_lr_put1 hl hk _, hh⟩
  | lstore_n k =>
    have hs9 := sm_if hs
    clear hs
    obtain ⟨⟨rfl, hk⟩, hs⟩ := hs9
    have hs9 := sm_l1_s hs
    clear hs
    obtain ⟨x, r, he, hs⟩ := hs9
    subst he
    cases hs
    exact ⟨_, rfl, fl_lr_put2 hl (Nat.lt_of_succ_lt hk) _, hh⟩
  | lstore k =>
    have hs9 := sm_if hs
    clear hs
    obtain ⟨⟨rfl, hk⟩, hs⟩ := hs9
    have hs9 := sm_l1_s hs
    clear hs
    obtain ⟨x, r, he, hs⟩ := hs9
    subst he
    cases hs
    exact ⟨_, rfl, fl_lr_put2 hl (Nat.lt_of_succ_lt hk) _, hh⟩
  | astore_n k =>
    have hs9 := sm_if hs
    clear hs
    obtain ⟨⟨rfl, hk⟩, hs⟩ := hs9
    have hs9 := sm_r1_s hs
    clear hs
    obtain ⟨x, r, he, hs⟩ := hs9
    subst he
    cases hs
    exact ⟨_, rfl, fl_lr_put1 hl hk _, hh⟩
  | astore k =>
    have hs9 := sm_if hs
    clear hs
    obtain ⟨⟨rfl, hk⟩, hs⟩ := hs9
    have hs9 := sm_r1_s hs
    clear hs
    obtain ⟨x, r, he, hs⟩ := hs9
    subst he
    cases hs
    exact ⟨_, rfl, fl_lr_put1 hl hk _, hh⟩
  | iinc k v =>
    have hs9 := sm_if hs
    clear hs
    obtain ⟨⟨rfl, hk⟩, hs⟩ := hs9
    have hs9 := sm_bd hs
    clear hs
    obtain ⟨w, hw, hs⟩ := hs9
    have hs9 := sm_i1_s hs
    clear hs
    obtain ⟨x, r, he, hs⟩ := hs9
    cases he
    cases hs
    refine ⟨ls.set k (.int (x + Int32.ofInt v)), ?_, fl_lr_put1 hl hk _, hh⟩
    show (ls[k]?).bind _ = _
    rw [fl_lr_get hl hw]
    rfl
  | iadd =>
    have hs9 := sm_if hs
    clear hs
    obtain ⟨rfl, hs⟩ := hs9
    have hs9 := sm_i2_s hs
    clear hs
    obtain ⟨x, y, r, rfl, hs⟩ := hs9
    cases hs
    exact ⟨ls, rfl, hl, hh⟩
  | isub =>
    have hs9 := sm_if hs
    clear hs
    obtain ⟨rfl, hs⟩ := hs9
    have hs9 := sm_i2_s hs
    clear hs
    obtain ⟨x, y, r, rfl, hs⟩ := hs9
    cases hs
    exact ⟨ls, rfl, hl, hh⟩
  | imul =>
    have hs9 := sm_if hs
    clear hs
    obtain ⟨rfl, hs⟩ := hs9
    have hs9 := sm_i2_s hs
    clear hs
    obtain ⟨x, y, r, rfl, hs⟩ := hs9
    cases hs
    exact ⟨ls, rfl, hl, hh⟩
  | iand =>
    have hs9 := sm_if hs
    clear hs
    obtain ⟨rfl, hs⟩ := hs9
    have hs9 := sm_i2_s hs
    clear hs
    obtain ⟨x, y, r, rfl, hs⟩ := hs9
    cases hs
    exact ⟨ls, rfl, hl, hh⟩
  | ior =>
    have hs9 := sm_if hs
    clear hs
    obtain ⟨rfl, hs⟩ := hs9
    have hs9 := sm_i2_s hs
    clear hs
    obtain ⟨x, y, r, rfl, hs⟩ := hs9
    cases hs
    exact ⟨ls, rfl, hl, hh⟩
  | ixor =>
    have hs9 := sm_if hs
    clear hs
    obtain ⟨rfl, hs⟩ := hs9
    have hs9 := sm_i2_s hs
    clear hs
    obtain ⟨x, y, r, rfl, hs⟩ := hs9
    cases hs
    exact ⟨ls, rfl, hl, hh⟩
  | ishl =>
    have hs9 := sm_if hs
    clear hs
    obtain ⟨rfl, hs⟩ := hs9
    have hs9 := sm_i2_s hs
    clear hs
    obtain ⟨x, y, r, rfl, hs⟩ := hs9
    cases hs
    exact ⟨ls, rfl, hl, hh⟩
  | ishr =>
    have hs9 := sm_if hs
    clear hs
    obtain ⟨rfl, hs⟩ := hs9
    have hs9 := sm_i2_s hs
    clear hs
    obtain ⟨x, y, r, rfl, hs⟩ := hs9
    cases hs
    exact ⟨ls, rfl, hl, hh⟩
  | idiv =>
    have hs9 := sm_if hs
    clear hs
    obtain ⟨rfl, hs⟩ := hs9
    have hs9 := sm_i2_s hs
    clear hs
    obtain ⟨x, y, r, rfl, hs⟩ := hs9
    have hs9 := sm_ifn hs
    clear hs
    obtain ⟨-, hs⟩ := hs9
    cases hs
    exact ⟨ls, rfl, hl, hh⟩
  | irem =>
    have hs9 := sm_if hs
    clear hs
    obtain ⟨rfl, hs⟩ := hs9
    have hs9 := sm_i2_s hs
    clear hs
    obtain ⟨x, y, r, rfl, hs⟩ := hs9
    have hs9 := sm_ifn hs
    clear hs
    obtain ⟨-, hs⟩ := hs9
    cases hs
    exact ⟨ls, rfl, hl, hh⟩
  | ineg =>
    have hs9 := sm_if hs
    clear hs
    obtain ⟨rfl, hs⟩ := hs9
    have hs9 := sm_i1_s hs
    clear hs
    obtain ⟨x, r, he, hs⟩ := hs9
    subst he
    cases hs
    exact ⟨ls, rfl, hl, hh⟩
  | ladd =>
    have hs9 := sm_if hs
    clear hs
    obtain ⟨rfl, hs⟩ := hs9
    have hs9 := sm_l2_s hs
    clear hs
    obtain ⟨x, y, r, rfl, hs⟩ := hs9
    cases hs
    exact ⟨ls, rfl, hl, hh⟩
  | lmul =>
    have hs9 := sm_if hs
    clear hs
    obtain ⟨rfl, hs⟩ := hs9
    have hs9 := sm_l2_s hs
    clear hs
    obtain ⟨x, y, r, rfl, hs⟩ := hs9
    cases hs
    exact ⟨ls, rfl, hl, hh⟩
  | lcmp =>
    have hs9 := sm_if hs
    clear hs
    obtain ⟨rfl, hs⟩ := hs9
    have hs9 := sm_l2_s hs
    clear hs
    obtain ⟨x, y, r, rfl, hs⟩ := hs9
    cases hs
    exact ⟨ls, rfl, hl, hh⟩
  | ldiv =>
    have hs9 := sm_if hs
    clear hs
    obtain ⟨rfl, hs⟩ := hs9
    have hs9 := sm_l2_s hs
    clear hs
    obtain ⟨x, y, r, rfl, hs⟩ := hs9
    have hs9 := sm_ifn hs
    clear hs
    obtain ⟨-, hs⟩ := hs9
    cases hs
    exact ⟨ls, rfl, hl, hh⟩
  | lrem =>
    have hs9 := sm_if hs
    clear hs
    obtain ⟨rfl, hs⟩ := hs9
    have hs9 := sm_l2_s hs
    clear hs
    obtain ⟨x, y, r, rfl, hs⟩ := hs9
    have hs9 := sm_ifn hs
    clear hs
    obtain ⟨-, hs⟩ := hs9
    cases hs
    exact ⟨ls, rfl, hl, hh⟩
  | i2l =>
    have hs9 := sm_if hs
    clear hs
    obtain ⟨rfl, hs⟩ := hs9
    have hs9 := sm_i1_s hs
    clear hs
    obtain ⟨x, r, he, hs⟩ := hs9
    subst he
    cases hs
    exact ⟨ls, rfl, hl, hh⟩
  | i2b =>
    have hs9 := sm_if hs
    clear hs
    obtain ⟨rfl, hs⟩ := hs9
    have hs9 := sm_i1_s hs
    clear hs
    obtain ⟨x, r, he, hs⟩ := hs9
    subst he
    cases hs
    exact ⟨ls, rfl, hl, hh⟩
  | l2i =>
    have hs9 := sm_if hs
    clear hs
    obtain ⟨rfl, hs⟩ := hs9
    have hs9 := sm_l1_s hs
    clear hs
    obtain ⟨x, r, he, hs⟩ := hs9
    subst he
    cases hs
    exact ⟨ls, rfl, hl, hh⟩
  | goto off =>
    have hs9 := sm_if hs
    clear hs
    obtain ⟨rfl, hs⟩ := hs9
    have hs9 := sm_bd hs
    clear hs
    obtain ⟨u, hu, hs⟩ := hs9
    cases hs
    refine ⟨ls, ?_, hl, hh⟩
    show (sm_j pc off).bind _ = _
    rw [hu]
    rfl
  | ifCond q off =>
    have hs9 := sm_if hs
    clear hs
    obtain ⟨rfl, hs⟩ := hs9
    have hs9 := sm_bd hs
    clear hs
    obtain ⟨u, hu, hs⟩ := hs9
    have hs9 := sm_i1_s hs
    clear hs
    obtain ⟨x, r, he, hs⟩ := hs9
    subst he
    cases hs
    refine ⟨ls, ?_, hl, hh⟩
    show (sm_j pc off).bind _ = _
    rw [hu]
    rfl
  | if_icmp q off =>
    have hs9 := sm_if hs
    clear hs
    obtain ⟨rfl, hs⟩ := hs9
    have hs9 := sm_bd hs
    clear hs
    obtain ⟨u, hu, hs⟩ := hs9
    have hs9 := sm_i2_s hs
    clear hs
    obtain ⟨x, y, r, rfl, hs⟩ := hs9
    cases hs
    refine ⟨ls, ?_, hl, hh⟩
    show (sm_j pc off).bind _ = _
    rw [hu]
    rfl
  | tableswitch dflt lo hi offs =>
    have hs9 := sm_i1_s hs
    clear hs
    obtain ⟨x, r, rfl, hs⟩ := hs9
    by_cases hx : x.toInt < lo ∨ hi < x.toInt
    · rw [if_pos hx] at hs
      have hs9 := sm_bd hs
      clear hs
      obtain ⟨u, hu, hs⟩ := hs9
      cases hs
      refine ⟨ls, ?_, hl, hh⟩
      show (if x.toInt < lo ∨ hi < x.toInt then (sm_j pc dflt).bind _ else _) = _
      rw [if_pos hx, hu]
      rfl
    · rw [if_neg hx] at hs
      have hs9 := sm_bd hs
      clear hs
      obtain ⟨off, hoff, hs⟩ := hs9
      have hs9 := sm_bd hs
      clear hs
      obtain ⟨u, hu, hs⟩ := hs9
      cases hs
      refine ⟨ls, ?_, hl, hh⟩
      show (if x.toInt < lo ∨ hi < x.toInt then _ else (offs[(x.toInt - lo).toNat]?).bind _) = _
      rw [if_neg hx, hoff]
      show (sm_j pc off).bind _ = _
      rw [hu]
      rfl
  | getstatic x =>
    have hs9 := sm_if hs
    clear hs
    obtain ⟨⟨rfl, -⟩, hs⟩ := hs9
    cases hs
    exact ⟨ls, rfl, hl, hh⟩
  | getfield x =>
    have hs9 := sm_if hs
    clear hs
    obtain ⟨rfl, hs⟩ := hs9
    have hs9 := sm_r1_s hs
    clear hs
    obtain ⟨a, r, he, hs⟩ := hs9
    subst he
    have hs9 := sm_bd hs
    clear hs
    obtain ⟨q, hq, hs⟩ := hs9
    have hs9 := sm_bd hs
    clear hs
    obtain ⟨fs, hf, hs⟩ := hs9
    have hs9 := sm_bd hs
    clear hs
    obtain ⟨v, hv, hs⟩ := hs9
    cases hs
    refine ⟨ls, ?_, hl, hh⟩
    show (K.1 x).bind _ = _
    rw [hq]
    show some (pc + 3, ls, fl_fv (fm_i h) (fm_l h) q a :: r, fm_i h, fm_l h) = _
    rw [show fl_fv (fm_i h) (fm_l h) q a = v from fl_fv_s hh (sm_obj_s hf) hv (hK.1 _ _ hq)]
  | arraylength =>
    have hs9 := sm_if hs
    clear hs
    obtain ⟨rfl, hs⟩ := hs9
    have hs9 := sm_r1_s hs
    clear hs
    obtain ⟨a, r, rfl, hs⟩ := hs9
    rw [hK.2] at hs
    have hs9 := sm_bd hs
    clear hs
    obtain ⟨w, hw, hs⟩ := hs9
    cases hs
    refine ⟨ls, ?_, hl, hh⟩
    have e : w.1 = fl_len a := (hh.2 a _ (sm_ints_s hw)).2
    show some (pc + 1, ls, Value.int (Int32.ofNat (fl_len a)) :: r, fm_i h, fm_l h) = _
    rw [e]
  | iaload =>
    have hs9 := sm_if hs
    clear hs
    obtain ⟨rfl, hs⟩ := hs9
    have hs9 := sm_ri_s hs
    clear hs
    obtain ⟨a, i, r, rfl, hs⟩ := hs9
    by_cases ha : a = 999
    · rw [if_pos ha] at hs
      have hs9 := sm_ifn hs
      clear hs
      obtain ⟨-, hs⟩ := hs9
      cases hs
      refine ⟨ls, ?_, hl, hh⟩
      show some (pc + 1, ls, Value.int (fm_i h a i.toNatClampNeg) :: r, fm_i h, fm_l h) = _
      rw [show fm_i h a i.toNatClampNeg = sm_kl i.toNatClampNeg from if_pos ha]
    · rw [if_neg ha] at hs
      by_cases hb : a = 998
      · rw [if_pos hb, hK.2] at hs
        cases hs
      · rw [if_neg hb] at hs
        have hs9 := sm_bd hs
        clear hs
        obtain ⟨w, hw, hs⟩ := hs9
        have hs9 := sm_ifn hs
        clear hs
        obtain ⟨-, hs⟩ := hs9
        cases hs
        refine ⟨ls, ?_, hl, hh⟩
        show some (pc + 1, ls, Value.int (fm_i h a i.toNatClampNeg) :: r, fm_i h, fm_l h) = _
        rw [fm_i_arr hh (sm_ints_s hw)]
  | baload =>
    have hs9 := sm_if hs
    clear hs
    obtain ⟨rfl, hs⟩ := hs9
    have hs9 := sm_ri_s hs
    clear hs
    obtain ⟨a, i, r, rfl, hs⟩ := hs9
    have hs9 := sm_bd hs
    clear hs
    obtain ⟨w, hw, hs⟩ := hs9
    have hs9 := sm_ifn hs
    clear hs
    obtain ⟨-, hs⟩ := hs9
    cases hs
    refine ⟨ls, ?_, hl, hh⟩
    show some (pc + 1, ls, Value.int (fm_i h a i.toNatClampNeg) :: r, fm_i h, fm_l h) = _
    rw [fm_i_arr hh (sm_byts_s hw)]
  | aaload =>
    have hs9 := sm_if hs
    clear hs
    obtain ⟨rfl, hs⟩ := hs9
    have hs9 := sm_ri_s hs
    clear hs
    obtain ⟨a, i, r, rfl, hs⟩ := hs9
    have hs9 := sm_bd hs
    clear hs
    obtain ⟨w, hw, hs⟩ := hs9
    have hs9 := sm_ifn hs
    clear hs
    obtain ⟨hin, hs⟩ := hs9
    have hs9 := sm_bd hs
    clear hs
    obtain ⟨b, hb, hs⟩ := hs9
    cases hs
    refine ⟨ls, ?_, hl, hh⟩
    have e := (hh.2 a _ (sm_refs_s hw).1).2.2 _ (Nat.not_le.mp fun z => hin (Or.inr z))
    rw [hb] at e
    have e := Option.some.inj e
    show some (pc + 1, ls, Value.ref (fl_ar a i.toNatClampNeg) :: r, fm_i h, fm_l h) = _
    rw [e]
  | iastore =>
    have hs9 := sm_if hs
    clear hs
    obtain ⟨rfl, hs⟩ := hs9
    have hs9 := sm_rii_s hs
    clear hs
    obtain ⟨a, i, x, r, rfl, hs⟩ := hs9
    have hs9 := sm_bd hs
    clear hs
    obtain ⟨w, hw, hs⟩ := hs9
    have hs9 := sm_ifn hs
    clear hs
    obtain ⟨-, hs⟩ := hs9
    cases hs
    have he := sm_ints_s hw
    refine ⟨ls, ?_, hl, fl_sh_set hh (fl_ce_arr (hh.2 a _ he))⟩
    dsimp only
    rw [fm_i_set hh he, fm_l_set he]
    rfl
  | bastore =>
    have hs9 := sm_if hs
    clear hs
    obtain ⟨rfl, hs⟩ := hs9
    have hs9 := sm_rii_s hs
    clear hs
    obtain ⟨a, i, x, r, rfl, hs⟩ := hs9
    have hs9 := sm_bd hs
    clear hs
    obtain ⟨w, hw, hs⟩ := hs9
    have hs9 := sm_ifn hs
    clear hs
    obtain ⟨-, hs⟩ := hs9
    cases hs
    have he := sm_byts_s hw
    refine ⟨ls, ?_, hl, fl_sh_set hh (fl_ce_arr (hh.2 a _ he))⟩
    dsimp only
    rw [fm_i_set hh he, fm_l_set he]
    rfl
  | putfield x =>
    have hs9 := sm_if hs
    clear hs
    obtain ⟨rfl, hs⟩ := hs9
    split at hs
    · rename_i v a r
      have hs9 := sm_bd hs
      clear hs
      obtain ⟨q, hq, hs⟩ := hs9
      have hs9 := sm_if hs
      clear hs
      obtain ⟨ht, hs⟩ := hs9
      have hs9 := sm_bd hs
      clear hs
      obtain ⟨fs, hf, hs⟩ := hs9
      have hs9 := sm_if hs
      clear hs
      obtain ⟨hk, hs⟩ := hs9
      cases hs
      have he := sm_obj_s hf
      have hty : fl_ty q.1 q.2.1 = 0 := (hK.1 _ _ hq).symm.trans ht
      refine ⟨ls, ?_, hl, fl_sh_set hh (fl_ce_set hh he (by unfold fl_tv; rw [hty]; exact ⟨_, rfl⟩))⟩
      dsimp only
      rw [fm_i_put hh he hk, fm_l_puti hh he hk hty]
      show (K.1 x).bind _ = _
      rw [hq]
      rfl
    · rename_i v a r
      have hs9 := sm_bd hs
      clear hs
      obtain ⟨q, hq, hs⟩ := hs9
      have hs9 := sm_if hs
      clear hs
      obtain ⟨ht, hs⟩ := hs9
      have hs9 := sm_bd hs
      clear hs
      obtain ⟨fs, hf, hs⟩ := hs9
      have hs9 := sm_if hs
      clear hs
      obtain ⟨hk, hs⟩ := hs9
      cases hs
      have he := sm_obj_s hf
      have hty : fl_ty q.1 q.2.1 = 1 := (hK.1 _ _ hq).symm.trans ht
      refine ⟨ls, ?_, hl, fl_sh_set hh (fl_ce_set hh he (by unfold fl_tv; rw [hty]; exact ⟨_, rfl⟩))⟩
      dsimp only
      rw [fm_i_putl hh he hk hty, fm_l_put hh he hk]
      show (K.1 x).bind _ = _
      rw [hq]
      rfl
    · cases hs
  | dup =>
    have hs9 := sm_if hs
    clear hs
    obtain ⟨rfl, hs⟩ := hs9
    split at hs
    · have hs9 := sm_if hs
      clear hs
      obtain ⟨-, hs⟩ := hs9
      cases hs
      exact ⟨ls, rfl, hl, hh⟩
    · cases hs
  | dup2 =>
    have hs9 := sm_if hs
    clear hs
    obtain ⟨rfl, hs⟩ := hs9
    split at hs
    · have hs9 := sm_if hs
      clear hs
      obtain ⟨-, hs⟩ := hs9
      cases hs
      exact ⟨ls, rfl, hl, hh⟩
    · cases hs
  | pop =>
    have hs9 := sm_if hs
    clear hs
    obtain ⟨rfl, hs⟩ := hs9
    split at hs
    · have hs9 := sm_if hs
      clear hs
      obtain ⟨-, hs⟩ := hs9
      cases hs
      exact ⟨ls, rfl, hl, hh⟩
    · cases hs
  | pop2 =>
    have hs9 := sm_if hs
    clear hs
    obtain ⟨rfl, hs⟩ := hs9
    split at hs
    · have hs9 := sm_if hs
      clear hs
      obtain ⟨-, hs⟩ := hs9
      cases hs
      exact ⟨ls, rfl, hl, hh⟩
    · cases hs
  | invokestatic x =>
    have hs9 := sm_if hs
    clear hs
    obtain ⟨rfl, hs⟩ := hs9
    have hs9 := sm_bd hs
    clear hs
    obtain ⟨q, hq, hs⟩ := hs9
    have go : ∀ u : Option fl_S, fl_step K (.invokestatic x) pc ls st (fm_i h) (fm_l h) = (K.2.2.2.2.2.2 x).bind (fun q => match q with
      | 0 => sm_i2 st fun x y r => some (pc + 3, ls, .int (if x < y then y else x) :: r, fm_i h, fm_l h)
      | 1 => sm_i2 st fun x y r => some (pc + 3, ls, .int (if y < x then y else x) :: r, fm_i h, fm_l h)
      | 2 => sm_i1 st fun x r => some (pc + 3, ls, .int (if 0 ≤ x then x else 0 - x) :: r, fm_i h, fm_l h)
      | 3 => sm_c5 st fun a0 sp a dp k r => some (pc + 3, ls, r, fl_y (fm_i h) a0 sp.toNatClampNeg a dp.toNatClampNeg k.toNatClampNeg, fm_l h)
      | _ => none) := fun _ => rfl
    have go := go none
    rw [hq] at go
    split at hs
    · have hs9 := sm_i2_s hs
      clear hs
      obtain ⟨y, z, r, rfl, hs⟩ := hs9
      have hs9 := sm_if hs
      clear hs
      obtain ⟨-, hs⟩ := hs9
      cases hs
      exact ⟨ls, go.trans rfl, hl, hh⟩
    · have hs9 := sm_i2_s hs
      clear hs
      obtain ⟨y, z, r, rfl, hs⟩ := hs9
      have hs9 := sm_if hs
      clear hs
      obtain ⟨-, hs⟩ := hs9
      cases hs
      exact ⟨ls, go.trans rfl, hl, hh⟩
    · have hs9 := sm_i1_s hs
      clear hs
      obtain ⟨y, r, rfl, hs⟩ := hs9
      have hs9 := sm_if hs
      clear hs
      obtain ⟨-, hs⟩ := hs9
      cases hs
      exact ⟨ls, go.trans rfl, hl, hh⟩
    · have hs9 := sm_c5_s hs
      clear hs
      obtain ⟨a0, sp, a, dp, k, r, rfl, hs⟩ := hs9
      have hs9 := sm_bd hs
      clear hs
      obtain ⟨w0, hw0, hs⟩ := hs9
      have hs9 := sm_bd hs
      clear hs
      obtain ⟨w, hw, hs⟩ := hs9
      have hs9 := sm_if hs
      clear hs
      obtain ⟨-, hs⟩ := hs9
      cases hs
      have h0 := sm_ints_s hw0
      have he := sm_ints_s hw
      refine ⟨ls, ?_, hl, fl_sh_set hh (fl_ce_arr (hh.2 a _ he))⟩
      dsimp only
      rw [fm_i_cpy hh h0 he, fm_l_set he]
      exact go.trans rfl
    · cases hs
  | _ => cases hs
/-! Runs of the flat machine. -/
def fl_ca (X : fl_X) (k m pc : Nat) (ls st : List Value) (M : fl_M) (J : fl_J) : Option (fl_Q ⊕ fl_S) := (X k ((st.take m).reverse) M J).map fun q => .inr (pc + 3, ls, q.1.toList ++ st.drop m, q.2.1, q.2.2)
def fl_one (B : sm_P) (X : fl_X) (s : fl_S) : Option (fl_Q ⊕ fl_S) := (B.1 s.1).bind fun q => match q.1 with
  | .ireturn => (s.2.2.1[0]?).bind fun v => some (.inl (some v, s.2.2.2))
  | .lreturn => (s.2.2.1[0]?).bind fun v => some (.inl (some v, s.2.2.2))
  | .return_ => some (.inl (none, s.2.2.2))
  | .invokevirtual x => (B.2.2.1 x).bind fun c => fl_ca X c.2.1 (c.2.2.1 + 1) s.1 s.2.1 s.2.2.1 s.2.2.2.1 s.2.2.2.2
  | .invokestatic x => (match B.2.2.1 x with
    | some c => fl_ca X c.2.1 c.2.2.1 s.1 s.2.1 s.2.2.1 s.2.2.2.1 s.2.2.2.2
    | none => (fl_step B.2.1 (.invokestatic x) s.1 s.2.1 s.2.2.1 s.2.2.2.1 s.2.2.2.2).map .inr)
  | i => (fl_step B.2.1 i s.1 s.2.1 s.2.2.1 s.2.2.2.1 s.2.2.2.2).map .inr
def fl_run (B : sm_P) (X : fl_X) : Nat → fl_S → Option fl_Q
  | 0, _ => none
  | g + 1, s => (fl_one B X s).bind fun t => match t with
    | .inl q => some q
    | .inr s' => fl_run B X g s'
def fl_sl (vs : List Value) : List Value := vs.flatMap fun v => if v.category = 2 then [v, .null] else [v]
def fl_args (nL : Nat) (vs : List Value) : List Value := fl_sl vs ++ List.replicate (nL - (fl_sl vs).length) .null
def fl_ex : Nat → Nat → fl_X
  | 0, _ => fun _ _ _ _ => none
  | d + 1, f => fun k vs M J => fl_run (sm_B k) (fl_ex d f) f (0, fl_args (sm_ML k) vs, [], M, J)
/-- a step of the flat machine -/
theorem fl_one_s {B : sm_P} (hB : ut_B B) {i : Instr} {n pc : Nat} {lv : sm_L} {st ls : List Value} {h : List va_E} {t : sm_T} {M : fl_M} {J : fl_J} {s' : fl_S} (hi : B.1 pc = some (i, n)) (hs : sm_step B.2.1 i n pc lv st h = some t) (hf : fl_step B.2.1 i pc ls st M J = some s') (X : fl_X) : fl_one B X (pc, ls, st, M, J) = some (.inr s') := by
  have e : fl_one B X (pc, ls, st, M, J) = (fl_step B.2.1 i pc ls st M J).map .inr := by
    unfold fl_one
    dsimp only
    rw [hi]
    cases i with
    | ireturn => cases hs
    | lreturn => cases hs
    | return_ => cases hs
    | invokevirtual x => cases hs
    | invokestatic x =>
      cases hc : B.2.2.1 x with
      | none =>
        show (match B.2.2.1 x with
          | some c => fl_ca X c.2.1 c.2.2.1 pc ls st M J
          | none => (fl_step B.2.1 (.invokestatic x) pc ls st M J).map .inr) = _
        rw [hc]
      | some c =>
        have e := hB x _ hc
        have hs9 := sm_if hs
        obtain ⟨-, hs9⟩ := hs9
        rw [e] at hs9
        cases hs9
    | _ => rfl
  rw [e, hf]
  rfl
theorem fl_cal {B : sm_P} {i : Instr} {n pc k : Nat} {st vs r ls : List Value} {h : List va_E} {M M' : fl_M} {J J' : fl_J} {o : Option Value} {X : fl_X} (hi : B.1 pc = some (i, n)) (hc : sm_cal B.2.2.1 i n st h k vs r) (hX : X k vs M J = some (o, M', J')) : fl_one B X (pc, ls, st, M, J) = some (.inr (pc + 3, ls, o.toList ++ r, M', J')) := by
  have key : ∀ m, (st.take m).reverse = vs → st.drop m = r → fl_ca X k m pc ls st M J = some (.inr (pc + 3, ls, o.toList ++ r, M', J')) := by
    intro m h1 h2
    unfold fl_ca
    rw [h1, h2, hX]
    rfl
  obtain ⟨-, -, ⟨x, ci, b, As, rfl, hc, rfl, rfl, -⟩ | ⟨x, ci, rfl, hc, rfl⟩ | ⟨x, ci, rfl, hc, rfl⟩⟩ := hc
  · unfold fl_one
    dsimp only
    rw [hi]
    show (B.2.2.1 x).bind _ = _
    rw [hc]
    refine key (As.length + 1) ?_ ?_
    · rw [show As.reverse ++ Value.ref b :: r = (As.reverse ++ [.ref b]) ++ r by simp, List.take_left' (by simp)]
      simp
    · rw [show As.reverse ++ Value.ref b :: r = (As.reverse ++ [.ref b]) ++ r by simp, List.drop_left' (by simp)]
  · unfold fl_one
    dsimp only
    rw [hi]
    show (match B.2.2.1 x with
          | some c => fl_ca X c.2.1 c.2.2.1 pc ls _ M J
          | none => _) = _
    rw [hc]
    refine key vs.length ?_ ?_
    · rw [List.take_left' (by simp)]
      simp
    · rw [List.drop_left' (by simp)]
  · unfold fl_one
    dsimp only
    rw [hi]
    show (match B.2.2.1 x with
          | some c => fl_ca X c.2.1 c.2.2.1 pc ls _ M J
          | none => _) = _
    rw [hc]
    refine key vs.length ?_ ?_
    · rw [List.take_left' (by simp)]
      simp
    · rw [List.drop_left' (by simp)]
theorem fl_ret {B : sm_P} {i : Instr} {n pc : Nat} {st ls : List Value} {M : fl_M} {J : fl_J} {o : Option Value} {X : fl_X} (hi : B.1 pc = some (i, n)) (hr : sm_ret B.2.2.2 i n st o) : fl_one B X (pc, ls, st, M, J) = some (.inl (o, M, J)) := by
  unfold fl_one
  dsimp only
  rw [hi]
  obtain ⟨-, ⟨rfl, v, rfl, rfl, -⟩ | ⟨rfl, v, rfl, rfl, -⟩ | ⟨rfl, rfl, rfl, -⟩⟩ := hr
  · rfl
  · rfl
  · rfl
/-- what is to be known of the calls -/
def fl_Xo (X : sm_X) (d : Nat) : Prop := ∀ (k : Nat) (vs : List Value) (h : List va_E) (o : Option Value) (h' : List va_E), X k vs h o h' → fl_sh h → fl_sh h' ∧ ∃ f0, ∀ f, f0 ≤ f → fl_ex d f k vs (fm_i h) (fm_l h) = some (o, fm_i h', fm_l h')
theorem fl_sims {B : sm_P} (hK : fl_K B.2.1) (hB : ut_B B) {X : sm_X} {d : Nat} (hX : fl_Xo X d) : ∀ (g pc : Nat) (lv : sm_L) (st : List Value) (h : List va_E) (o : Option Value) (h' : List va_E) (ls : List Value), sm_rn B X g pc lv st h o h' → fl_lr B.2.1.2.2.2.2.2.1 lv ls → fl_sh h → fl_sh h' ∧ ∃ f0, ∀ f, f0 ≤ f → ∀ g', g ≤ g' → fl_run B (fl_ex d f) g' (pc, ls, st, fm_i h, fm_l h) = some (o, fm_i h', fm_l h') := by
  intro g
  induction g with
  | zero => intro pc lv st h o h' ls hr; exact hr.elim
  | succ g ih =>
    intro pc lv st h o h' ls hr hl hh
    obtain ⟨i, n, hi, hr⟩ := hr
    have suc : ∀ g', g + 1 ≤ g' → ∃ g'', g' = g'' + 1 ∧ g ≤ g'' := fun g' hg => ⟨g' - 1, by omega, by omega⟩
    rcases hr with ⟨hr, rfl⟩ | ⟨⟨pc', lv', st', h1⟩, hs, hr⟩ | ⟨k, vs, r, o1, h1, hc, hx, hr⟩
    · refine ⟨hh, 0, fun f _ g' hg => ?_⟩
      obtain ⟨g'', rfl, hg⟩ := suc g' hg
      unfold fl_run
      rw [fl_ret hi hr]
      rfl
    · obtain ⟨ls', h2, h3, h4⟩ := fl_sim hK hs hl hh
      obtain ⟨h5, f0, h6⟩ := ih pc' lv' st' h1 o h' ls' hr h3 h4
      refine ⟨h5, f0, fun f hf g' hg => ?_⟩
      obtain ⟨g'', rfl, hg⟩ := suc g' hg
      unfold fl_run
      rw [fl_one_s hB hi hs h2]
      exact h6 f hf g'' (by omega)
    · obtain ⟨h2, f1, h3⟩ := hX k vs h o1 h1 hx hh
      obtain ⟨h5, f0, h6⟩ := ih (pc + 3) lv (o1.toList ++ r) h1 o h' ls hr hl h2
      refine ⟨h5, max f0 f1, fun f hf g' hg => ?_⟩
      obtain ⟨g'', rfl, hg⟩ := suc g' hg
      unfold fl_run
      rw [fl_cal hi hc (h3 f (by omega))]
      exact h6 f (by omega) g'' (by omega)
theorem fl_sl_at (vs : List Value) : ∀ (pre tl : List Value), ∀ q ∈ lv_args pre.length vs, (pre ++ (fl_sl vs ++ tl))[q.1]? = some q.2 := by
  induction vs with
  | nil => intro pre tl q hq; exact absurd hq List.not_mem_nil
  | cons v vs ih =>
    intro pre tl q hq
    unfold lv_args at hq
    rcases List.mem_cons.mp hq with rfl | hq
    · dsimp only
      rw [List.getElem?_append_right (Nat.le_refl _), Nat.sub_self]
      unfold fl_sl
      rw [List.flatMap_cons]
      by_cases hv : v.category = 2
      · rw [if_pos hv]; rfl
      · rw [if_neg hv]; rfl
    · by_cases hv : v.category = 2
      · rw [if_pos hv] at hq
        have e := ih (pre ++ [v, .null]) tl q (by rw [List.length_append]; exact hq)
        rw [← e]
        unfold fl_sl
        rw [List.flatMap_cons, if_pos hv]
        simp
      · rw [if_neg hv] at hq
        have e := ih (pre ++ [v]) tl q (by rw [List.length_append]; exact hq)
        rw [← e]
        unfold fl_sl
        rw [List.flatMap_cons, if_neg hv]
        simp
theorem fl_sl_len : ∀ vs : List Value, (fl_sl vs).length = (lg_sl vs).length
  | [] => rfl
  | v :: vs => by
    have h := fl_sl_len vs
    unfold fl_sl lg_sl at h ⊢
    rw [List.flatMap_cons, List.flatMap_cons, List.length_append, List.length_append, h]
    by_cases hv : v.category = 2
    · rw [if_pos hv, if_pos hv]; rfl
    · rw [if_neg hv, if_neg hv]; rfl
def fl_ko (o : Nat) : Bool := (sm_fl o).all fun q => Nat.beq q.2.2.2 (fl_ty q.2.1 q.2.2.1)
theorem fl_kok : (List.range 4).all fl_ko = true := by decide +kernel
theorem fl_Kn {k : Nat} (hk : k < 200) : fl_K (sm_B k).2.1 := by
  refine ⟨fun x q h => ?_, rfl⟩
  have h : sm_lk (sm_fl (sm_O k)) x = some q := h
  obtain ⟨g1, g2, g3, g4, g5, g6, g7, g8, g9⟩ := sm_mgood_all _ (sm_m_in (k := k) (by rw [sm_md_len]; exact hk))
  exact Nat.eq_of_beq_eq_true (List.all_eq_true.mp (List.all_eq_true.mp fl_kok (sm_O k) (List.mem_range.mpr g7)) _ (sm_lk_s h))
theorem fl_all : ∀ d, fl_Xo (sm_Ex 200 sm_ML sm_B d) d := by
  intro d
  induction d with
  | zero => intro k vs h o h' x; exact x.elim
  | succ d ih =>
    intro k vs h o h' x hh
    obtain ⟨hk, hv, g, r⟩ := x
    have hv : (fl_sl vs).length ≤ sm_ML k := by rw [fl_sl_len]; exact hv
    obtain ⟨h1, f0, h2⟩ := fl_sims (fl_Kn hk) (ut_sB hk) ih g 0 (lv_args 0 vs) [] h o h' (fl_args (sm_ML k) vs) r ⟨by
      unfold fl_args
      rw [List.length_append, List.length_replicate]
      show _ = sm_ML k
      omega, fun q hq => fl_sl_at vs [] _ q hq⟩ hh
    exact ⟨h1, max f0 g, fun f hf => h2 f (by omega) f (by omega)⟩
/-! What a run comes to. -/
def fl_go (B : sm_P) (s s' : fl_S) : Prop := ∀ (d f g : Nat) (q : fl_Q), fl_run B (fl_ex d f) g s = some q → ∃ g', g' ≤ g ∧ fl_run B (fl_ex d f) g' s' = some q
def fl_dn (B : sm_P) (s : fl_S) (r : fl_Q) : Prop := ∀ (d f g : Nat) (q : fl_Q), fl_run B (fl_ex d f) g s = some q → q = r
def fl_C (k : Nat) (vs : List Value) (M : fl_M) (J : fl_J) (r : fl_Q) : Prop := ∀ (d f : Nat) (q : fl_Q), fl_ex d f k vs M J = some q → q = r
section FL
variable {B : sm_P} {s s' s'' : fl_S} {r : fl_Q} {pc : Nat} {ls st : List Value} {M : fl_M} {J : fl_J}
theorem fl_rfl : fl_go B s s := fun _ _ g _ h => ⟨g, Nat.le_refl _, h⟩
theorem fl_tr (h1 : fl_go B s s') (h2 : fl_go B s' s'') : fl_go B s s'' := by
  intro d f g q h
  obtain ⟨g1, l1, e1⟩ := h1 d f g q h
  obtain ⟨g2, l2, e2⟩ := h2 d f g1 q e1
  exact ⟨g2, Nat.le_trans l2 l1, e2⟩
theorem fl_td (h1 : fl_go B s s') (h2 : fl_dn B s' r) : fl_dn B s r := by
  intro d f g q h
  obtain ⟨g1, l1, e1⟩ := h1 d f g q h
  exact h2 d f g1 q e1
theorem fl_eq (h1 : fl_go B s s') (e : s' = s'') : fl_go B s s'' := e ▸ h1
theorem fl_i1 (h : ∀ (d f : Nat), fl_one B (fl_ex d f) s = some (.inr s')) : fl_go B s s' := by
  intro d f g q hr
  cases g with
  | zero => cases hr
  | succ g =>
    unfold fl_run at hr
    rw [h] at hr
    exact ⟨g, Nat.le_succ _, hr⟩
/-- steps that call nothing -/
def fl_many (B : sm_P) : Nat → fl_S → Option fl_S
  | 0, s => some s
  | n + 1, s => (fl_one B (fun _ _ _ _ => none) s).bind fun t => match t with
    | .inl _ => none
    | .inr s' => fl_many B n s'
theorem fl_mono {X : fl_X} {t : fl_Q ⊕ fl_S} (h : fl_one B (fun _ _ _ _ => none) s = some t) : fl_one B X s = some t := by
  unfold fl_one at h ⊢
  cases hb : B.1 s.1 with
  | none => rw [hb] at h; cases h
  | some q =>
    rw [hb] at h
    obtain ⟨i, n⟩ := q
    cases i with
    | invokevirtual x =>
      have h : (B.2.2.1 x).bind _ = some t := h
      cases hc : B.2.2.1 x with
      | none => rw [hc] at h; cases h
      | some c => rw [hc] at h; cases h
    | invokestatic x =>
      cases hc : B.2.2.1 x with
      | none =>
        have h : (match B.2.2.1 x with
          | some c => fl_ca (fun _ _ _ _ => none) c.2.1 c.2.2.1 s.1 s.2.1 s.2.2.1 s.2.2.2.1 s.2.2.2.2
          | none => (fl_step B.2.1 (.invokestatic x) s.1 s.2.1 s.2.2.1 s.2.2.2.1 s.2.2.2.2).map .inr) = some t := h
        show (match B.2.2.1 x with
          | some c => fl_ca X c.2.1 c.2.2.1 s.1 s.2.1 s.2.2.1 s.2.2.2.1 s.2.2.2.2
          | none => (fl_step B.2.1 (.invokestatic x) s.1 s.2.1 s.2.2.1 s.2.2.2.1 s.2.2.2.2).map .inr) = some t
        rw [hc] at h ⊢
        exact h
      | some c =>
        have h : (match B.2.2.1 x with
          | some c => fl_ca (fun _ _ _ _ => none) c.2.1 c.2.2.1 s.1 s.2.1 s.2.2.1 s.2.2.2.1 s.2.2.2.2
          | none => (fl_step B.2.1 (.invokestatic x) s.1 s.2.1 s.2.2.1 s.2.2.2.1 s.2.2.2.2).map .inr) = some t := h
        rw [hc] at h
        cases h
    | _ => exact h
theorem fl_n (n : Nat) : ∀ {s s' : fl_S}, fl_many B n s = some s' → fl_go B s s' := by
  induction n with
  | zero => intro s s' h; cases h; exact fl_rfl
  | succ n ih =>
    intro s s' h
    unfold fl_many at h
    obtain ⟨t, ht, h⟩ := sm_bd h
    cases t with
    | inl q => cases h
    | inr s1 => exact fl_tr (fl_i1 (fun d f => fl_mono ht)) (ih h)
theorem fl_ic {q : Jvm.ClassFile.Cond} {off : Int} {t : Nat} {x y : Int32} (hi : B.1 pc = some (.if_icmp q off, 3)) (ht : sm_j pc off = some t) : fl_go B (pc, ls, .int y :: .int x :: st, M, J) (if sm_cmp q x y = true then t else pc + 3, ls, st, M, J) := by
  refine fl_i1 (fun d f => ?_)
  unfold fl_one
  dsimp only
  rw [hi]
  show Option.map _ ((sm_j pc off).bind _) = _
  rw [ht]
  rfl
theorem fl_if {q : Jvm.ClassFile.Cond} {off : Int} {t : Nat} {x : Int32} (hi : B.1 pc = some (.ifCond q off, 3)) (ht : sm_j pc off = some t) : fl_go B (pc, ls, .int x :: st, M, J) (if sm_cmp q x 0 = true then t else pc + 3, ls, st, M, J) := by
  refine fl_i1 (fun d f => ?_)
  unfold fl_one
  dsimp only
  rw [hi]
  show Option.map _ ((sm_j pc off).bind _) = _
  rw [ht]
  rfl
/-- a branch: both ways -/
theorem fl_two {b : Bool} {c : Prop} [Decidable c] {t u : Nat} {s1 s2 : fl_S} (hg : fl_go B s (if b = true then t else u, ls, st, M, J)) (hb : b = true ↔ c) (h1 : c → fl_go B (t, ls, st, M, J) s1) (h2 : ¬ c → fl_go B (u, ls, st, M, J) s2) : fl_go B s (if c then s1 else s2) := by
  by_cases hc : c
  · rw [if_pos (hb.mpr hc)] at hg
    rw [if_pos hc]
    exact fl_tr hg (h1 hc)
  · rw [if_neg (fun z => hc (hb.mp z))] at hg
    rw [if_neg hc]
    exact fl_tr hg (h2 hc)
theorem fl_not {b : Bool} {c : Prop} [Decidable c] {t u : Nat} {s1 s2 : fl_S} (hg : fl_go B s (if b = true then t else u, ls, st, M, J)) (hb : b = true ↔ ¬ c) (h1 : c → fl_go B (u, ls, st, M, J) s1) (h2 : ¬ c → fl_go B (t, ls, st, M, J) s2) : fl_go B s (if c then s1 else s2) := by
  by_cases hc : c
  · rw [if_neg (fun z => hb.mp z hc)] at hg
    rw [if_pos hc]
    exact fl_tr hg (h1 hc)
  · rw [if_pos (hb.mpr hc)] at hg
    rw [if_neg hc]
    exact fl_tr hg (h2 hc)
theorem fl_cT {c : Prop} [Decidable c] : decide c = true ↔ c := decide_eq_true_iff
theorem fl_cF {c : Prop} [Decidable c] : decide (¬ c) = true ↔ ¬ c := decide_eq_true_iff
theorem fl_nlt {x y : Int32} : decide (y ≤ x) = true ↔ ¬ x < y := by
  rw [decide_eq_true_iff]
  exact Int32.not_lt.symm
theorem fl_nle {x y : Int32} : decide (x ≤ y) = true ↔ ¬ y < x := by
  rw [decide_eq_true_iff]
  exact Int32.not_lt.symm
/-- calls -/
theorem fl_cv {x k np ci m : Nat} {vs st' : List Value} {o : Option Value} {M' : fl_M} {J' : fl_J} (hi : B.1 pc = some (.invokevirtual x, 3)) (hc : B.2.2.1 x = some (0, k, np, ci)) (hm : m = np + 1) (hv : (st.take m).reverse = vs) (hC : fl_C k vs M J (o, M', J')) (hr : o.toList ++ st.drop m = st') : fl_go B (pc, ls, st, M, J) (pc + 3, ls, st', M', J') := by
  intro d f g q h
  cases g with
  | zero => cases h
  | succ g =>
    unfold fl_run at h
    have e : fl_one B (fl_ex d f) (pc, ls, st, M, J) = fl_ca (fl_ex d f) k m pc ls st M J := by
      unfold fl_one
      dsimp only
      rw [hi]
      show (B.2.2.1 x).bind _ = _
      rw [hc, hm]
      rfl
    rw [e] at h
    unfold fl_ca at h
    rw [hv] at h
    cases hx : fl_ex d f k vs M J with
    | none => rw [hx] at h; cases h
    | some w =>
      rw [hx, hC d f w hx] at h
      refine ⟨g, Nat.le_succ _, ?_⟩
      rw [← hr]
      exact h
theorem fl_cs {x k np ci t : Nat} {vs st' : List Value} {o : Option Value} {M' : fl_M} {J' : fl_J} (hi : B.1 pc = some (.invokestatic x, 3)) (hc : B.2.2.1 x = some (t, k, np, ci)) (hv : (st.take np).reverse = vs) (hC : fl_C k vs M J (o, M', J')) (hr : o.toList ++ st.drop np = st') : fl_go B (pc, ls, st, M, J) (pc + 3, ls, st', M', J') := by
  intro d f g q h
  cases g with
  | zero => cases h
  | succ g =>
    unfold fl_run at h
    have e : fl_one B (fl_ex d f) (pc, ls, st, M, J) = fl_ca (fl_ex d f) k np pc ls st M J := by
      unfold fl_one
      dsimp only
      rw [hi]
      show (match B.2.2.1 x with
          | some c => fl_ca (fl_ex d f) c.2.1 c.2.2.1 pc ls st M J
          | none => _) = _
      rw [hc]
    rw [e] at h
    unfold fl_ca at h
    rw [hv] at h
    cases hx : fl_ex d f k vs M J with
    | none => rw [hx] at h; cases h
    | some w =>
      rw [hx, hC d f w hx] at h
      refine ⟨g, Nat.le_succ _, ?_⟩
      rw [← hr]
      exact h
theorem fl_re {i : Instr} {n : Nat} (hi : B.1 pc = some (i, n)) (hr : ∀ X, fl_one B X (pc, ls, st, M, J) = some (.inl r)) : fl_dn B (pc, ls, st, M, J) r := by
  intro d f g q h
  cases g with
  | zero => cases h
  | succ g =>
    unfold fl_run at h
    rw [hr] at h
    cases h
    rfl
theorem fl_di {c : Prop} [Decidable c] {s1 s2 : fl_S} {r1 r2 : fl_Q} (h1 : c → fl_dn B s1 r1) (h2 : ¬ c → fl_dn B s2 r2) : fl_dn B (if c then s1 else s2) (if c then r1 else r2) := by
  by_cases hc : c
  · rw [if_pos hc, if_pos hc]; exact h1 hc
  · rw [if_neg hc, if_neg hc]; exact h2 hc
end FL
theorem fl_Co {k : Nat} {B : sm_P} {vs ls : List Value} {M : fl_M} {J : fl_J} {r : fl_Q} (hB : sm_B k = B) (hl : fl_args (sm_ML k) vs = ls) (h : fl_dn B (0, ls, [], M, J) r) : fl_C k vs M J r := by
  intro d f q hx
  cases d with
  | zero => cases hx
  | succ d =>
    have hx : fl_run (sm_B k) (fl_ex d f) f (0, fl_args (sm_ML k) vs, [], M, J) = some q := hx
    rw [hB, hl] at hx
    exact h d f f q hx
/-- a run of the small machine is one of the flat one -/
theorem fl_use {d k : Nat} {vs : List Value} {h h' : List va_E} {o : Option Value} {r : fl_Q} (x : sm_Ex 200 sm_ML sm_B d k vs h o h') (hh : fl_sh h) (hC : fl_C k vs (fm_i h) (fm_l h) r) : fl_sh h' ∧ o = r.1 ∧ fm_i h' = r.2.1 ∧ fm_l h' = r.2.2 := by
  obtain ⟨h1, f0, h2⟩ := fl_all d k vs h o h' x hh
  have e := hC d f0 _ (h2 f0 (Nat.le_refl _))
  subst e
  exact ⟨h1, rfl, rfl, rfl⟩
/-! Ways of walking over the flat machine. -/
section FL4
variable {B : sm_P} {s s' s'' : fl_S} {r : fl_Q} {pc : Nat} {ls st : List Value} {M : fl_M} {J : fl_J}
theorem fl_rt {i : Instr} {n : Nat} {r' : fl_Q} (hi : B.1 pc = some (i, n)) (hr : ∀ X, fl_one B X (pc, ls, st, M, J) = some (.inl r')) (e : r' = r) : fl_dn B (pc, ls, st, M, J) r := e ▸ fl_re hi hr
theorem fl_dtwo {b : Bool} {c : Prop} [Decidable c] {t u : Nat} (hg : fl_go B s (if b = true then t else u, ls, st, M, J)) (hb : b = true ↔ c) (h1 : c → fl_dn B (t, ls, st, M, J) r) (h2 : ¬ c → fl_dn B (u, ls, st, M, J) r) : fl_dn B s r := by
  by_cases hc : c
  · rw [if_pos (hb.mpr hc)] at hg
    exact fl_td hg (h1 hc)
  · rw [if_neg (fun z => hc (hb.mp z))] at hg
    exact fl_td hg (h2 hc)
theorem fl_dnot {b : Bool} {c : Prop} [Decidable c] {t u : Nat} (hg : fl_go B s (if b = true then t else u, ls, st, M, J)) (hb : b = true ↔ ¬ c) (h1 : c → fl_dn B (u, ls, st, M, J) r) (h2 : ¬ c → fl_dn B (t, ls, st, M, J) r) : fl_dn B s r := by
  by_cases hc : c
  · rw [if_neg (fun z => hb.mp z hc)] at hg
    exact fl_td hg (h1 hc)
  · rw [if_pos (hb.mpr hc)] at hg
    exact fl_td hg (h2 hc)
theorem fl_dc {c : Prop} [Decidable c] (h1 : c → fl_dn B s r) (h2 : ¬ c → fl_dn B s r) : fl_dn B s r := by
  by_cases hc : c
  · exact h1 hc
  · exact h2 hc
theorem fl_gc {c : Prop} [Decidable c] {s1 s2 : fl_S} (h1 : c → fl_go B s s1) (h2 : ¬ c → fl_go B s s2) : fl_go B s (if c then s1 else s2) := by
  by_cases hc : c
  · rw [if_pos hc]; exact h1 hc
  · rw [if_neg hc]; exact h2 hc
theorem fl_sw {x v : Int32} (hx : x = v) (hs : fl_many B 1 (pc, ls, .int v :: st, M, J) = some s') : fl_go B (pc, ls, .int x :: st, M, J) s' := hx ▸ fl_n 1 hs
theorem fl_swd {x : Int32} {dflt lo up : Int} {offs : Array Int} {n t : Nat} (hi : B.1 pc = some (.tableswitch dflt lo up offs, n)) (ht : sm_j pc dflt = some t) (hx : x.toInt < lo ∨ up < x.toInt) : fl_go B (pc, ls, .int x :: st, M, J) (t, ls, st, M, J) := by
  refine fl_i1 (fun d f => ?_)
  unfold fl_one
  dsimp only
  rw [hi]
  show Option.map _ (if x.toInt < lo ∨ up < x.toInt then (sm_j pc dflt).bind _ else _) = _
  rw [if_pos hx, ht]
  rfl
end FL4
theorem fl_ne {x v : Int32} (z : Int) (hz : v.toInt = z) (h : ¬ x = v) : x.toInt ≠ z := fun e => h (Int32.toInt_inj.mp (e.trans hz.symm))
theorem fl_b0 {c : Prop} [Decidable c] : decide ((if c then (1 : Int32) else 0) = 0) = true ↔ ¬ c := by
  by_cases hc : c
  · rw [if_pos hc]; simp [hc]
  · rw [if_neg hc]; simp [hc]
theorem fl_b1 {c : Prop} [Decidable c] : decide (¬ (if c then (1 : Int32) else 0) = 0) = true ↔ c := by
  by_cases hc : c
  · rw [if_pos hc]; simp [hc]
  · rw [if_neg hc]; simp [hc]
theorem fl_cmp (x y : Int64) : (lg_cmp x y = 1 ∧ y < x) ∨ (lg_cmp x y = 0 ∧ x = y) ∨ (lg_cmp x y = -1 ∧ x < y) := by
  unfold lg_cmp
  by_cases h1 : x > y
  · rw [if_pos h1]; exact Or.inl ⟨rfl, h1⟩
  · rw [if_neg h1]
    by_cases h2 : x = y
    · rw [if_pos h2]; exact Or.inr (Or.inl ⟨rfl, h2⟩)
    · rw [if_neg h2]
      refine Or.inr (Or.inr ⟨rfl, ?_⟩)
      have h3 : ¬ y < x := h1
      rw [Int64.lt_iff_toInt_lt] at h3 ⊢
      have h4 : x.toInt ≠ y.toInt := fun z => h2 (Int64.toInt_inj.mp z)
      omega
theorem fl_lw {x y : Int64} : (y < x → ¬ x < y ∧ ¬ x = y) := by
  intro h
  refine ⟨fun z => ?_, fun z => ?_⟩
  · rw [Int64.lt_iff_toInt_lt] at h z; omega
  · subst z; rw [Int64.lt_iff_toInt_lt] at h; omega
theorem fl_llt {x y : Int64} : decide (lg_cmp x y < 0) = true ↔ x < y := by
  rw [decide_eq_true_iff]
  rcases fl_cmp x y with ⟨e, h⟩ | ⟨e, h⟩ | ⟨e, h⟩
  · rw [e]; exact ⟨fun z => absurd z (by decide), fun z => absurd z (fl_lw h).1⟩
  · rw [e]; subst h; exact ⟨fun z => absurd z (by decide), fun z => absurd rfl (fl_lw z).2⟩
  · rw [e]; exact ⟨fun _ => h, fun _ => by decide⟩
theorem fl_lge {x y : Int64} : decide ((0 : Int32) ≤ lg_cmp x y) = true ↔ ¬ x < y := by
  rw [decide_eq_true_iff]
  rcases fl_cmp x y with ⟨e, h⟩ | ⟨e, h⟩ | ⟨e, h⟩
  · rw [e]; exact ⟨fun _ => (fl_lw h).1, fun _ => by decide⟩
  · rw [e]; subst h; exact ⟨fun _ z => absurd rfl (fl_lw z).2, fun _ => by decide⟩
  · rw [e]; exact ⟨fun z => absurd z (by decide), fun z => absurd h z⟩
theorem fl_lgt {x y : Int64} : decide ((0 : Int32) < lg_cmp x y) = true ↔ y < x := by
  rw [decide_eq_true_iff]
  rcases fl_cmp x y with ⟨e, h⟩ | ⟨e, h⟩ | ⟨e, h⟩
  · rw [e]; exact ⟨fun _ => h, fun _ => by decide⟩
  · rw [e]; subst h; exact ⟨fun z => absurd z (by decide), fun z => absurd rfl (fl_lw z).2⟩
  · rw [e]; exact ⟨fun z => absurd z (by decide), fun z => absurd h (fl_lw z).1⟩
theorem fl_lle {x y : Int64} : decide (lg_cmp x y ≤ 0) = true ↔ ¬ y < x := by
  rw [decide_eq_true_iff]
  rcases fl_cmp x y with ⟨e, h⟩ | ⟨e, h⟩ | ⟨e, h⟩
  · rw [e]; exact ⟨fun z => absurd z (by decide), fun z => absurd h z⟩
  · rw [e]; subst h; exact ⟨fun _ z => absurd rfl (fl_lw z).2, fun _ => by decide⟩
  · rw [e]; exact ⟨fun _ => (fl_lw h).1, fun _ => by decide⟩
theorem fl_leq {x y : Int64} : decide (lg_cmp x y = 0) = true ↔ x = y := by
  rw [decide_eq_true_iff]
  rcases fl_cmp x y with ⟨e, h⟩ | ⟨e, h⟩ | ⟨e, h⟩
  · rw [e]; exact ⟨fun z => absurd z (by decide), fun z => absurd z (fl_lw h).2⟩
  · rw [e]; exact ⟨fun _ => h, fun _ => rfl⟩
  · rw [e]; exact ⟨fun z => absurd z (by decide), fun z => absurd z.symm (fl_lw h).2⟩
theorem fl_lne {x y : Int64} : decide (¬ lg_cmp x y = 0) = true ↔ ¬ x = y := by
  rw [decide_eq_true_iff, ← @fl_leq x y, decide_eq_true_iff]
/-- ints as longs -/
theorem fl_64lt {x y : Int32} : x.toInt64 < y.toInt64 ↔ x < y := by
  rw [Int64.lt_iff_toInt_lt, Int32.lt_iff_toInt_lt, Int32.toInt_toInt64, Int32.toInt_toInt64]
theorem fl_64eq {x y : Int32} : x.toInt64 = y.toInt64 ↔ x = y := by
  rw [← Int64.toInt_inj, ← Int32.toInt_inj, Int32.toInt_toInt64, Int32.toInt_toInt64]
/-! Loops, and numbers that count. -/
theorem fl_it {B : sm_P} {S : Nat → fl_S} (N : Nat) (h : ∀ m, m < N → fl_go B (S m) (S (m + 1))) : fl_go B (S 0) (S N) := by
  induction N with
  | zero => exact fl_rfl
  | succ N ih => exact fl_tr (ih (fun m hm => h m (Nat.lt_succ_of_lt hm))) (h N (Nat.lt_succ_self N))
theorem fi_at {m : Nat} (h : m < 2147483648) : (Int32.ofNat m).toNatClampNeg = m := Int32.toNatClampNeg_ofNat_of_lt h
theorem fi_ti {m : Nat} (h : m < 2147483648) : (Int32.ofNat m).toInt = m := Int32.toInt_ofNat_of_lt h
theorem fi_cl (n : Int32) : n.toNatClampNeg = n.toInt.toNat := rfl
theorem fi_lt {m : Nat} {n : Int32} (h : m < 2147483648) : Int32.ofNat m < n ↔ m < n.toNatClampNeg := by
  rw [Int32.lt_iff_toInt_lt, fi_ti h, fi_cl]
  omega
theorem fi_s (m : Nat) : Int32.ofNat m + 1 = Int32.ofNat (m + 1) := by
  rw [Int32.ofNat_add]
  rfl
theorem fi_bd (n : Int32) : n.toNatClampNeg < 2147483648 := Int32.toNatClampNeg_lt n
theorem fi_of {n : Int32} (h : ¬ n < 0) : Int32.ofNat n.toNatClampNeg = n := Int32.ofNat_toNatClampNeg n (Int32.not_lt.mp h)
/-- a stretch of places, filled -/
def fl_f (M : fl_M) (a n : Nat) (v : Int32) : fl_M := fun c j => if c = a ∧ j < n then v else M c j
theorem fl_f0 (M : fl_M) (a : Nat) (v : Int32) : fl_f M a 0 v = M := by
  funext c j
  unfold fl_f
  rw [if_neg (fun z => by omega)]
theorem fl_fs (M : fl_M) (a n : Nat) (v : Int32) : fl_u (fl_f M a n v) a n v = fl_f M a (n + 1) v := by
  funext c j
  unfold fl_u fl_f
  by_cases h1 : c = a
  · by_cases h2 : j = n
    · rw [if_pos ⟨h1, h2⟩, if_pos ⟨h1, by omega⟩]
    · rw [if_neg (fun z => h2 z.2)]
      by_cases h3 : j < n
      · rw [if_pos ⟨h1, h3⟩, if_pos ⟨h1, by omega⟩]
      · rw [if_neg (fun z => h3 z.2), if_neg (fun z => by omega)]
  · rw [if_neg (fun z => h1 z.1), if_neg (fun z => h1 z.1), if_neg (fun z => h1 z.1)]
theorem fl_itd {B : sm_P} {S : Nat → fl_S} {s : fl_S} {r : fl_Q} (N : Nat) (h : ∀ m, m < N → fl_go B (S m) (S (m + 1))) (e : S 0 = s) (hd : fl_dn B (S N) r) : fl_dn B s r := e ▸ fl_td (fl_it N h) hd
theorem fl_itg {B : sm_P} {S : Nat → fl_S} {s s' : fl_S} (N : Nat) (h : ∀ m, m < N → fl_go B (S m) (S (m + 1))) (e : S 0 = s) (hd : fl_go B (S N) s') : fl_go B s s' := e ▸ fl_tr (fl_it N h) hd
theorem fl_de {B : sm_P} {s : fl_S} {r r' : fl_Q} (h : fl_dn B s r') (e : r' = r) : fl_dn B s r := e ▸ h
theorem fl_ge {B : sm_P} {s s' s'' : fl_S} (h : fl_go B s s') (e : s' = s'') : fl_go B s s'' := e ▸ h
theorem fl_Ce {k : Nat} {vs : List Value} {M : fl_M} {J : fl_J} {r r' : fl_Q} (h : fl_C k vs M J r) (e : r = r') : fl_C k vs M J r' := e ▸ h
/-! Places of the reference's rows; stretches filled and copied; sums. -/
theorem fi_bm {z : Int} (h1 : -2147483648 ≤ z) (h2 : z < 2147483648) : z.bmod (2 ^ 32) = z := by
  unfold Int.bmod
  dsimp only
  split <;> omega
theorem fi_add {x y : Int32} (h1 : -2147483648 ≤ x.toInt + y.toInt) (h2 : x.toInt + y.toInt < 2147483648) : (x + y).toInt = x.toInt + y.toInt := by
  rw [Int32.toInt_add, fi_bm h1 h2]
theorem fi_sub {x y : Int32} (h1 : -2147483648 ≤ x.toInt - y.toInt) (h2 : x.toInt - y.toInt < 2147483648) : (x - y).toInt = x.toInt - y.toInt := by
  rw [Int32.toInt_sub, fi_bm h1 h2]
theorem fi_mul {x y : Int32} (h1 : -2147483648 ≤ x.toInt * y.toInt) (h2 : x.toInt * y.toInt < 2147483648) : (x * y).toInt = x.toInt * y.toInt := by
  rw [Int32.toInt_mul, fi_bm h1 h2]
theorem fi_ge {x y : Int32} : ¬ x < y ↔ y.toInt ≤ x.toInt := by
  rw [Int32.lt_iff_toInt_lt]
  omega
theorem fi_l {x y : Int32} : x < y ↔ x.toInt < y.toInt := Int32.lt_iff_toInt_lt
theorem fi_e {x y : Int32} : x = y ↔ x.toInt = y.toInt := Int32.toInt_inj.symm
theorem fi_i0 : (0 : Int32).toInt = 0 := rfl
theorem fi_i1 : (1 : Int32).toInt = 1 := rfl
theorem fi_m1 : (-1 : Int32).toInt = -1 := rfl
theorem fi_i3 : (3 : Int32).toInt = 3 := rfl
theorem fi_i4 : (4 : Int32).toInt = 4 := rfl
theorem fi_i5 : (5 : Int32).toInt = 5 := rfl
theorem fi_i6 : (6 : Int32).toInt = 6 := rfl
theorem fi_i40 : (40 : Int32).toInt = 40 := rfl
theorem fi_i60 : (60 : Int32).toInt = 60 := rfl
/-- a row's place in the reference's one row -/
theorem fi_40 {r k : Int32} (h1 : 0 ≤ r.toInt) (h2 : r.toInt ≤ 5) (h3 : 0 ≤ k.toInt) (h4 : k.toInt ≤ 100) : (40 * r + k).toNatClampNeg = 40 * r.toNatClampNeg + k.toNatClampNeg := by
  have e1 : (40 * r).toInt = 40 * r.toInt := by
    rw [fi_mul (by rw [fi_i40]; omega) (by rw [fi_i40]; omega), fi_i40]
  rw [fi_cl, fi_add (by omega) (by omega), e1, fi_cl, fi_cl]
  omega
theorem fi_60 {r k : Int32} (h1 : 0 ≤ r.toInt) (h2 : r.toInt ≤ 3) (h3 : 0 ≤ k.toInt) (h4 : k.toInt ≤ 100) : (60 * r + k).toNatClampNeg = 60 * r.toNatClampNeg + k.toNatClampNeg := by
  have e1 : (60 * r).toInt = 60 * r.toInt := by
    rw [fi_mul (by rw [fi_i60]; omega) (by rw [fi_i60]; omega), fi_i60]
  rw [fi_cl, fi_add (by omega) (by omega), e1, fi_cl, fi_cl]
  omega
/-- a stretch filled -/
def fl_g (M : fl_M) (a lo n : Nat) (v : Int32) : fl_M := fun c j => if c = a ∧ lo ≤ j ∧ j < lo + n then v else M c j
theorem fl_g0 (M : fl_M) (a lo : Nat) (v : Int32) : fl_g M a lo 0 v = M := by
  funext c j
  unfold fl_g
  rw [if_neg (fun z => by omega)]
theorem fl_gs (M : fl_M) (a lo n : Nat) (v : Int32) : fl_u (fl_g M a lo n v) a (lo + n) v = fl_g M a lo (n + 1) v := by
  funext c j
  unfold fl_u fl_g
  by_cases h1 : c = a
  · by_cases h2 : j = lo + n
    · rw [if_pos ⟨h1, h2⟩, if_pos ⟨h1, by omega⟩]
    · rw [if_neg (fun z => h2 z.2)]
      by_cases h3 : lo ≤ j ∧ j < lo + n
      · rw [if_pos ⟨h1, h3⟩, if_pos ⟨h1, by omega⟩]
      · rw [if_neg (fun z => h3 z.2), if_neg (fun z => by omega)]
  · rw [if_neg (fun z => h1 z.1), if_neg (fun z => h1 z.1), if_neg (fun z => h1 z.1)]
/-- a stretch of one row copied within it: whatever its ends -/
def fl_k (M : fl_M) (a sp dp lo hi : Nat) : fl_M := fun c j => if c = a ∧ dp + lo ≤ j ∧ j < dp + hi then M a (sp + (j - dp)) else M c j
theorem fl_k0 (M : fl_M) (a sp dp lo : Nat) : fl_k M a sp dp lo lo = M := by
  funext c j
  unfold fl_k
  rw [if_neg (fun z => by omega)]
/-- forwards: the place read isn't written yet -/
theorem fl_kf (M : fl_M) (a sp dp m : Nat) (h : ¬ (dp ≤ sp + m ∧ sp + m < dp + m)) : fl_u (fl_k M a sp dp 0 m) a (dp + m) (fl_k M a sp dp 0 m a (sp + m)) = fl_k M a sp dp 0 (m + 1) := by
  have e : fl_k M a sp dp 0 m a (sp + m) = M a (sp + m) := by
    unfold fl_k
    rw [if_neg (fun z => h (by omega))]
  rw [e]
  funext c j
  unfold fl_u fl_k
  by_cases h1 : c = a
  · by_cases h2 : j = dp + m
    · rw [if_pos ⟨h1, h2⟩, if_pos ⟨h1, by omega⟩, h2]
      congr 1
      omega
    · rw [if_neg (fun z => h2 z.2)]
      by_cases h3 : dp + 0 ≤ j ∧ j < dp + m
      · rw [if_pos ⟨h1, h3⟩, if_pos ⟨h1, by omega⟩]
      · rw [if_neg (fun z => h3 z.2), if_neg (fun z => by omega)]
  · rw [if_neg (fun z => h1 z.1), if_neg (fun z => h1 z.1), if_neg (fun z => h1 z.1)]
/-- backwards -/
theorem fl_kb (M : fl_M) (a sp dp lo n : Nat) (hl : lo < n) (h : ¬ (dp + (lo + 1) ≤ sp + lo ∧ sp + lo < dp + n)) : fl_u (fl_k M a sp dp (lo + 1) n) a (dp + lo) (fl_k M a sp dp (lo + 1) n a (sp + lo)) = fl_k M a sp dp lo n := by
  have e : fl_k M a sp dp (lo + 1) n a (sp + lo) = M a (sp + lo) := by
    unfold fl_k
    rw [if_neg (fun z => h (by omega))]
  rw [e]
  funext c j
  unfold fl_u fl_k
  by_cases h1 : c = a
  · by_cases h2 : j = dp + lo
    · rw [if_pos ⟨h1, h2⟩, if_pos ⟨h1, by omega⟩, h2]
      congr 1
      omega
    · rw [if_neg (fun z => h2 z.2)]
      by_cases h3 : dp + (lo + 1) ≤ j ∧ j < dp + n
      · rw [if_pos ⟨h1, h3⟩, if_pos ⟨h1, by omega⟩]
      · rw [if_neg (fun z => h3 z.2), if_neg (fun z => by omega)]
  · rw [if_neg (fun z => h1 z.1), if_neg (fun z => h1 z.1), if_neg (fun z => h1 z.1)]
/-- a sum of ints as a long -/
def fl_sm (f : Nat → Int32) : Nat → Int64
  | 0 => 0
  | n + 1 => fl_sm f n + (f n).toInt64
theorem fl_sm_c {f g : Nat → Int32} {n : Nat} (h : ∀ j, j < n → f j = g j) : fl_sm f n = fl_sm g n := by
  induction n with
  | zero => rfl
  | succ n ih =>
    unfold fl_sm
    rw [ih (fun j hj => h j (Nat.lt_succ_of_lt hj)), h n (Nat.lt_succ_self n)]
theorem fi_40b {r i k : Int32} (h1 : 0 ≤ r.toInt) (h2 : r.toInt ≤ 5) (h3 : 0 ≤ i.toInt) (h4 : i.toInt ≤ 100) (h5 : 0 ≤ k.toInt) (h6 : k.toInt ≤ 100) : (40 * r + i + k).toNatClampNeg = 40 * r.toNatClampNeg + i.toNatClampNeg + k.toNatClampNeg := by
  have e1 : (40 * r).toInt = 40 * r.toInt := by
    rw [fi_mul (by rw [fi_i40]; omega) (by rw [fi_i40]; omega), fi_i40]
  have e2 : (40 * r + i).toInt = 40 * r.toInt + i.toInt := by
    rw [fi_add (by omega) (by omega), e1]
  rw [fi_cl, fi_add (by omega) (by omega), e2, fi_cl, fi_cl, fi_cl]
  omega
theorem fi_span {i n s : Int32} : s.toInt64 < i.toInt64 + n.toInt64 ↔ s.toInt < i.toInt + n.toInt := by
  have h1 := i.le_toInt
  have h2 := i.toInt_lt
  have h3 := n.le_toInt
  have h4 := n.toInt_lt
  have e : (i.toInt64 + n.toInt64).toInt = i.toInt + n.toInt := by
    rw [Int64.toInt_add, Int32.toInt_toInt64, Int32.toInt_toInt64]
    unfold Int.bmod
    dsimp only
    split <;> omega
  rw [Int64.lt_iff_toInt_lt, e, Int32.toInt_toInt64]
theorem fi_r6 {r : Int32} (h : (¬ (r < 0)) ∧ (¬ (5 < r))) : r.toNatClampNeg < 6 := by
  have h2 := fi_ge.mp h.2
  rw [fi_i5] at h2
  rw [fi_cl]
  omega
def fB1 : sm_P := (fun pc => sm_ch sm_t1 pc, sm_Kn 2 1 none, fun x => sm_lk sm_ca2 x, some .boolean)
theorem cc_1 (M : fl_M) (J : fl_J) (r : Int32) : fl_C 1 [.int r] M J (some (.int (if (r < 0) ∨ (¬ (r < 6)) then 1 else 0)), M, J) :=
 fl_Co (B := fB1) rfl rfl <|
 fl_td (s' := (1, [.int r], [.int r], M, J)) (fl_n 1 rfl) <|
 fl_dtwo (fl_if (t := 10) rfl rfl) fl_cT (fun h1 =>
  fl_td (s' := (15, [.int r], [.int 1], M, J)) (fl_n 2 rfl) <|
  fl_rt rfl (fun _ => rfl) (by simp [h1])) (fun h1 =>
  fl_td (s' := (7, [.int r], [.int 6, .int r], M, J)) (fl_n 2 rfl) <|
  fl_dtwo (fl_ic (t := 14) rfl rfl) fl_cT (fun h2 =>
   fl_td (s' := (15, [.int r], [.int 0], M, J)) (fl_n 1 rfl) <|
   fl_rt rfl (fun _ => rfl) (by simp [h1, h2])) (fun h2 =>
   fl_td (s' := (15, [.int r], [.int 1], M, J)) (fl_n 2 rfl) <|
   fl_rt rfl (fun _ => rfl) (by simp [h1, h2])))
def fB12 : sm_P := (fun pc => sm_ch sm_t12 pc, sm_Kn 2 1 none, fun x => sm_lk sm_ca2 x, some .boolean)
theorem cc_12 (M : fl_M) (J : fl_J) (t : Int32) : fl_C 12 [.int t] M J (some (.int (if (t < 0) ∨ (¬ (t < 4)) then 1 else 0)), M, J) :=
 fl_Co (B := fB12) rfl rfl <|
 fl_td (s' := (1, [.int t], [.int t], M, J)) (fl_n 1 rfl) <|
 fl_dtwo (fl_if (t := 9) rfl rfl) fl_cT (fun h1 =>
  fl_td (s' := (14, [.int t], [.int 1], M, J)) (fl_n 2 rfl) <|
  fl_rt rfl (fun _ => rfl) (by simp [h1])) (fun h1 =>
  fl_td (s' := (6, [.int t], [.int 4, .int t], M, J)) (fl_n 2 rfl) <|
  fl_dtwo (fl_ic (t := 13) rfl rfl) fl_cT (fun h2 =>
   fl_td (s' := (14, [.int t], [.int 0], M, J)) (fl_n 1 rfl) <|
   fl_rt rfl (fun _ => rfl) (by simp [h1, h2])) (fun h2 =>
   fl_td (s' := (14, [.int t], [.int 1], M, J)) (fl_n 2 rfl) <|
   fl_rt rfl (fun _ => rfl) (by simp [h1, h2])))
def fB5 : sm_P := (fun pc => sm_ch sm_t5 pc, sm_Kn 2 2 none, fun x => sm_lk sm_ca2 x, some .int)
theorem cc_5 (M : fl_M) (J : fl_J) (v : Int32) : fl_C 5 [.ref 0, .int v] M J (some (.int 1), (fl_u M 0 12 v), J) :=
 fl_Co (B := fB5) rfl rfl <|
 fl_td (s' := (6, [.ref 0, .int v], [.int 1], (fl_u M 0 12 v), J)) (fl_n 4 rfl) <|
 fl_rt rfl (fun _ => rfl) (rfl)
def fB2 : sm_P := (fun pc => sm_ch sm_t2 pc, sm_Kn 2 2 none, fun x => sm_lk sm_ca2 x, some .int)
theorem cc_2 (M : fl_M) (J : fl_J) (v : Int32) : fl_C 2 [.ref 0, .int v] M J (some (.int (-3)), (fl_u (fl_u M 0 11 v) 80 v.toNatClampNeg ((M 80 v.toNatClampNeg) + 1)), J) :=
 fl_Co (B := fB2) rfl rfl <|
 fl_td (s' := (17, [.ref 0, .int v], [.int (-3)], (fl_u (fl_u M 0 11 v) 80 v.toNatClampNeg ((M 80 v.toNatClampNeg) + 1)), J)) (fl_n 12 rfl) <|
 fl_rt rfl (fun _ => rfl) (rfl)
def fB9 : sm_P := (fun pc => sm_ch sm_t9 pc, sm_Kn 2 3 none, fun x => sm_lk sm_ca2 x, some .boolean)
theorem cc_9 (M : fl_M) (J : fl_J) (i n v : Int32) : fl_C 9 [.int i, .int n, .int v] M J (some (.int (if (i < 0) ∨ ((v - n) < i) then 1 else 0)), M, J) :=
 fl_Co (B := fB9) rfl rfl <|
 fl_td (s' := (1, [.int i, .int n, .int v], [.int i], M, J)) (fl_n 1 rfl) <|
 fl_dtwo (fl_if (t := 11) rfl rfl) fl_cT (fun h1 =>
  fl_td (s' := (16, [.int i, .int n, .int v], [.int 1], M, J)) (fl_n 2 rfl) <|
  fl_rt rfl (fun _ => rfl) (by simp [h1])) (fun h1 =>
  fl_td (s' := (8, [.int i, .int n, .int v], [.int (v - n), .int i], M, J)) (fl_n 4 rfl) <|
  fl_dnot (fl_ic (t := 15) rfl rfl) fl_nle (fun h2 =>
   fl_td (s' := (16, [.int i, .int n, .int v], [.int 1], M, J)) (fl_n 2 rfl) <|
   fl_rt rfl (fun _ => rfl) (by simp [h1, h2])) (fun h2 =>
   fl_td (s' := (16, [.int i, .int n, .int v], [.int 0], M, J)) (fl_n 1 rfl) <|
   fl_rt rfl (fun _ => rfl) (by simp [h1, h2])))
def fB4 : sm_P := (fun pc => sm_ch sm_t4 pc, sm_Kn 2 3 none, fun x => sm_lk sm_ca2 x, some .int)
theorem cc_4 (M : fl_M) (J : fl_J) (r i : Int32) : fl_C 4 [.ref 0, .int r, .int i] M J (some (.int (if (r < 0) ∨ (¬ (r < 6)) then (-1) else (if (M 1 r.toNatClampNeg) = (-1) then (-3) else (if i < 0 then (-3) else (if i < (M 1 r.toNatClampNeg) then 0 else (-3)))))), (if (r < 0) ∨ (¬ (r < 6)) then M else (if (M 1 r.toNatClampNeg) = (-1) then (fl_u (fl_u M 0 11 1) 80 1 ((M 80 1) + 1)) else (if i < 0 then (fl_u (fl_u M 0 11 2) 80 2 ((M 80 2) + 1)) else (if i < (M 1 r.toNatClampNeg) then M else (fl_u (fl_u M 0 11 2) 80 2 ((M 80 2) + 1)))))), J) :=
 fl_Co (B := fB4) rfl rfl <|
 fl_td (s' := (1, [.ref 0, .int r, .int i], [.int r], M, J)) (fl_n 1 rfl) <|
 fl_td (s' := (4, [.ref 0, .int r, .int i], [.int (if (r < 0) ∨ (¬ (r < 6)) then 1 else 0)], M, J)) (fl_cs (o := some (.int (if (r < 0) ∨ (¬ (r < 6)) then 1 else 0))) rfl rfl rfl (cc_1 M J r) rfl) <|
 fl_dnot (fl_if (t := 9) rfl rfl) fl_b0 (fun h1 =>
  fl_td (s' := (8, [.ref 0, .int r, .int i], [.int (-1)], M, J)) (fl_n 1 rfl) <|
  fl_rt rfl (fun _ => rfl) (by first | (simp only [if_pos h1]; done) | rfl)) (fun h1 =>
  fl_td (s' := (16, [.ref 0, .int r, .int i], [.int (-1), .int (M 1 r.toNatClampNeg)], M, J)) (fl_n 5 rfl) <|
  fl_dnot (fl_ic (t := 25) rfl rfl) fl_cF (fun h2 =>
   fl_td (s' := (21, [.ref 0, .int r, .int i], [.int 1, .ref 0], M, J)) (fl_n 2 rfl) <|
   fl_td (s' := (24, [.ref 0, .int r, .int i], [.int (-3)], (fl_u (fl_u M 0 11 1) 80 1 ((M 80 1) + 1)), J)) (fl_cv (o := some (.int (-3))) rfl rfl rfl rfl (cc_2 M J 1) rfl) <|
   fl_rt rfl (fun _ => rfl) (by first | (simp only [if_neg h1, if_pos h2]; done) | rfl)) (fun h2 =>
   fl_td (s' := (26, [.ref 0, .int r, .int i], [.int i], M, J)) (fl_n 1 rfl) <|
   fl_dtwo (fl_if (t := 39) rfl rfl) fl_cT (fun h3 =>
    fl_td (s' := (41, [.ref 0, .int r, .int i], [.int 2, .ref 0], M, J)) (fl_n 2 rfl) <|
    fl_td (s' := (44, [.ref 0, .int r, .int i], [.int (-3)], (fl_u (fl_u M 0 11 2) 80 2 ((M 80 2) + 1)), J)) (fl_cv (o := some (.int (-3))) rfl rfl rfl rfl (cc_2 M J 2) rfl) <|
    fl_rt rfl (fun _ => rfl) (by first | (simp only [if_neg h1, if_neg h2, if_pos h3]; done) | rfl)) (fun h3 =>
    fl_td (s' := (36, [.ref 0, .int r, .int i], [.int (M 1 r.toNatClampNeg), .int i], M, J)) (fl_n 5 rfl) <|
    fl_dtwo (fl_ic (t := 45) rfl rfl) fl_cT (fun h4 =>
     fl_td (s' := (46, [.ref 0, .int r, .int i], [.int 0], M, J)) (fl_n 1 rfl) <|
     fl_rt rfl (fun _ => rfl) (by first | (simp only [if_neg h1, if_neg h2, if_neg h3, if_pos h4]; done) | rfl)) (fun h4 =>
     fl_td (s' := (41, [.ref 0, .int r, .int i], [.int 2, .ref 0], M, J)) (fl_n 2 rfl) <|
     fl_td (s' := (44, [.ref 0, .int r, .int i], [.int (-3)], (fl_u (fl_u M 0 11 2) 80 2 ((M 80 2) + 1)), J)) (fl_cv (o := some (.int (-3))) rfl rfl rfl rfl (cc_2 M J 2) rfl) <|
     fl_rt rfl (fun _ => rfl) (by first | (simp only [if_neg h1, if_neg h2, if_neg h3, if_neg h4]; done) | rfl)))))
def fB3 : sm_P := (fun pc => sm_ch sm_t3 pc, sm_Kn 2 6 none, fun x => sm_lk sm_ca2 x, some .int)
theorem cc_3 (M : fl_M) (J : fl_J) (r i v : Int32) : fl_C 3 [.ref 0, .int r, .int i, .int v] M J (some (.int (if (r < 0) ∨ (¬ (r < 6)) then (-1) else (if (M 1 r.toNatClampNeg) = (-1) then (-3) else (if i < 0 then (-3) else (if i < (M 1 r.toNatClampNeg) then 1 else (-3)))))), (if (r < 0) ∨ (¬ (r < 6)) then M else (if (M 1 r.toNatClampNeg) = (-1) then (fl_u (fl_u M 0 11 1) 80 1 ((M 80 1) + 1)) else (if i < 0 then (fl_u (fl_u M 0 11 2) 80 2 ((M 80 2) + 1)) else (if i < (M 1 r.toNatClampNeg) then (fl_u (fl_u M (fl_ar 2 r.toNatClampNeg) i.toNatClampNeg v) 0 12 (M (fl_ar 2 r.toNatClampNeg) i.toNatClampNeg)) else (fl_u (fl_u M 0 11 2) 80 2 ((M 80 2) + 1)))))), J) :=
 fl_Co (B := fB3) rfl rfl <|
 fl_td (s' := (3, [.ref 0, .int r, .int i, .int v, .null, .null], [.int i, .int r, .ref 0], M, J)) (fl_n 3 rfl) <|
 fl_dc (c := (r < 0) ∨ (¬ (r < 6))) (fun h1 =>
  fl_td (s' := (6, [.ref 0, .int r, .int i, .int v, .null, .null], [.int (-1)], M, J)) (fl_cv (o := some (.int (-1))) rfl rfl rfl rfl (fl_Ce (cc_4 M J r i) (by first | (simp only [if_pos h1]; done) | (simp only [if_pos h1]; rfl))) rfl) <|
  fl_td (s' := (15, [.ref 0, .int r, .int i, .int v, .int (-1), .null], [.int (-1)], M, J)) (fl_n 4 rfl) <|
  fl_rt rfl (fun _ => rfl) (by first | (simp only [if_pos h1]; done) | rfl)) (fun h1 =>
  fl_dc (c := (M 1 r.toNatClampNeg) = (-1)) (fun h2 =>
   fl_td (s' := (6, [.ref 0, .int r, .int i, .int v, .null, .null], [.int (-3)], (fl_u (fl_u M 0 11 1) 80 1 ((M 80 1) + 1)), J)) (fl_cv (o := some (.int (-3))) rfl rfl rfl rfl (fl_Ce (cc_4 M J r i) (by first | (simp only [if_neg h1, if_pos h2]; done) | (simp only [if_neg h1, if_pos h2]; rfl))) rfl) <|
   fl_td (s' := (15, [.ref 0, .int r, .int i, .int v, .int (-3), .null], [.int (-3)], (fl_u (fl_u M 0 11 1) 80 1 ((M 80 1) + 1)), J)) (fl_n 4 rfl) <|
   fl_rt rfl (fun _ => rfl) (by first | (simp only [if_neg h1, if_pos h2]; done) | rfl)) (fun h2 =>
   fl_dc (c := i < 0) (fun h3 =>
    fl_td (s' := (6, [.ref 0, .int r, .int i, .int v, .null, .null], [.int (-3)], (fl_u (fl_u M 0 11 2) 80 2 ((M 80 2) + 1)), J)) (fl_cv (o := some (.int (-3))) rfl rfl rfl rfl (fl_Ce (cc_4 M J r i) (by first | (simp only [if_neg h1, if_neg h2, if_pos h3]; done) | (simp only [if_neg h1, if_neg h2, if_pos h3]; rfl))) rfl) <|
    fl_td (s' := (15, [.ref 0, .int r, .int i, .int v, .int (-3), .null], [.int (-3)], (fl_u (fl_u M 0 11 2) 80 2 ((M 80 2) + 1)), J)) (fl_n 4 rfl) <|
    fl_rt rfl (fun _ => rfl) (by first | (simp only [if_neg h1, if_neg h2, if_pos h3]; done) | rfl)) (fun h3 =>
    fl_dc (c := i < (M 1 r.toNatClampNeg)) (fun h4 =>
     fl_td (s' := (6, [.ref 0, .int r, .int i, .int v, .null, .null], [.int 0], M, J)) (fl_cv (o := some (.int 0)) rfl rfl rfl rfl (fl_Ce (cc_4 M J r i) (by first | (simp only [if_neg h1, if_neg h2, if_neg h3, if_pos h4]; done) | (simp only [if_neg h1, if_neg h2, if_neg h3, if_pos h4]; rfl))) rfl) <|
     fl_td (s' := (38, [.ref 0, .int r, .int i, .int v, .int 0, .int (M (fl_ar 2 r.toNatClampNeg) i.toNatClampNeg)], [.int (M (fl_ar 2 r.toNatClampNeg) i.toNatClampNeg), .ref 0], (fl_u M (fl_ar 2 r.toNatClampNeg) i.toNatClampNeg v), J)) (fl_n 19 rfl) <|
     fl_td (s' := (41, [.ref 0, .int r, .int i, .int v, .int 0, .int (M (fl_ar 2 r.toNatClampNeg) i.toNatClampNeg)], [.int 1], (fl_u (fl_u M (fl_ar 2 r.toNatClampNeg) i.toNatClampNeg v) 0 12 (M (fl_ar 2 r.toNatClampNeg) i.toNatClampNeg)), J)) (fl_cv (o := some (.int 1)) rfl rfl rfl rfl (cc_5 (fl_u M (fl_ar 2 r.toNatClampNeg) i.toNatClampNeg v) J (M (fl_ar 2 r.toNatClampNeg) i.toNatClampNeg)) rfl) <|
     fl_rt rfl (fun _ => rfl) (by first | (simp only [if_neg h1, if_neg h2, if_neg h3, if_pos h4]; done) | rfl)) (fun h4 =>
     fl_td (s' := (6, [.ref 0, .int r, .int i, .int v, .null, .null], [.int (-3)], (fl_u (fl_u M 0 11 2) 80 2 ((M 80 2) + 1)), J)) (fl_cv (o := some (.int (-3))) rfl rfl rfl rfl (fl_Ce (cc_4 M J r i) (by first | (simp only [if_neg h1, if_neg h2, if_neg h3, if_neg h4]; done) | (simp only [if_neg h1, if_neg h2, if_neg h3, if_neg h4]; rfl))) rfl) <|
     fl_td (s' := (15, [.ref 0, .int r, .int i, .int v, .int (-3), .null], [.int (-3)], (fl_u (fl_u M 0 11 2) 80 2 ((M 80 2) + 1)), J)) (fl_n 4 rfl) <|
     fl_rt rfl (fun _ => rfl) (by first | (simp only [if_neg h1, if_neg h2, if_neg h3, if_neg h4]; done) | rfl)))))
def fB6 : sm_P := (fun pc => sm_ch sm_t6 pc, sm_Kn 2 4 none, fun x => sm_lk sm_ca2 x, some .int)
theorem cc_6 (M : fl_M) (J : fl_J) (r i : Int32) : fl_C 6 [.ref 0, .int r, .int i] M J (some (.int (if (r < 0) ∨ (¬ (r < 6)) then (-1) else (if (M 1 r.toNatClampNeg) = (-1) then (-3) else (if i < 0 then (-3) else (if i < (M 1 r.toNatClampNeg) then 1 else (-3)))))), (if (r < 0) ∨ (¬ (r < 6)) then M else (if (M 1 r.toNatClampNeg) = (-1) then (fl_u (fl_u M 0 11 1) 80 1 ((M 80 1) + 1)) else (if i < 0 then (fl_u (fl_u M 0 11 2) 80 2 ((M 80 2) + 1)) else (if i < (M 1 r.toNatClampNeg) then (fl_u M 0 12 (M (fl_ar 2 r.toNatClampNeg) i.toNatClampNeg)) else (fl_u (fl_u M 0 11 2) 80 2 ((M 80 2) + 1)))))), J) :=
 fl_Co (B := fB6) rfl rfl <|
 fl_td (s' := (3, [.ref 0, .int r, .int i, .null], [.int i, .int r, .ref 0], M, J)) (fl_n 3 rfl) <|
 fl_dc (c := (r < 0) ∨ (¬ (r < 6))) (fun h1 =>
  fl_td (s' := (6, [.ref 0, .int r, .int i, .null], [.int (-1)], M, J)) (fl_cv (o := some (.int (-1))) rfl rfl rfl rfl (fl_Ce (cc_4 M J r i) (by first | (simp only [if_pos h1]; done) | (simp only [if_pos h1]; rfl))) rfl) <|
  fl_td (s' := (12, [.ref 0, .int r, .int i, .int (-1)], [.int (-1)], M, J)) (fl_n 4 rfl) <|
  fl_rt rfl (fun _ => rfl) (by first | (simp only [if_pos h1]; done) | rfl)) (fun h1 =>
  fl_dc (c := (M 1 r.toNatClampNeg) = (-1)) (fun h2 =>
   fl_td (s' := (6, [.ref 0, .int r, .int i, .null], [.int (-3)], (fl_u (fl_u M 0 11 1) 80 1 ((M 80 1) + 1)), J)) (fl_cv (o := some (.int (-3))) rfl rfl rfl rfl (fl_Ce (cc_4 M J r i) (by first | (simp only [if_neg h1, if_pos h2]; done) | (simp only [if_neg h1, if_pos h2]; rfl))) rfl) <|
   fl_td (s' := (12, [.ref 0, .int r, .int i, .int (-3)], [.int (-3)], (fl_u (fl_u M 0 11 1) 80 1 ((M 80 1) + 1)), J)) (fl_n 4 rfl) <|
   fl_rt rfl (fun _ => rfl) (by first | (simp only [if_neg h1, if_pos h2]; done) | rfl)) (fun h2 =>
   fl_dc (c := i < 0) (fun h3 =>
    fl_td (s' := (6, [.ref 0, .int r, .int i, .null], [.int (-3)], (fl_u (fl_u M 0 11 2) 80 2 ((M 80 2) + 1)), J)) (fl_cv (o := some (.int (-3))) rfl rfl rfl rfl (fl_Ce (cc_4 M J r i) (by first | (simp only [if_neg h1, if_neg h2, if_pos h3]; done) | (simp only [if_neg h1, if_neg h2, if_pos h3]; rfl))) rfl) <|
    fl_td (s' := (12, [.ref 0, .int r, .int i, .int (-3)], [.int (-3)], (fl_u (fl_u M 0 11 2) 80 2 ((M 80 2) + 1)), J)) (fl_n 4 rfl) <|
    fl_rt rfl (fun _ => rfl) (by first | (simp only [if_neg h1, if_neg h2, if_pos h3]; done) | rfl)) (fun h3 =>
    fl_dc (c := i < (M 1 r.toNatClampNeg)) (fun h4 =>
     fl_td (s' := (6, [.ref 0, .int r, .int i, .null], [.int 0], M, J)) (fl_cv (o := some (.int 0)) rfl rfl rfl rfl (fl_Ce (cc_4 M J r i) (by first | (simp only [if_neg h1, if_neg h2, if_neg h3, if_pos h4]; done) | (simp only [if_neg h1, if_neg h2, if_neg h3, if_pos h4]; rfl))) rfl) <|
     fl_td (s' := (22, [.ref 0, .int r, .int i, .int 0], [.int (M (fl_ar 2 r.toNatClampNeg) i.toNatClampNeg), .ref 0], M, J)) (fl_n 10 rfl) <|
     fl_td (s' := (25, [.ref 0, .int r, .int i, .int 0], [.int 1], (fl_u M 0 12 (M (fl_ar 2 r.toNatClampNeg) i.toNatClampNeg)), J)) (fl_cv (o := some (.int 1)) rfl rfl rfl rfl (cc_5 M J (M (fl_ar 2 r.toNatClampNeg) i.toNatClampNeg)) rfl) <|
     fl_rt rfl (fun _ => rfl) (by first | (simp only [if_neg h1, if_neg h2, if_neg h3, if_pos h4]; done) | rfl)) (fun h4 =>
     fl_td (s' := (6, [.ref 0, .int r, .int i, .null], [.int (-3)], (fl_u (fl_u M 0 11 2) 80 2 ((M 80 2) + 1)), J)) (fl_cv (o := some (.int (-3))) rfl rfl rfl rfl (fl_Ce (cc_4 M J r i) (by first | (simp only [if_neg h1, if_neg h2, if_neg h3, if_neg h4]; done) | (simp only [if_neg h1, if_neg h2, if_neg h3, if_neg h4]; rfl))) rfl) <|
     fl_td (s' := (12, [.ref 0, .int r, .int i, .int (-3)], [.int (-3)], (fl_u (fl_u M 0 11 2) 80 2 ((M 80 2) + 1)), J)) (fl_n 4 rfl) <|
     fl_rt rfl (fun _ => rfl) (by first | (simp only [if_neg h1, if_neg h2, if_neg h3, if_neg h4]; done) | rfl)))))
def fB7 : sm_P := (fun pc => sm_ch sm_t7 pc, sm_Kn 2 2 none, fun x => sm_lk sm_ca2 x, some .int)
theorem cc_7 (M : fl_M) (J : fl_J) (r : Int32) : fl_C 7 [.ref 0, .int r] M J (some (.int (if (r < 0) ∨ (¬ (r < 6)) then (-1) else (if (M 1 r.toNatClampNeg) = (-1) then (-3) else 1))), (if (r < 0) ∨ (¬ (r < 6)) then M else (if (M 1 r.toNatClampNeg) = (-1) then (fl_u (fl_u M 0 11 1) 80 1 ((M 80 1) + 1)) else (fl_u M 1 r.toNatClampNeg (-1)))), J) :=
 fl_Co (B := fB7) rfl rfl <|
 fl_td (s' := (1, [.ref 0, .int r], [.int r], M, J)) (fl_n 1 rfl) <|
 fl_td (s' := (4, [.ref 0, .int r], [.int (if (r < 0) ∨ (¬ (r < 6)) then 1 else 0)], M, J)) (fl_cs (o := some (.int (if (r < 0) ∨ (¬ (r < 6)) then 1 else 0))) rfl rfl rfl (cc_1 M J r) rfl) <|
 fl_dnot (fl_if (t := 9) rfl rfl) fl_b0 (fun h1 =>
  fl_td (s' := (8, [.ref 0, .int r], [.int (-1)], M, J)) (fl_n 1 rfl) <|
  fl_rt rfl (fun _ => rfl) (by first | (simp only [if_pos h1]; done) | rfl)) (fun h1 =>
  fl_td (s' := (16, [.ref 0, .int r], [.int (-1), .int (M 1 r.toNatClampNeg)], M, J)) (fl_n 5 rfl) <|
  fl_dnot (fl_ic (t := 25) rfl rfl) fl_cF (fun h2 =>
   fl_td (s' := (21, [.ref 0, .int r], [.int 1, .ref 0], M, J)) (fl_n 2 rfl) <|
   fl_td (s' := (24, [.ref 0, .int r], [.int (-3)], (fl_u (fl_u M 0 11 1) 80 1 ((M 80 1) + 1)), J)) (fl_cv (o := some (.int (-3))) rfl rfl rfl rfl (cc_2 M J 1) rfl) <|
   fl_rt rfl (fun _ => rfl) (by first | (simp only [if_neg h1, if_pos h2]; done) | rfl)) (fun h2 =>
   fl_td (s' := (33, [.ref 0, .int r], [.int 1], (fl_u M 1 r.toNatClampNeg (-1)), J)) (fl_n 6 rfl) <|
   fl_rt rfl (fun _ => rfl) (by first | (simp only [if_neg h1, if_neg h2]; done) | rfl)))
def fB13 : sm_P := (fun pc => sm_ch sm_t13 pc, sm_Kn 2 5 none, fun x => sm_lk sm_ca2 x, some .int)
theorem cc_13 (M : fl_M) (J : fl_J) (t i v : Int32) : fl_C 13 [.ref 0, .int t, .int i, .int v] M J (some (.int (if (t < 0) ∨ (¬ (t < 4)) then (-1) else (if (M 9 t.toNatClampNeg) = (-1) then (-3) else (if i < 0 then (-3) else (if i < (M 9 t.toNatClampNeg) then (M (fl_ar 10 t.toNatClampNeg) i.toNatClampNeg) + 1000 else (-3)))))), (if (t < 0) ∨ (¬ (t < 4)) then M else (if (M 9 t.toNatClampNeg) = (-1) then (fl_u (fl_u M 0 11 1) 80 1 ((M 80 1) + 1)) else (if i < 0 then (fl_u (fl_u M 0 11 2) 80 2 ((M 80 2) + 1)) else (if i < (M 9 t.toNatClampNeg) then (fl_u M (fl_ar 10 t.toNatClampNeg) i.toNatClampNeg (vp_nar .byte v.toInt8.toInt32)) else (fl_u (fl_u M 0 11 2) 80 2 ((M 80 2) + 1)))))), J) :=
 fl_Co (B := fB13) rfl rfl <|
 fl_td (s' := (1, [.ref 0, .int t, .int i, .int v, .null], [.int t], M, J)) (fl_n 1 rfl) <|
 fl_td (s' := (4, [.ref 0, .int t, .int i, .int v, .null], [.int (if (t < 0) ∨ (¬ (t < 4)) then 1 else 0)], M, J)) (fl_cs (o := some (.int (if (t < 0) ∨ (¬ (t < 4)) then 1 else 0))) rfl rfl rfl (cc_12 M J t) rfl) <|
 fl_dnot (fl_if (t := 9) rfl rfl) fl_b0 (fun h1 =>
  fl_td (s' := (8, [.ref 0, .int t, .int i, .int v, .null], [.int (-1)], M, J)) (fl_n 1 rfl) <|
  fl_rt rfl (fun _ => rfl) (by first | (simp only [if_pos h1]; done) | rfl)) (fun h1 =>
  fl_td (s' := (16, [.ref 0, .int t, .int i, .int v, .null], [.int (-1), .int (M 9 t.toNatClampNeg)], M, J)) (fl_n 5 rfl) <|
  fl_dnot (fl_ic (t := 25) rfl rfl) fl_cF (fun h2 =>
   fl_td (s' := (21, [.ref 0, .int t, .int i, .int v, .null], [.int 1, .ref 0], M, J)) (fl_n 2 rfl) <|
   fl_td (s' := (24, [.ref 0, .int t, .int i, .int v, .null], [.int (-3)], (fl_u (fl_u M 0 11 1) 80 1 ((M 80 1) + 1)), J)) (fl_cv (o := some (.int (-3))) rfl rfl rfl rfl (cc_2 M J 1) rfl) <|
   fl_rt rfl (fun _ => rfl) (by first | (simp only [if_neg h1, if_pos h2]; done) | rfl)) (fun h2 =>
   fl_td (s' := (26, [.ref 0, .int t, .int i, .int v, .null], [.int i], M, J)) (fl_n 1 rfl) <|
   fl_dtwo (fl_if (t := 39) rfl rfl) fl_cT (fun h3 =>
    fl_td (s' := (41, [.ref 0, .int t, .int i, .int v, .null], [.int 2, .ref 0], M, J)) (fl_n 2 rfl) <|
    fl_td (s' := (44, [.ref 0, .int t, .int i, .int v, .null], [.int (-3)], (fl_u (fl_u M 0 11 2) 80 2 ((M 80 2) + 1)), J)) (fl_cv (o := some (.int (-3))) rfl rfl rfl rfl (cc_2 M J 2) rfl) <|
    fl_rt rfl (fun _ => rfl) (by first | (simp only [if_neg h1, if_neg h2, if_pos h3]; done) | rfl)) (fun h3 =>
    fl_td (s' := (36, [.ref 0, .int t, .int i, .int v, .null], [.int (M 9 t.toNatClampNeg), .int i], M, J)) (fl_n 5 rfl) <|
    fl_dtwo (fl_ic (t := 45) rfl rfl) fl_cT (fun h4 =>
     fl_td (s' := (71, [.ref 0, .int t, .int i, .int v, .int (M (fl_ar 10 t.toNatClampNeg) i.toNatClampNeg)], [.int ((M (fl_ar 10 t.toNatClampNeg) i.toNatClampNeg) + 1000)], (fl_u M (fl_ar 10 t.toNatClampNeg) i.toNatClampNeg (vp_nar .byte v.toInt8.toInt32)), J)) (fl_n 18 rfl) <|
     fl_rt rfl (fun _ => rfl) (by first | (simp only [if_neg h1, if_neg h2, if_neg h3, if_pos h4]; done) | rfl)) (fun h4 =>
     fl_td (s' := (41, [.ref 0, .int t, .int i, .int v, .null], [.int 2, .ref 0], M, J)) (fl_n 2 rfl) <|
     fl_td (s' := (44, [.ref 0, .int t, .int i, .int v, .null], [.int (-3)], (fl_u (fl_u M 0 11 2) 80 2 ((M 80 2) + 1)), J)) (fl_cv (o := some (.int (-3))) rfl rfl rfl rfl (cc_2 M J 2) rfl) <|
     fl_rt rfl (fun _ => rfl) (by first | (simp only [if_neg h1, if_neg h2, if_neg h3, if_neg h4]; done) | rfl)))))
def fB11 : sm_P := (fun pc => sm_ch sm_t11 pc, sm_Kn 2 4 none, fun x => sm_lk sm_ca2 x, some .int)
theorem sg_11 (M : fl_M) (J : fl_J) (t n i : Int32) : fl_go fB11 (27, [.ref 0, .int t, .int n, .int i], [], M, J) (if i < n then (27, [.ref 0, .int t, .int n, .int (i + 1)], [], (fl_u M (fl_ar 10 t.toNatClampNeg) i.toNatClampNeg (vp_nar .byte 32)), J) else (56, [.ref 0, .int t, .int n, .int i], [.int n], (fl_u M 9 t.toNatClampNeg n), J)) :=
 fl_tr (s' := (29, [.ref 0, .int t, .int n, .int i], [.int n, .int i], M, J)) (fl_n 2 rfl) <|
 fl_not (fl_ic (t := 48) rfl rfl) fl_nlt (fun h1 =>
  fl_tr (s' := (27, [.ref 0, .int t, .int n, .int (i + 1)], [], (fl_u M (fl_ar 10 t.toNatClampNeg) i.toNatClampNeg (vp_nar .byte 32)), J)) (fl_n 9 rfl) <|
  fl_rfl) (fun h1 =>
  fl_tr (s' := (56, [.ref 0, .int t, .int n, .int i], [.int n], (fl_u M 9 t.toNatClampNeg n), J)) (fl_n 6 rfl) <|
  fl_rfl)
theorem lp_11 (M : fl_M) (J : fl_J) (t n : Int32) : fl_dn fB11 (27, [.ref 0, .int t, .int n, .int 0], [], M, J) (some (.int n), fl_u (fl_f M (fl_ar 10 t.toNatClampNeg) n.toNatClampNeg 32) 9 t.toNatClampNeg n, J) := by
  have hb := fi_bd n
  refine fl_itd (S := fun m => (27, [.ref 0, .int t, .int n, .int (Int32.ofNat m)], [], fl_f M (fl_ar 10 t.toNatClampNeg) m 32, J)) n.toNatClampNeg (fun m hm => ?_) ?_ ?_
  · refine fl_ge (sg_11 _ J t n (Int32.ofNat m)) ?_
    rw [if_pos ((fi_lt (by omega)).mpr hm), fi_at (by omega), fi_s, show vp_nar .byte 32 = 32 from rfl, fl_fs]
  · rw [fl_f0]
    rfl
  · refine fl_td (sg_11 _ J t n _) ?_
    rw [if_neg (fun z => absurd ((fi_lt (by omega)).mp z) (by omega))]
    exact fl_rt rfl (fun _ => rfl) rfl
theorem cc_11 (M : fl_M) (J : fl_J) (t n : Int32) : fl_C 11 [.ref 0, .int t, .int n] M J (some (.int (if (t < 0) ∨ (¬ (t < 4)) then (-1) else (if 60 < n then (-1) else (if n < 0 then (-3) else n)))), (if (t < 0) ∨ (¬ (t < 4)) then M else (if 60 < n then M else (if n < 0 then (fl_u (fl_u M 0 11 5) 80 5 ((M 80 5) + 1)) else (fl_u (fl_f M (fl_ar 10 t.toNatClampNeg) n.toNatClampNeg 32) 9 t.toNatClampNeg n)))), J) :=
 fl_Co (B := fB11) rfl rfl <|
 fl_td (s' := (1, [.ref 0, .int t, .int n, .null], [.int t], M, J)) (fl_n 1 rfl) <|
 fl_td (s' := (4, [.ref 0, .int t, .int n, .null], [.int (if (t < 0) ∨ (¬ (t < 4)) then 1 else 0)], M, J)) (fl_cs (o := some (.int (if (t < 0) ∨ (¬ (t < 4)) then 1 else 0))) rfl rfl rfl (cc_12 M J t) rfl) <|
 fl_dtwo (fl_if (t := 13) rfl rfl) fl_b1 (fun h1 =>
  fl_td (s' := (14, [.ref 0, .int t, .int n, .null], [.int (-1)], M, J)) (fl_n 1 rfl) <|
  fl_rt rfl (fun _ => rfl) (by first | (simp only [if_pos h1]; done) | rfl)) (fun h1 =>
  fl_td (s' := (10, [.ref 0, .int t, .int n, .null], [.int 60, .int n], M, J)) (fl_n 2 rfl) <|
  fl_dnot (fl_ic (t := 15) rfl rfl) fl_nle (fun h2 =>
   fl_td (s' := (14, [.ref 0, .int t, .int n, .null], [.int (-1)], M, J)) (fl_n 1 rfl) <|
   fl_rt rfl (fun _ => rfl) (by first | (simp only [if_neg h1, if_pos h2]; done) | rfl)) (fun h2 =>
   fl_td (s' := (16, [.ref 0, .int t, .int n, .null], [.int n], M, J)) (fl_n 1 rfl) <|
   fl_dnot (fl_if (t := 25) rfl rfl) fl_nlt (fun h3 =>
    fl_td (s' := (21, [.ref 0, .int t, .int n, .null], [.int 5, .ref 0], M, J)) (fl_n 2 rfl) <|
    fl_td (s' := (24, [.ref 0, .int t, .int n, .null], [.int (-3)], (fl_u (fl_u M 0 11 5) 80 5 ((M 80 5) + 1)), J)) (fl_cv (o := some (.int (-3))) rfl rfl rfl rfl (cc_2 M J 5) rfl) <|
    fl_rt rfl (fun _ => rfl) (by first | (simp only [if_neg h1, if_neg h2, if_pos h3]; done) | rfl)) (fun h3 =>
    fl_td (s' := (27, [.ref 0, .int t, .int n, .int 0], [], M, J)) (fl_n 2 rfl) <|
    fl_de (lp_11 M J t n) (by first | (simp only [if_neg h1, if_neg h2, if_neg h3]; done) | rfl))))
def fB105 : sm_P := (fun pc => sm_ch sm_t105 pc, sm_Kn 3 6 none, fun x => sm_lk sm_ca3 x, some .boolean)
theorem cc_105 (M : fl_M) (J : fl_J) (x a b : Int64) : fl_C 105 [.long x, .long a, .long b] M J (some (.int (if (¬ (x < a)) ∧ (¬ (b < x)) then 1 else 0)), M, J) :=
 fl_Co (B := fB105) rfl rfl <|
 fl_td (s' := (3, [.long x, .null, .long a, .null, .long b, .null], [.int (lg_cmp x a)], M, J)) (fl_n 3 rfl) <|
 fl_dtwo (fl_if (t := 17) rfl rfl) fl_llt (fun h1 =>
  fl_td (s' := (18, [.long x, .null, .long a, .null, .long b, .null], [.int 0], M, J)) (fl_n 1 rfl) <|
  fl_rt rfl (fun _ => rfl) (by simp [h1])) (fun h1 =>
  fl_td (s' := (10, [.long x, .null, .long a, .null, .long b, .null], [.int (lg_cmp x b)], M, J)) (fl_n 3 rfl) <|
  fl_dtwo (fl_if (t := 17) rfl rfl) fl_lgt (fun h2 =>
   fl_td (s' := (18, [.long x, .null, .long a, .null, .long b, .null], [.int 0], M, J)) (fl_n 1 rfl) <|
   fl_rt rfl (fun _ => rfl) (by simp [h1, h2])) (fun h2 =>
   fl_td (s' := (18, [.long x, .null, .long a, .null, .long b, .null], [.int 1], M, J)) (fl_n 2 rfl) <|
   fl_rt rfl (fun _ => rfl) (by simp [h1, h2])))
theorem cc_105i (M : fl_M) (J : fl_J) (x a b : Int32) : fl_C 105 [.long x.toInt64, .long a.toInt64, .long b.toInt64] M J (some (.int (if (¬ (x < a)) ∧ (¬ (b < x)) then 1 else 0)), M, J) := by
  have h := cc_105 M J x.toInt64 a.toInt64 b.toInt64
  simp only [fl_64lt] at h
  exact h
def fB104 : sm_P := (fun pc => sm_ch sm_t104 pc, sm_Kn 3 1 none, fun x => sm_lk sm_ca3 x, some .boolean)
theorem cc_104 (M : fl_M) (J : fl_J) (r : Int32) : fl_C 104 [.int r] M J (some (.int (if (¬ (r < 0)) ∧ (¬ (5 < r)) then 1 else 0)), M, J) :=
 fl_Co (B := fB104) rfl rfl <|
 fl_td (s' := (6, [.int r], [.long 5, .long 0, .long r.toInt64], M, J)) (fl_n 4 rfl) <|
 fl_td (s' := (9, [.int r], [.int (if (¬ (r < 0)) ∧ (¬ (5 < r)) then 1 else 0)], M, J)) (fl_cs (o := some (.int (if (¬ (r < 0)) ∧ (¬ (5 < r)) then 1 else 0))) rfl rfl rfl (cc_105i M J r 0 5) rfl) <|
 fl_rt rfl (fun _ => rfl) (rfl)
def fB117 : sm_P := (fun pc => sm_ch sm_t117 pc, sm_Kn 3 1 none, fun x => sm_lk sm_ca3 x, some .boolean)
theorem cc_117 (M : fl_M) (J : fl_J) (t : Int32) : fl_C 117 [.int t] M J (some (.int (if (¬ (t < 0)) ∧ (¬ (3 < t)) then 1 else 0)), M, J) :=
 fl_Co (B := fB117) rfl rfl <|
 fl_td (s' := (6, [.int t], [.long 3, .long 0, .long t.toInt64], M, J)) (fl_n 4 rfl) <|
 fl_td (s' := (9, [.int t], [.int (if (¬ (t < 0)) ∧ (¬ (3 < t)) then 1 else 0)], M, J)) (fl_cs (o := some (.int (if (¬ (t < 0)) ∧ (¬ (3 < t)) then 1 else 0))) rfl rfl rfl (cc_105i M J t 0 3) rfl) <|
 fl_rt rfl (fun _ => rfl) (rfl)
def fB110 : sm_P := (fun pc => sm_ch sm_t110 pc, sm_Kn 3 2 none, fun x => sm_lk sm_ca3 x, some .int)
theorem cc_110 (M : fl_M) (J : fl_J) (v : Int32) : fl_C 110 [.ref 81, .int v] M J (some (.int 1), (fl_u M 81 11 v), J) :=
 fl_Co (B := fB110) rfl rfl <|
 fl_td (s' := (6, [.ref 81, .int v], [.int 1], (fl_u M 81 11 v), J)) (fl_n 4 rfl) <|
 fl_rt rfl (fun _ => rfl) (rfl)
def fB106 : sm_P := (fun pc => sm_ch sm_t106 pc, sm_Kn 3 2 none, fun x => sm_lk sm_ca3 x, some .int)
theorem cc_106 (M : fl_M) (J : fl_J) (v : Int32) : fl_C 106 [.ref 81, .int v] M J (some (.int (-3)), (fl_u (fl_u M 81 14 v) 91 v.toNatClampNeg ((M 91 v.toNatClampNeg) + 1)), J) :=
 fl_Co (B := fB106) rfl rfl <|
 fl_td (s' := (17, [.ref 81, .int v], [.int (-3)], (fl_u (fl_u M 81 14 v) 91 v.toNatClampNeg ((M 91 v.toNatClampNeg) + 1)), J)) (fl_n 12 rfl) <|
 fl_rt rfl (fun _ => rfl) (rfl)
def fB109 : sm_P := (fun pc => sm_ch sm_t109 pc, sm_Kn 3 3 none, fun x => sm_lk sm_ca3 x, some .int)
theorem cc_109 (M : fl_M) (J : fl_J) (r i : Int32) : fl_C 109 [.ref 81, .int r, .int i] M J (some (.int (if (¬ (r < 0)) ∧ (¬ (5 < r)) then (if (M 87 r.toNatClampNeg) < 0 then (-3) else (if (¬ (i < 0)) ∧ (¬ ((M 87 r.toNatClampNeg) - 1 < i)) then 0 else (-3))) else (-1))), (if (¬ (r < 0)) ∧ (¬ (5 < r)) then (if (M 87 r.toNatClampNeg) < 0 then (fl_u (fl_u M 81 14 1) 91 1 ((M 91 1) + 1)) else (if (¬ (i < 0)) ∧ (¬ ((M 87 r.toNatClampNeg) - 1 < i)) then M else (fl_u (fl_u M 81 14 2) 91 2 ((M 91 2) + 1)))) else M), J) :=
 fl_Co (B := fB109) rfl rfl <|
 fl_td (s' := (1, [.ref 81, .int r, .int i], [.int r], M, J)) (fl_n 1 rfl) <|
 fl_td (s' := (4, [.ref 81, .int r, .int i], [.int (if (¬ (r < 0)) ∧ (¬ (5 < r)) then 1 else 0)], M, J)) (fl_cs (o := some (.int (if (¬ (r < 0)) ∧ (¬ (5 < r)) then 1 else 0))) rfl rfl rfl (cc_104 M J r) rfl) <|
 fl_dtwo (fl_if (t := 11) rfl rfl) fl_b1 (fun h1 =>
  fl_td (s' := (17, [.ref 81, .int r, .int i], [.int (M 87 r.toNatClampNeg)], M, J)) (fl_n 4 rfl) <|
  fl_dnot (fl_if (t := 28) rfl rfl) fl_nlt (fun h2 =>
   fl_td (s' := (22, [.ref 81, .int r, .int i], [.int 1, .ref 81], M, J)) (fl_n 2 rfl) <|
   fl_td (s' := (25, [.ref 81, .int r, .int i], [.int (-3)], (fl_u (fl_u M 81 14 1) 91 1 ((M 91 1) + 1)), J)) (fl_cv (o := some (.int (-3))) rfl rfl rfl rfl (cc_106 M J 1) rfl) <|
   fl_td (s' := (55, [.ref 81, .int r, .int i], [.int (-3)], (fl_u (fl_u M 81 14 1) 91 1 ((M 91 1) + 1)), J)) (fl_n 1 rfl) <|
   fl_rt rfl (fun _ => rfl) (by first | (simp only [if_pos h1, if_pos h2]; done) | rfl)) (fun h2 =>
   fl_td (s' := (40, [.ref 81, .int r, .int i], [.long (((M 87 r.toNatClampNeg) - 1).toInt64), .long 0, .long i.toInt64], M, J)) (fl_n 10 rfl) <|
   fl_td (s' := (43, [.ref 81, .int r, .int i], [.int (if (¬ (i < 0)) ∧ (¬ ((M 87 r.toNatClampNeg) - 1 < i)) then 1 else 0)], M, J)) (fl_cs (o := some (.int (if (¬ (i < 0)) ∧ (¬ ((M 87 r.toNatClampNeg) - 1 < i)) then 1 else 0))) rfl rfl rfl (cc_105i M J i 0 ((M 87 r.toNatClampNeg) - 1)) rfl) <|
   fl_dnot (fl_if (t := 50) rfl rfl) fl_b0 (fun h3 =>
    fl_td (s' := (55, [.ref 81, .int r, .int i], [.int 0], M, J)) (fl_n 2 rfl) <|
    fl_rt rfl (fun _ => rfl) (by first | (simp only [if_pos h1, if_neg h2, if_pos h3]; done) | rfl)) (fun h3 =>
    fl_td (s' := (52, [.ref 81, .int r, .int i], [.int 2, .ref 81], M, J)) (fl_n 2 rfl) <|
    fl_td (s' := (55, [.ref 81, .int r, .int i], [.int (-3)], (fl_u (fl_u M 81 14 2) 91 2 ((M 91 2) + 1)), J)) (fl_cv (o := some (.int (-3))) rfl rfl rfl rfl (cc_106 M J 2) rfl) <|
    fl_rt rfl (fun _ => rfl) (by first | (simp only [if_pos h1, if_neg h2, if_neg h3]; done) | rfl)))) (fun h1 =>
  fl_td (s' := (55, [.ref 81, .int r, .int i], [.int (-1)], M, J)) (fl_n 2 rfl) <|
  fl_rt rfl (fun _ => rfl) (by first | (simp only [if_neg h1]; done) | rfl))
def fB108 : sm_P := (fun pc => sm_ch sm_t108 pc, sm_Kn 3 6 none, fun x => sm_lk sm_ca3 x, some .int)
theorem cc_108 (M : fl_M) (J : fl_J) (r i v : Int32) : fl_C 108 [.ref 81, .int r, .int i, .int v] M J (some (.int (if (¬ (r < 0)) ∧ (¬ (5 < r)) then (if (M 87 r.toNatClampNeg) < 0 then (-3) else (if (¬ (i < 0)) ∧ (¬ ((M 87 r.toNatClampNeg) - 1 < i)) then 1 else (-3))) else (-1))), (if (¬ (r < 0)) ∧ (¬ (5 < r)) then (if (M 87 r.toNatClampNeg) < 0 then (fl_u (fl_u M 81 14 1) 91 1 ((M 91 1) + 1)) else (if (¬ (i < 0)) ∧ (¬ ((M 87 r.toNatClampNeg) - 1 < i)) then (fl_u (fl_u M 88 (((40 * r) + i).toNatClampNeg) v) 81 11 (M 88 (((40 * r) + i).toNatClampNeg))) else (fl_u (fl_u M 81 14 2) 91 2 ((M 91 2) + 1)))) else M), J) :=
 fl_Co (B := fB108) rfl rfl <|
 fl_td (s' := (3, [.ref 81, .int r, .int i, .int v, .null, .null], [.int i, .int r, .ref 81], M, J)) (fl_n 3 rfl) <|
 fl_dc (c := (¬ (r < 0)) ∧ (¬ (5 < r))) (fun h1 =>
  fl_dc (c := (M 87 r.toNatClampNeg) < 0) (fun h2 =>
   fl_td (s' := (6, [.ref 81, .int r, .int i, .int v, .null, .null], [.int (-3)], (fl_u (fl_u M 81 14 1) 91 1 ((M 91 1) + 1)), J)) (fl_cv (o := some (.int (-3))) rfl rfl rfl rfl (fl_Ce (cc_109 M J r i) (by first | (simp only [if_pos h1, if_pos h2]; done) | (simp only [if_pos h1, if_pos h2]; rfl))) rfl) <|
   fl_td (s' := (15, [.ref 81, .int r, .int i, .int v, .int (-3), .null], [.int (-3)], (fl_u (fl_u M 81 14 1) 91 1 ((M 91 1) + 1)), J)) (fl_n 4 rfl) <|
   fl_rt rfl (fun _ => rfl) (by first | (simp only [if_pos h1, if_pos h2]; done) | rfl)) (fun h2 =>
   fl_dc (c := (¬ (i < 0)) ∧ (¬ ((M 87 r.toNatClampNeg) - 1 < i))) (fun h3 =>
    fl_td (s' := (6, [.ref 81, .int r, .int i, .int v, .null, .null], [.int 0], M, J)) (fl_cv (o := some (.int 0)) rfl rfl rfl rfl (fl_Ce (cc_109 M J r i) (by first | (simp only [if_pos h1, if_neg h2, if_pos h3]; done) | (simp only [if_pos h1, if_neg h2, if_pos h3]; rfl))) rfl) <|
    fl_td (s' := (44, [.ref 81, .int r, .int i, .int v, .int 0, .int (M 88 (((40 * r) + i).toNatClampNeg))], [.int (M 88 (((40 * r) + i).toNatClampNeg)), .ref 81], (fl_u M 88 (((40 * r) + i).toNatClampNeg) v), J)) (fl_n 23 rfl) <|
    fl_td (s' := (47, [.ref 81, .int r, .int i, .int v, .int 0, .int (M 88 (((40 * r) + i).toNatClampNeg))], [.int 1], (fl_u (fl_u M 88 (((40 * r) + i).toNatClampNeg) v) 81 11 (M 88 (((40 * r) + i).toNatClampNeg))), J)) (fl_cv (o := some (.int 1)) rfl rfl rfl rfl (cc_110 (fl_u M 88 (((40 * r) + i).toNatClampNeg) v) J (M 88 (((40 * r) + i).toNatClampNeg))) rfl) <|
    fl_rt rfl (fun _ => rfl) (by first | (simp only [if_pos h1, if_neg h2, if_pos h3]; done) | rfl)) (fun h3 =>
    fl_td (s' := (6, [.ref 81, .int r, .int i, .int v, .null, .null], [.int (-3)], (fl_u (fl_u M 81 14 2) 91 2 ((M 91 2) + 1)), J)) (fl_cv (o := some (.int (-3))) rfl rfl rfl rfl (fl_Ce (cc_109 M J r i) (by first | (simp only [if_pos h1, if_neg h2, if_neg h3]; done) | (simp only [if_pos h1, if_neg h2, if_neg h3]; rfl))) rfl) <|
    fl_td (s' := (15, [.ref 81, .int r, .int i, .int v, .int (-3), .null], [.int (-3)], (fl_u (fl_u M 81 14 2) 91 2 ((M 91 2) + 1)), J)) (fl_n 4 rfl) <|
    fl_rt rfl (fun _ => rfl) (by first | (simp only [if_pos h1, if_neg h2, if_neg h3]; done) | rfl)))) (fun h1 =>
  fl_td (s' := (6, [.ref 81, .int r, .int i, .int v, .null, .null], [.int (-1)], M, J)) (fl_cv (o := some (.int (-1))) rfl rfl rfl rfl (fl_Ce (cc_109 M J r i) (by first | (simp only [if_neg h1]; done) | (simp only [if_neg h1]; rfl))) rfl) <|
  fl_td (s' := (15, [.ref 81, .int r, .int i, .int v, .int (-1), .null], [.int (-1)], M, J)) (fl_n 4 rfl) <|
  fl_rt rfl (fun _ => rfl) (by first | (simp only [if_neg h1]; done) | rfl))
def fB111 : sm_P := (fun pc => sm_ch sm_t111 pc, sm_Kn 3 4 none, fun x => sm_lk sm_ca3 x, some .int)
theorem cc_111 (M : fl_M) (J : fl_J) (r i : Int32) : fl_C 111 [.ref 81, .int r, .int i] M J (some (.int (if (¬ (r < 0)) ∧ (¬ (5 < r)) then (if (M 87 r.toNatClampNeg) < 0 then (-3) else (if (¬ (i < 0)) ∧ (¬ ((M 87 r.toNatClampNeg) - 1 < i)) then 1 else (-3))) else (-1))), (if (¬ (r < 0)) ∧ (¬ (5 < r)) then (if (M 87 r.toNatClampNeg) < 0 then (fl_u (fl_u M 81 14 1) 91 1 ((M 91 1) + 1)) else (if (¬ (i < 0)) ∧ (¬ ((M 87 r.toNatClampNeg) - 1 < i)) then (fl_u M 81 11 (M 88 (((40 * r) + i).toNatClampNeg))) else (fl_u (fl_u M 81 14 2) 91 2 ((M 91 2) + 1)))) else M), J) :=
 fl_Co (B := fB111) rfl rfl <|
 fl_td (s' := (3, [.ref 81, .int r, .int i, .null], [.int i, .int r, .ref 81], M, J)) (fl_n 3 rfl) <|
 fl_dc (c := (¬ (r < 0)) ∧ (¬ (5 < r))) (fun h1 =>
  fl_dc (c := (M 87 r.toNatClampNeg) < 0) (fun h2 =>
   fl_td (s' := (6, [.ref 81, .int r, .int i, .null], [.int (-3)], (fl_u (fl_u M 81 14 1) 91 1 ((M 91 1) + 1)), J)) (fl_cv (o := some (.int (-3))) rfl rfl rfl rfl (fl_Ce (cc_109 M J r i) (by first | (simp only [if_pos h1, if_pos h2]; done) | (simp only [if_pos h1, if_pos h2]; rfl))) rfl) <|
   fl_td (s' := (30, [.ref 81, .int r, .int i, .int (-3)], [.int (-3)], (fl_u (fl_u M 81 14 1) 91 1 ((M 91 1) + 1)), J)) (fl_n 5 rfl) <|
   fl_rt rfl (fun _ => rfl) (by first | (simp only [if_pos h1, if_pos h2]; done) | rfl)) (fun h2 =>
   fl_dc (c := (¬ (i < 0)) ∧ (¬ ((M 87 r.toNatClampNeg) - 1 < i))) (fun h3 =>
    fl_td (s' := (6, [.ref 81, .int r, .int i, .null], [.int 0], M, J)) (fl_cv (o := some (.int 0)) rfl rfl rfl rfl (fl_Ce (cc_109 M J r i) (by first | (simp only [if_pos h1, if_neg h2, if_pos h3]; done) | (simp only [if_pos h1, if_neg h2, if_pos h3]; rfl))) rfl) <|
    fl_td (s' := (27, [.ref 81, .int r, .int i, .int 0], [.int (M 88 (((40 * r) + i).toNatClampNeg)), .ref 81], M, J)) (fl_n 12 rfl) <|
    fl_td (s' := (30, [.ref 81, .int r, .int i, .int 0], [.int 1], (fl_u M 81 11 (M 88 (((40 * r) + i).toNatClampNeg))), J)) (fl_cv (o := some (.int 1)) rfl rfl rfl rfl (cc_110 M J (M 88 (((40 * r) + i).toNatClampNeg))) rfl) <|
    fl_rt rfl (fun _ => rfl) (by first | (simp only [if_pos h1, if_neg h2, if_pos h3]; done) | rfl)) (fun h3 =>
    fl_td (s' := (6, [.ref 81, .int r, .int i, .null], [.int (-3)], (fl_u (fl_u M 81 14 2) 91 2 ((M 91 2) + 1)), J)) (fl_cv (o := some (.int (-3))) rfl rfl rfl rfl (fl_Ce (cc_109 M J r i) (by first | (simp only [if_pos h1, if_neg h2, if_neg h3]; done) | (simp only [if_pos h1, if_neg h2, if_neg h3]; rfl))) rfl) <|
    fl_td (s' := (30, [.ref 81, .int r, .int i, .int (-3)], [.int (-3)], (fl_u (fl_u M 81 14 2) 91 2 ((M 91 2) + 1)), J)) (fl_n 5 rfl) <|
    fl_rt rfl (fun _ => rfl) (by first | (simp only [if_pos h1, if_neg h2, if_neg h3]; done) | rfl)))) (fun h1 =>
  fl_td (s' := (6, [.ref 81, .int r, .int i, .null], [.int (-1)], M, J)) (fl_cv (o := some (.int (-1))) rfl rfl rfl rfl (fl_Ce (cc_109 M J r i) (by first | (simp only [if_neg h1]; done) | (simp only [if_neg h1]; rfl))) rfl) <|
  fl_td (s' := (30, [.ref 81, .int r, .int i, .int (-1)], [.int (-1)], M, J)) (fl_n 5 rfl) <|
  fl_rt rfl (fun _ => rfl) (by first | (simp only [if_neg h1]; done) | rfl))
def fB112 : sm_P := (fun pc => sm_ch sm_t112 pc, sm_Kn 3 2 none, fun x => sm_lk sm_ca3 x, some .int)
theorem cc_112 (M : fl_M) (J : fl_J) (r : Int32) : fl_C 112 [.ref 81, .int r] M J (some (.int (if (¬ (r < 0)) ∧ (¬ (5 < r)) then (if (M 87 r.toNatClampNeg) < 0 then (-3) else 1) else (-1))), (if (¬ (r < 0)) ∧ (¬ (5 < r)) then (if (M 87 r.toNatClampNeg) < 0 then (fl_u (fl_u M 81 14 1) 91 1 ((M 91 1) + 1)) else (fl_u M 87 r.toNatClampNeg (-1))) else M), J) :=
 fl_Co (B := fB112) rfl rfl <|
 fl_td (s' := (1, [.ref 81, .int r], [.int r], M, J)) (fl_n 1 rfl) <|
 fl_td (s' := (4, [.ref 81, .int r], [.int (if (¬ (r < 0)) ∧ (¬ (5 < r)) then 1 else 0)], M, J)) (fl_cs (o := some (.int (if (¬ (r < 0)) ∧ (¬ (5 < r)) then 1 else 0))) rfl rfl rfl (cc_104 M J r) rfl) <|
 fl_dtwo (fl_if (t := 9) rfl rfl) fl_b1 (fun h1 =>
  fl_td (s' := (15, [.ref 81, .int r], [.int (M 87 r.toNatClampNeg)], M, J)) (fl_n 4 rfl) <|
  fl_dnot (fl_if (t := 24) rfl rfl) fl_nlt (fun h2 =>
   fl_td (s' := (20, [.ref 81, .int r], [.int 1, .ref 81], M, J)) (fl_n 2 rfl) <|
   fl_td (s' := (23, [.ref 81, .int r], [.int (-3)], (fl_u (fl_u M 81 14 1) 91 1 ((M 91 1) + 1)), J)) (fl_cv (o := some (.int (-3))) rfl rfl rfl rfl (cc_106 M J 1) rfl) <|
   fl_rt rfl (fun _ => rfl) (by first | (simp only [if_pos h1, if_pos h2]; done) | rfl)) (fun h2 =>
   fl_td (s' := (32, [.ref 81, .int r], [.int 1], (fl_u M 87 r.toNatClampNeg (-1)), J)) (fl_n 6 rfl) <|
   fl_rt rfl (fun _ => rfl) (by first | (simp only [if_pos h1, if_neg h2]; done) | rfl))) (fun h1 =>
  fl_td (s' := (8, [.ref 81, .int r], [.int (-1)], M, J)) (fl_n 1 rfl) <|
  fl_rt rfl (fun _ => rfl) (by first | (simp only [if_neg h1]; done) | rfl))
def fB118 : sm_P := (fun pc => sm_ch sm_t118 pc, sm_Kn 3 5 none, fun x => sm_lk sm_ca3 x, some .int)
theorem cc_118 (M : fl_M) (J : fl_J) (t i v : Int32) : fl_C 118 [.ref 81, .int t, .int i, .int v] M J (some (.int (if (¬ (t < 0)) ∧ (¬ (3 < t)) then (if (M 89 t.toNatClampNeg) < 0 then (-3) else (if (¬ (i < 0)) ∧ (¬ ((M 89 t.toNatClampNeg) - 1 < i)) then (M 90 (((60 * t) + i).toNatClampNeg)) + 1000 else (-3))) else (-1))), (if (¬ (t < 0)) ∧ (¬ (3 < t)) then (if (M 89 t.toNatClampNeg) < 0 then (fl_u (fl_u M 81 14 1) 91 1 ((M 91 1) + 1)) else (if (¬ (i < 0)) ∧ (¬ ((M 89 t.toNatClampNeg) - 1 < i)) then (fl_u M 90 (((60 * t) + i).toNatClampNeg) v.toInt8.toInt32) else (fl_u (fl_u M 81 14 2) 91 2 ((M 91 2) + 1)))) else M), J) :=
 fl_Co (B := fB118) rfl rfl <|
 fl_td (s' := (1, [.ref 81, .int t, .int i, .int v, .null], [.int t], M, J)) (fl_n 1 rfl) <|
 fl_td (s' := (4, [.ref 81, .int t, .int i, .int v, .null], [.int (if (¬ (t < 0)) ∧ (¬ (3 < t)) then 1 else 0)], M, J)) (fl_cs (o := some (.int (if (¬ (t < 0)) ∧ (¬ (3 < t)) then 1 else 0))) rfl rfl rfl (cc_117 M J t) rfl) <|
 fl_dtwo (fl_if (t := 9) rfl rfl) fl_b1 (fun h1 =>
  fl_td (s' := (15, [.ref 81, .int t, .int i, .int v, .null], [.int (M 89 t.toNatClampNeg)], M, J)) (fl_n 4 rfl) <|
  fl_dnot (fl_if (t := 24) rfl rfl) fl_nlt (fun h2 =>
   fl_td (s' := (20, [.ref 81, .int t, .int i, .int v, .null], [.int 1, .ref 81], M, J)) (fl_n 2 rfl) <|
   fl_td (s' := (23, [.ref 81, .int t, .int i, .int v, .null], [.int (-3)], (fl_u (fl_u M 81 14 1) 91 1 ((M 91 1) + 1)), J)) (fl_cv (o := some (.int (-3))) rfl rfl rfl rfl (cc_106 M J 1) rfl) <|
   fl_rt rfl (fun _ => rfl) (by first | (simp only [if_pos h1, if_pos h2]; done) | rfl)) (fun h2 =>
   fl_td (s' := (36, [.ref 81, .int t, .int i, .int v, .null], [.long (((M 89 t.toNatClampNeg) - 1).toInt64), .long 0, .long i.toInt64], M, J)) (fl_n 10 rfl) <|
   fl_td (s' := (39, [.ref 81, .int t, .int i, .int v, .null], [.int (if (¬ (i < 0)) ∧ (¬ ((M 89 t.toNatClampNeg) - 1 < i)) then 1 else 0)], M, J)) (fl_cs (o := some (.int (if (¬ (i < 0)) ∧ (¬ ((M 89 t.toNatClampNeg) - 1 < i)) then 1 else 0))) rfl rfl rfl (cc_105i M J i 0 ((M 89 t.toNatClampNeg) - 1)) rfl) <|
   fl_dtwo (fl_if (t := 48) rfl rfl) fl_b1 (fun h3 =>
    fl_td (s' := (80, [.ref 81, .int t, .int i, .int v, .int (M 90 (((60 * t) + i).toNatClampNeg))], [.int ((M 90 (((60 * t) + i).toNatClampNeg)) + 1000)], (fl_u M 90 (((60 * t) + i).toNatClampNeg) v.toInt8.toInt32), J)) (fl_n 22 rfl) <|
    fl_rt rfl (fun _ => rfl) (by first | (simp only [if_pos h1, if_neg h2, if_pos h3]; done) | rfl)) (fun h3 =>
    fl_td (s' := (44, [.ref 81, .int t, .int i, .int v, .null], [.int 2, .ref 81], M, J)) (fl_n 2 rfl) <|
    fl_td (s' := (47, [.ref 81, .int t, .int i, .int v, .null], [.int (-3)], (fl_u (fl_u M 81 14 2) 91 2 ((M 91 2) + 1)), J)) (fl_cv (o := some (.int (-3))) rfl rfl rfl rfl (cc_106 M J 2) rfl) <|
    fl_rt rfl (fun _ => rfl) (by first | (simp only [if_pos h1, if_neg h2, if_neg h3]; done) | rfl)))) (fun h1 =>
  fl_td (s' := (8, [.ref 81, .int t, .int i, .int v, .null], [.int (-1)], M, J)) (fl_n 1 rfl) <|
  fl_rt rfl (fun _ => rfl) (by first | (simp only [if_neg h1]; done) | rfl))
def fB0 : sm_P := (fun pc => sm_ch sm_t0 pc, sm_Kn 2 4 none, fun x => sm_lk sm_ca2 x, some .int)
theorem sg_0 (M : fl_M) (J : fl_J) (r n i : Int32) : fl_go fB0 (27, [.ref 0, .int r, .int n, .int i], [], M, J) (if i < n then (27, [.ref 0, .int r, .int n, .int (i + 1)], [], (fl_u M (fl_ar 2 r.toNatClampNeg) i.toNatClampNeg 0), J) else (55, [.ref 0, .int r, .int n, .int i], [.int n], (fl_u M 1 r.toNatClampNeg n), J)) :=
 fl_tr (s' := (29, [.ref 0, .int r, .int n, .int i], [.int n, .int i], M, J)) (fl_n 2 rfl) <|
 fl_not (fl_ic (t := 47) rfl rfl) fl_nlt (fun h1 =>
  fl_tr (s' := (27, [.ref 0, .int r, .int n, .int (i + 1)], [], (fl_u M (fl_ar 2 r.toNatClampNeg) i.toNatClampNeg 0), J)) (fl_n 9 rfl) <|
  fl_rfl) (fun h1 =>
  fl_tr (s' := (55, [.ref 0, .int r, .int n, .int i], [.int n], (fl_u M 1 r.toNatClampNeg n), J)) (fl_n 6 rfl) <|
  fl_rfl)
theorem lp_0 (M : fl_M) (J : fl_J) (r n : Int32) : fl_dn fB0 (27, [.ref 0, .int r, .int n, .int 0], [], M, J) (some (.int n), fl_u (fl_f M (fl_ar 2 r.toNatClampNeg) n.toNatClampNeg 0) 1 r.toNatClampNeg n, J) := by
  have hb := fi_bd n
  refine fl_itd (S := fun m => (27, [.ref 0, .int r, .int n, .int (Int32.ofNat m)], [], fl_f M (fl_ar 2 r.toNatClampNeg) m 0, J)) n.toNatClampNeg (fun m hm => ?_) ?_ ?_
  · refine fl_ge (sg_0 _ J r n (Int32.ofNat m)) ?_
    rw [if_pos ((fi_lt (by omega)).mpr hm), fi_at (by omega), fi_s, fl_fs]
  · rw [fl_f0]
    rfl
  · refine fl_td (sg_0 _ J r n _) ?_
    rw [if_neg (fun z => absurd ((fi_lt (by omega)).mp z) (by omega))]
    exact fl_rt rfl (fun _ => rfl) rfl
theorem cc_0 (M : fl_M) (J : fl_J) (r n : Int32) : fl_C 0 [.ref 0, .int r, .int n] M J (some (.int (if (r < 0) ∨ (¬ (r < 6)) then (-1) else (if 40 < n then (-1) else (if n < 0 then (-3) else n)))), (if (r < 0) ∨ (¬ (r < 6)) then M else (if 40 < n then M else (if n < 0 then (fl_u (fl_u M 0 11 5) 80 5 ((M 80 5) + 1)) else (fl_u (fl_f M (fl_ar 2 r.toNatClampNeg) n.toNatClampNeg 0) 1 r.toNatClampNeg n)))), J) :=
 fl_Co (B := fB0) rfl rfl <|
 fl_td (s' := (1, [.ref 0, .int r, .int n, .null], [.int r], M, J)) (fl_n 1 rfl) <|
 fl_td (s' := (4, [.ref 0, .int r, .int n, .null], [.int (if (r < 0) ∨ (¬ (r < 6)) then 1 else 0)], M, J)) (fl_cs (o := some (.int (if (r < 0) ∨ (¬ (r < 6)) then 1 else 0))) rfl rfl rfl (cc_1 M J r) rfl) <|
 fl_dtwo (fl_if (t := 13) rfl rfl) fl_b1 (fun h1 =>
  fl_td (s' := (14, [.ref 0, .int r, .int n, .null], [.int (-1)], M, J)) (fl_n 1 rfl) <|
  fl_rt rfl (fun _ => rfl) (by first | (simp only [if_pos h1]; done) | rfl)) (fun h1 =>
  fl_td (s' := (10, [.ref 0, .int r, .int n, .null], [.int 40, .int n], M, J)) (fl_n 2 rfl) <|
  fl_dnot (fl_ic (t := 15) rfl rfl) fl_nle (fun h2 =>
   fl_td (s' := (14, [.ref 0, .int r, .int n, .null], [.int (-1)], M, J)) (fl_n 1 rfl) <|
   fl_rt rfl (fun _ => rfl) (by first | (simp only [if_neg h1, if_pos h2]; done) | rfl)) (fun h2 =>
   fl_td (s' := (16, [.ref 0, .int r, .int n, .null], [.int n], M, J)) (fl_n 1 rfl) <|
   fl_dnot (fl_if (t := 25) rfl rfl) fl_nlt (fun h3 =>
    fl_td (s' := (21, [.ref 0, .int r, .int n, .null], [.int 5, .ref 0], M, J)) (fl_n 2 rfl) <|
    fl_td (s' := (24, [.ref 0, .int r, .int n, .null], [.int (-3)], (fl_u (fl_u M 0 11 5) 80 5 ((M 80 5) + 1)), J)) (fl_cv (o := some (.int (-3))) rfl rfl rfl rfl (cc_2 M J 5) rfl) <|
    fl_rt rfl (fun _ => rfl) (by first | (simp only [if_neg h1, if_neg h2, if_pos h3]; done) | rfl)) (fun h3 =>
    fl_td (s' := (27, [.ref 0, .int r, .int n, .int 0], [], M, J)) (fl_n 2 rfl) <|
    fl_de (lp_0 M J r n) (by first | (simp only [if_neg h1, if_neg h2, if_neg h3]; done) | rfl))))
def fB107 : sm_P := (fun pc => sm_ch sm_t107 pc, sm_Kn 3 4 none, fun x => sm_lk sm_ca3 x, none)
theorem sg_107 (M : fl_M) (J : fl_J) (r n i : Int32) : fl_go fB107 (9, [.ref 81, .int r, .int n, .int i], [], M, J) (if i < 40 then (9, [.ref 81, .int r, .int n, .int (i + 1)], [], (fl_u M 88 (((40 * r) + i).toNatClampNeg) 0), J) else (33, [.ref 81, .int r, .int n, .int i], [], M, J)) :=
 fl_tr (s' := (12, [.ref 81, .int r, .int n, .int i], [.int 40, .int i], M, J)) (fl_n 2 rfl) <|
 fl_not (fl_ic (t := 33) rfl rfl) fl_nlt (fun h1 =>
  fl_tr (s' := (9, [.ref 81, .int r, .int n, .int (i + 1)], [], (fl_u M 88 (((40 * r) + i).toNatClampNeg) 0), J)) (fl_n 11 rfl) <|
  fl_rfl) (fun h1 =>
  fl_rfl)
theorem lp_107 (M : fl_M) (J : fl_J) (r n : Int32) (hr : (¬ (r < 0)) ∧ (¬ (5 < r))) : fl_dn fB107 (9, [.ref 81, .int r, .int n, .int 0], [], M, J) (none, fl_g M 88 (40 * r.toNatClampNeg) 40 0, J) := by
  have h1 := fi_ge.mp hr.1
  have h2 := fi_ge.mp hr.2
  rw [fi_i0] at h1
  rw [fi_i5] at h2
  refine fl_itd (S := fun m => (9, [.ref 81, .int r, .int n, .int (Int32.ofNat m)], [], fl_g M 88 (40 * r.toNatClampNeg) m 0, J)) 40 (fun m hm => ?_) ?_ ?_
  · refine fl_ge (sg_107 _ J r n (Int32.ofNat m)) ?_
    have e := fi_ti (m := m) (by omega)
    rw [if_pos ((fi_lt (by omega)).mpr hm), fi_40 h1 h2 (by omega) (by omega), fi_at (by omega), fi_s, fl_gs]
  · rw [fl_g0]
    rfl
  · refine fl_td (sg_107 _ J r n _) ?_
    rw [if_neg (by decide)]
    exact fl_rt rfl (fun _ => rfl) rfl
theorem cc_107 (M : fl_M) (J : fl_J) (r n : Int32) (hr : (¬ (r < 0)) ∧ (¬ (5 < r))) : fl_C 107 [.ref 81, .int r, .int n] M J (none, fl_g (fl_u M 87 r.toNatClampNeg n) 88 (40 * r.toNatClampNeg) 40 0, J) :=
 fl_Co (B := fB107) rfl rfl <|
 fl_td (s' := (9, [.ref 81, .int r, .int n, .int 0], [], fl_u M 87 r.toNatClampNeg n, J)) (fl_n 7 rfl) (lp_107 _ J r n hr)
def fB103 : sm_P := (fun pc => sm_ch sm_t103 pc, sm_Kn 3 3 none, fun x => sm_lk sm_ca3 x, some .int)
theorem cc_103 (M : fl_M) (J : fl_J) (r n : Int32) : fl_C 103 [.ref 81, .int r, .int n] M J (some (.int (if (¬ (r < 0)) ∧ (¬ (5 < r)) then (if 40 < n then (-1) else (if n < 0 then (-3) else n)) else (-1))), (if (¬ (r < 0)) ∧ (¬ (5 < r)) then (if 40 < n then M else (if n < 0 then (fl_u (fl_u M 81 14 5) 91 5 ((M 91 5) + 1)) else (fl_g (fl_u M 87 r.toNatClampNeg n) 88 (40 * r.toNatClampNeg) 40 0))) else M), J) :=
 fl_Co (B := fB103) rfl rfl <|
 fl_td (s' := (1, [.ref 81, .int r, .int n], [.int r], M, J)) (fl_n 1 rfl) <|
 fl_td (s' := (4, [.ref 81, .int r, .int n], [.int (if (¬ (r < 0)) ∧ (¬ (5 < r)) then 1 else 0)], M, J)) (fl_cs (o := some (.int (if (¬ (r < 0)) ∧ (¬ (5 < r)) then 1 else 0))) rfl rfl rfl (cc_104 M J r) rfl) <|
 fl_dnot (fl_if (t := 13) rfl rfl) fl_b0 (fun h1 =>
  fl_td (s' := (10, [.ref 81, .int r, .int n], [.int 40, .int n], M, J)) (fl_n 2 rfl) <|
  fl_dnot (fl_ic (t := 15) rfl rfl) fl_nle (fun h2 =>
   fl_td (s' := (14, [.ref 81, .int r, .int n], [.int (-1)], M, J)) (fl_n 1 rfl) <|
   fl_rt rfl (fun _ => rfl) (by first | (simp only [if_pos h1, if_pos h2]; done) | rfl)) (fun h2 =>
   fl_td (s' := (16, [.ref 81, .int r, .int n], [.int n], M, J)) (fl_n 1 rfl) <|
   fl_dnot (fl_if (t := 25) rfl rfl) fl_nlt (fun h3 =>
    fl_td (s' := (21, [.ref 81, .int r, .int n], [.int 5, .ref 81], M, J)) (fl_n 2 rfl) <|
    fl_td (s' := (24, [.ref 81, .int r, .int n], [.int (-3)], (fl_u (fl_u M 81 14 5) 91 5 ((M 91 5) + 1)), J)) (fl_cv (o := some (.int (-3))) rfl rfl rfl rfl (cc_106 M J 5) rfl) <|
    fl_rt rfl (fun _ => rfl) (by first | (simp only [if_pos h1, if_neg h2, if_pos h3]; done) | rfl)) (fun h3 =>
    fl_td (s' := (28, [.ref 81, .int r, .int n], [.int n, .int r, .ref 81], M, J)) (fl_n 3 rfl) <|
    fl_td (s' := (31, [.ref 81, .int r, .int n], [], (fl_g (fl_u M 87 r.toNatClampNeg n) 88 (40 * r.toNatClampNeg) 40 0), J)) (fl_cv (o := none) rfl rfl rfl rfl (cc_107 M J r n (by assumption)) rfl) <|
    fl_td (s' := (32, [.ref 81, .int r, .int n], [.int n], (fl_g (fl_u M 87 r.toNatClampNeg n) 88 (40 * r.toNatClampNeg) 40 0), J)) (fl_n 1 rfl) <|
    fl_rt rfl (fun _ => rfl) (by first | (simp only [if_pos h1, if_neg h2, if_neg h3]; done) | rfl)))) (fun h1 =>
  fl_td (s' := (14, [.ref 81, .int r, .int n], [.int (-1)], M, J)) (fl_n 1 rfl) <|
  fl_rt rfl (fun _ => rfl) (by first | (simp only [if_neg h1]; done) | rfl))
def fB116 : sm_P := (fun pc => sm_ch sm_t116 pc, sm_Kn 3 4 none, fun x => sm_lk sm_ca3 x, some .int)
theorem sg_116 (M : fl_M) (J : fl_J) (t n i : Int32) : fl_go fB116 (34, [.ref 81, .int t, .int n, .int i], [], M, J) (if i < 60 then (34, [.ref 81, .int t, .int n, .int (i + 1)], [], (fl_u M 90 (((60 * t) + i).toNatClampNeg) 32), J) else (60, [.ref 81, .int t, .int n, .int i], [.int n], M, J)) :=
 fl_tr (s' := (37, [.ref 81, .int t, .int n, .int i], [.int 60, .int i], M, J)) (fl_n 2 rfl) <|
 fl_not (fl_ic (t := 59) rfl rfl) fl_nlt (fun h1 =>
  fl_tr (s' := (34, [.ref 81, .int t, .int n, .int (i + 1)], [], (fl_u M 90 (((60 * t) + i).toNatClampNeg) 32), J)) (fl_n 11 rfl) <|
  fl_rfl) (fun h1 =>
  fl_tr (s' := (60, [.ref 81, .int t, .int n, .int i], [.int n], M, J)) (fl_n 1 rfl) <|
  fl_rfl)
theorem lp_116 (M : fl_M) (J : fl_J) (t n : Int32) (hr : (¬ (t < 0)) ∧ (¬ (3 < t))) : fl_dn fB116 (34, [.ref 81, .int t, .int n, .int 0], [], M, J) (some (.int n), fl_g M 90 (60 * t.toNatClampNeg) 60 32, J) := by
  have h1 := fi_ge.mp hr.1
  have h2 := fi_ge.mp hr.2
  rw [fi_i0] at h1
  rw [fi_i3] at h2
  refine fl_itd (S := fun m => (34, [.ref 81, .int t, .int n, .int (Int32.ofNat m)], [], fl_g M 90 (60 * t.toNatClampNeg) m 32, J)) 60 (fun m hm => ?_) ?_ ?_
  · refine fl_ge (sg_116 _ J t n (Int32.ofNat m)) ?_
    have e := fi_ti (m := m) (by omega)
    rw [if_pos ((fi_lt (by omega)).mpr hm), fi_60 h1 h2 (by omega) (by omega), fi_at (by omega), fi_s, fl_gs]
  · rw [fl_g0]
    rfl
  · refine fl_td (sg_116 _ J t n _) ?_
    rw [if_neg (by decide)]
    exact fl_rt rfl (fun _ => rfl) rfl
theorem cc_116 (M : fl_M) (J : fl_J) (t n : Int32) : fl_C 116 [.ref 81, .int t, .int n] M J (some (.int (if (¬ (t < 0)) ∧ (¬ (3 < t)) then (if 60 < n then (-1) else (if n < 0 then (-3) else n)) else (-1))), (if (¬ (t < 0)) ∧ (¬ (3 < t)) then (if 60 < n then M else (if n < 0 then (fl_u (fl_u M 81 14 5) 91 5 ((M 91 5) + 1)) else (fl_g (fl_u M 89 t.toNatClampNeg n) 90 (60 * t.toNatClampNeg) 60 32))) else M), J) :=
 fl_Co (B := fB116) rfl rfl <|
 fl_td (s' := (1, [.ref 81, .int t, .int n, .null], [.int t], M, J)) (fl_n 1 rfl) <|
 fl_td (s' := (4, [.ref 81, .int t, .int n, .null], [.int (if (¬ (t < 0)) ∧ (¬ (3 < t)) then 1 else 0)], M, J)) (fl_cs (o := some (.int (if (¬ (t < 0)) ∧ (¬ (3 < t)) then 1 else 0))) rfl rfl rfl (cc_117 M J t) rfl) <|
 fl_dnot (fl_if (t := 13) rfl rfl) fl_b0 (fun h1 =>
  fl_td (s' := (10, [.ref 81, .int t, .int n, .null], [.int 60, .int n], M, J)) (fl_n 2 rfl) <|
  fl_dnot (fl_ic (t := 15) rfl rfl) fl_nle (fun h2 =>
   fl_td (s' := (14, [.ref 81, .int t, .int n, .null], [.int (-1)], M, J)) (fl_n 1 rfl) <|
   fl_rt rfl (fun _ => rfl) (by first | (simp only [if_pos h1, if_pos h2]; done) | rfl)) (fun h2 =>
   fl_td (s' := (16, [.ref 81, .int t, .int n, .null], [.int n], M, J)) (fl_n 1 rfl) <|
   fl_dnot (fl_if (t := 25) rfl rfl) fl_nlt (fun h3 =>
    fl_td (s' := (21, [.ref 81, .int t, .int n, .null], [.int 5, .ref 81], M, J)) (fl_n 2 rfl) <|
    fl_td (s' := (24, [.ref 81, .int t, .int n, .null], [.int (-3)], (fl_u (fl_u M 81 14 5) 91 5 ((M 91 5) + 1)), J)) (fl_cv (o := some (.int (-3))) rfl rfl rfl rfl (cc_106 M J 5) rfl) <|
    fl_rt rfl (fun _ => rfl) (by first | (simp only [if_pos h1, if_neg h2, if_pos h3]; done) | rfl)) (fun h3 =>
    fl_td (s' := (34, [.ref 81, .int t, .int n, .int 0], [], (fl_u M 89 t.toNatClampNeg n), J)) (fl_n 7 rfl) <|
    fl_de (lp_116 (fl_u M 89 t.toNatClampNeg n) J t n (by assumption)) (by first | (simp only [if_pos h1, if_neg h2, if_neg h3]; done) | rfl)))) (fun h1 =>
  fl_td (s' := (14, [.ref 81, .int t, .int n, .null], [.int (-1)], M, J)) (fl_n 1 rfl) <|
  fl_rt rfl (fun _ => rfl) (by first | (simp only [if_neg h1]; done) | rfl))
def fB10 : sm_P := (fun pc => sm_ch sm_t10 pc, sm_Kn 2 6 none, fun x => sm_lk sm_ca2 x, some .int)
theorem sg_10 (M : fl_M) (J : fl_J) (r n i : Int32) (s : Int64) : fl_go fB10 (42, [.ref 0, .int r, .int n, .long s, .null, .int i], [], M, J) (if i < n then (42, [.ref 0, .int r, .int n, .long (s + ((M (fl_ar 2 r.toNatClampNeg) i.toNatClampNeg).toInt64)), .null, .int (i + 1)], [], M, J) else (76, [.ref 0, .int r, .int n, .long s, .null, .int i], [.int 1], (fl_u M 0 12 ((s / n.toInt64).toInt32)), J)) :=
 fl_tr (s' := (45, [.ref 0, .int r, .int n, .long s, .null, .int i], [.int n, .int i], M, J)) (fl_n 2 rfl) <|
 fl_not (fl_ic (t := 67) rfl rfl) fl_nlt (fun h1 =>
  fl_tr (s' := (42, [.ref 0, .int r, .int n, .long (s + ((M (fl_ar 2 r.toNatClampNeg) i.toNatClampNeg).toInt64)), .null, .int (i + 1)], [], M, J)) (fl_n 12 rfl) <|
  fl_rfl) (fun h1 =>
  fl_tr (s' := (73, [.ref 0, .int r, .int n, .long s, .null, .int i], [.int ((s / n.toInt64).toInt32), .ref 0], M, J)) (fl_n 6 rfl) <|
  fl_tr (s' := (76, [.ref 0, .int r, .int n, .long s, .null, .int i], [.int 1], (fl_u M 0 12 ((s / n.toInt64).toInt32)), J)) (fl_cv (o := some (.int 1)) rfl rfl rfl rfl (cc_5 M J ((s / n.toInt64).toInt32)) rfl) <|
  fl_rfl)
theorem lp_10 (M : fl_M) (J : fl_J) (r n : Int32) : fl_dn fB10 (42, [.ref 0, .int r, .int n, .long 0, .null, .int 0], [], M, J) (some (.int 1), fl_u M 0 12 (fl_sm (M (fl_ar 2 r.toNatClampNeg)) n.toNatClampNeg / n.toInt64).toInt32, J) := by
  have hb := fi_bd n
  refine fl_itd (S := fun m => (42, [.ref 0, .int r, .int n, .long (fl_sm (M (fl_ar 2 r.toNatClampNeg)) m), .null, .int (Int32.ofNat m)], [], M, J)) n.toNatClampNeg (fun m hm => ?_) ?_ ?_
  · refine fl_ge (sg_10 _ J r n (Int32.ofNat m) _) ?_
    rw [if_pos ((fi_lt (by omega)).mpr hm), fi_at (by omega), fi_s]
    rfl
  · rfl
  · refine fl_td (sg_10 _ J r n _ _) ?_
    rw [if_neg (fun z => absurd ((fi_lt (by omega)).mp z) (by omega))]
    exact fl_rt rfl (fun _ => rfl) rfl
theorem cc_10 (M : fl_M) (J : fl_J) (r : Int32) : fl_C 10 [.ref 0, .int r] M J (some (.int (if (r < 0) ∨ (¬ (r < 6)) then (-1) else (if (M 1 r.toNatClampNeg) = (-1) then (-3) else (if 0 < (M 1 r.toNatClampNeg) then 1 else (-3))))), (if (r < 0) ∨ (¬ (r < 6)) then M else (if (M 1 r.toNatClampNeg) = (-1) then (fl_u (fl_u M 0 11 1) 80 1 ((M 80 1) + 1)) else (if 0 < (M 1 r.toNatClampNeg) then (fl_u M 0 12 (fl_sm (M (fl_ar 2 r.toNatClampNeg)) (M 1 r.toNatClampNeg).toNatClampNeg / (M 1 r.toNatClampNeg).toInt64).toInt32) else (fl_u (fl_u M 0 11 4) 80 4 ((M 80 4) + 1))))), J) :=
 fl_Co (B := fB10) rfl rfl <|
 fl_td (s' := (1, [.ref 0, .int r, .null, .null, .null, .null], [.int r], M, J)) (fl_n 1 rfl) <|
 fl_td (s' := (4, [.ref 0, .int r, .null, .null, .null, .null], [.int (if (r < 0) ∨ (¬ (r < 6)) then 1 else 0)], M, J)) (fl_cs (o := some (.int (if (r < 0) ∨ (¬ (r < 6)) then 1 else 0))) rfl rfl rfl (cc_1 M J r) rfl) <|
 fl_dnot (fl_if (t := 9) rfl rfl) fl_b0 (fun h1 =>
  fl_td (s' := (8, [.ref 0, .int r, .null, .null, .null, .null], [.int (-1)], M, J)) (fl_n 1 rfl) <|
  fl_rt rfl (fun _ => rfl) (by first | (simp only [if_pos h1]; done) | rfl)) (fun h1 =>
  fl_td (s' := (18, [.ref 0, .int r, .int (M 1 r.toNatClampNeg), .null, .null, .null], [.int (-1), .int (M 1 r.toNatClampNeg)], M, J)) (fl_n 7 rfl) <|
  fl_dnot (fl_ic (t := 27) rfl rfl) fl_cF (fun h2 =>
   fl_td (s' := (23, [.ref 0, .int r, .int (M 1 r.toNatClampNeg), .null, .null, .null], [.int 1, .ref 0], M, J)) (fl_n 2 rfl) <|
   fl_td (s' := (26, [.ref 0, .int r, .int (M 1 r.toNatClampNeg), .null, .null, .null], [.int (-3)], (fl_u (fl_u M 0 11 1) 80 1 ((M 80 1) + 1)), J)) (fl_cv (o := some (.int (-3))) rfl rfl rfl rfl (cc_2 M J 1) rfl) <|
   fl_rt rfl (fun _ => rfl) (by first | (simp only [if_neg h1, if_pos h2]; done) | rfl)) (fun h2 =>
   fl_td (s' := (28, [.ref 0, .int r, .int (M 1 r.toNatClampNeg), .null, .null, .null], [.int (M 1 r.toNatClampNeg)], M, J)) (fl_n 1 rfl) <|
   fl_dtwo (fl_if (t := 37) rfl rfl) fl_cT (fun h3 =>
    fl_td (s' := (42, [.ref 0, .int r, .int (M 1 r.toNatClampNeg), .long 0, .null, .int 0], [], M, J)) (fl_n 4 rfl) <|
    fl_de (lp_10 M J r (M 1 r.toNatClampNeg)) (by first | (simp only [if_neg h1, if_neg h2, if_pos h3]; done) | rfl)) (fun h3 =>
    fl_td (s' := (33, [.ref 0, .int r, .int (M 1 r.toNatClampNeg), .null, .null, .null], [.int 4, .ref 0], M, J)) (fl_n 2 rfl) <|
    fl_td (s' := (36, [.ref 0, .int r, .int (M 1 r.toNatClampNeg), .null, .null, .null], [.int (-3)], (fl_u (fl_u M 0 11 4) 80 4 ((M 80 4) + 1)), J)) (fl_cv (o := some (.int (-3))) rfl rfl rfl rfl (cc_2 M J 4) rfl) <|
    fl_rt rfl (fun _ => rfl) (by first | (simp only [if_neg h1, if_neg h2, if_neg h3]; done) | rfl))))
def fB115 : sm_P := (fun pc => sm_ch sm_t115 pc, sm_Kn 3 5 none, fun x => sm_lk sm_ca3 x, some .int)
theorem sg_115 (M : fl_M) (J : fl_J) (r i : Int32) (s : Int64) : fl_go fB115 (44, [.ref 81, .int r, .long s, .null, .int i], [], M, J) (if i < (M 87 r.toNatClampNeg) then (44, [.ref 81, .int r, .long (s + ((M 88 (((40 * r) + i).toNatClampNeg)).toInt64)), .null, .int (i + 1)], [], M, J) else (91, [.ref 81, .int r, .long s, .null, .int i], [.int 1], (fl_u M 81 11 ((s / ((M 87 r.toNatClampNeg).toInt64)).toInt32)), J)) :=
 fl_tr (s' := (52, [.ref 81, .int r, .long s, .null, .int i], [.int (M 87 r.toNatClampNeg), .int i], M, J)) (fl_n 5 rfl) <|
 fl_not (fl_ic (t := 77) rfl rfl) fl_nlt (fun h1 =>
  fl_tr (s' := (44, [.ref 81, .int r, .long (s + ((M 88 (((40 * r) + i).toNatClampNeg)).toInt64)), .null, .int (i + 1)], [], M, J)) (fl_n 14 rfl) <|
  fl_rfl) (fun h1 =>
  fl_tr (s' := (88, [.ref 81, .int r, .long s, .null, .int i], [.int ((s / ((M 87 r.toNatClampNeg).toInt64)).toInt32), .ref 81], M, J)) (fl_n 9 rfl) <|
  fl_tr (s' := (91, [.ref 81, .int r, .long s, .null, .int i], [.int 1], (fl_u M 81 11 ((s / ((M 87 r.toNatClampNeg).toInt64)).toInt32)), J)) (fl_cv (o := some (.int 1)) rfl rfl rfl rfl (cc_110 M J ((s / ((M 87 r.toNatClampNeg).toInt64)).toInt32)) rfl) <|
  fl_rfl)
theorem lp_115 (M : fl_M) (J : fl_J) (r : Int32) (hr : (¬ (r < 0)) ∧ (¬ (5 < r))) (hn : (M 87 r.toNatClampNeg).toInt ≤ 40) : fl_dn fB115 (44, [.ref 81, .int r, .long 0, .null, .int 0], [], M, J) (some (.int 1), fl_u M 81 11 (fl_sm (fun k => M 88 (40 * r.toNatClampNeg + k)) (M 87 r.toNatClampNeg).toNatClampNeg / (M 87 r.toNatClampNeg).toInt64).toInt32, J) := by
  have h1 := fi_ge.mp hr.1
  have h2 := fi_ge.mp hr.2
  rw [fi_i0] at h1
  rw [fi_i5] at h2
  have hb := fi_bd (M 87 r.toNatClampNeg)
  have hc := fi_cl (M 87 r.toNatClampNeg)
  refine fl_itd (S := fun m => (44, [.ref 81, .int r, .long (fl_sm (fun k => M 88 (40 * r.toNatClampNeg + k)) m), .null, .int (Int32.ofNat m)], [], M, J)) (M 87 r.toNatClampNeg).toNatClampNeg (fun m hm => ?_) ?_ ?_
  · refine fl_ge (sg_115 _ J r (Int32.ofNat m) _) ?_
    have e := fi_ti (m := m) (by omega)
    rw [if_pos ((fi_lt (by omega)).mpr hm), fi_40 h1 h2 (by omega) (by omega), fi_at (by omega), fi_s]
    rfl
  · rfl
  · refine fl_td (sg_115 _ J r _ _) ?_
    rw [if_neg (fun z => absurd ((fi_lt (by omega)).mp z) (by omega))]
    exact fl_rt rfl (fun _ => rfl) rfl
theorem cc_115 (M : fl_M) (J : fl_J) (r : Int32) (hn : ∀ q, q < 6 → (M 87 q).toInt ≤ 40) : fl_C 115 [.ref 81, .int r] M J (some (.int (if (¬ (r < 0)) ∧ (¬ (5 < r)) then (if (M 87 r.toNatClampNeg) < 0 then (-3) else (if (M 87 r.toNatClampNeg) = 0 then (-3) else 1)) else (-1))), (if (¬ (r < 0)) ∧ (¬ (5 < r)) then (if (M 87 r.toNatClampNeg) < 0 then (fl_u (fl_u M 81 14 1) 91 1 ((M 91 1) + 1)) else (if (M 87 r.toNatClampNeg) = 0 then (fl_u (fl_u M 81 14 4) 91 4 ((M 91 4) + 1)) else (fl_u M 81 11 (fl_sm (fun k => M 88 (40 * r.toNatClampNeg + k)) (M 87 r.toNatClampNeg).toNatClampNeg / (M 87 r.toNatClampNeg).toInt64).toInt32))) else M), J) :=
 fl_Co (B := fB115) rfl rfl <|
 fl_td (s' := (1, [.ref 81, .int r, .null, .null, .null], [.int r], M, J)) (fl_n 1 rfl) <|
 fl_td (s' := (4, [.ref 81, .int r, .null, .null, .null], [.int (if (¬ (r < 0)) ∧ (¬ (5 < r)) then 1 else 0)], M, J)) (fl_cs (o := some (.int (if (¬ (r < 0)) ∧ (¬ (5 < r)) then 1 else 0))) rfl rfl rfl (cc_104 M J r) rfl) <|
 fl_dtwo (fl_if (t := 9) rfl rfl) fl_b1 (fun h1 =>
  fl_td (s' := (15, [.ref 81, .int r, .null, .null, .null], [.int (M 87 r.toNatClampNeg)], M, J)) (fl_n 4 rfl) <|
  fl_dnot (fl_if (t := 24) rfl rfl) fl_nlt (fun h2 =>
   fl_td (s' := (20, [.ref 81, .int r, .null, .null, .null], [.int 1, .ref 81], M, J)) (fl_n 2 rfl) <|
   fl_td (s' := (23, [.ref 81, .int r, .null, .null, .null], [.int (-3)], (fl_u (fl_u M 81 14 1) 91 1 ((M 91 1) + 1)), J)) (fl_cv (o := some (.int (-3))) rfl rfl rfl rfl (cc_106 M J 1) rfl) <|
   fl_rt rfl (fun _ => rfl) (by first | (simp only [if_pos h1, if_pos h2]; done) | rfl)) (fun h2 =>
   fl_td (s' := (30, [.ref 81, .int r, .null, .null, .null], [.int (M 87 r.toNatClampNeg)], M, J)) (fl_n 4 rfl) <|
   fl_dnot (fl_if (t := 39) rfl rfl) fl_cF (fun h3 =>
    fl_td (s' := (35, [.ref 81, .int r, .null, .null, .null], [.int 4, .ref 81], M, J)) (fl_n 2 rfl) <|
    fl_td (s' := (38, [.ref 81, .int r, .null, .null, .null], [.int (-3)], (fl_u (fl_u M 81 14 4) 91 4 ((M 91 4) + 1)), J)) (fl_cv (o := some (.int (-3))) rfl rfl rfl rfl (cc_106 M J 4) rfl) <|
    fl_rt rfl (fun _ => rfl) (by first | (simp only [if_pos h1, if_neg h2, if_pos h3]; done) | rfl)) (fun h3 =>
    fl_td (s' := (44, [.ref 81, .int r, .long 0, .null, .int 0], [], M, J)) (fl_n 4 rfl) <|
    fl_de (lp_115 M J r (by assumption) (hn _ (fi_r6 (by assumption)))) (by first | (simp only [if_pos h1, if_neg h2, if_neg h3]; done) | rfl)))) (fun h1 =>
  fl_td (s' := (8, [.ref 81, .int r, .null, .null, .null], [.int (-1)], M, J)) (fl_n 1 rfl) <|
  fl_rt rfl (fun _ => rfl) (by first | (simp only [if_neg h1]; done) | rfl))
def fB8 : sm_P := (fun pc => sm_ch sm_t8 pc, sm_Kn 2 6 none, fun x => sm_lk sm_ca2 x, some .int)
theorem cc_8 (M : fl_M) (J : fl_J) (r i to j n : Int32) : fl_C 8 [.ref 0, .int r, .int i, .int to, .int j, .int n] M J (some (.int (if (r < 0) ∨ (¬ (r < 6)) then (-1) else (if (to < 0) ∨ (¬ (to < 6)) then (-1) else (if n < 0 then (-3) else (if (M 1 r.toNatClampNeg) = (-1) then (-3) else (if (M 1 to.toNatClampNeg) = (-1) then (-3) else (if (i < 0) ∨ (((M 1 r.toNatClampNeg) - n) < i) then (-3) else (if (j < 0) ∨ (((M 1 to.toNatClampNeg) - n) < j) then (-3) else 1)))))))), (if (r < 0) ∨ (¬ (r < 6)) then M else (if (to < 0) ∨ (¬ (to < 6)) then M else (if n < 0 then (fl_u (fl_u M 0 11 5) 80 5 ((M 80 5) + 1)) else (if (M 1 r.toNatClampNeg) = (-1) then (fl_u (fl_u M 0 11 1) 80 1 ((M 80 1) + 1)) else (if (M 1 to.toNatClampNeg) = (-1) then (fl_u (fl_u M 0 11 1) 80 1 ((M 80 1) + 1)) else (if (i < 0) ∨ (((M 1 r.toNatClampNeg) - n) < i) then (fl_u (fl_u M 0 11 2) 80 2 ((M 80 2) + 1)) else (if (j < 0) ∨ (((M 1 to.toNatClampNeg) - n) < j) then (fl_u (fl_u M 0 11 2) 80 2 ((M 80 2) + 1)) else (fl_y M (fl_ar 2 r.toNatClampNeg) i.toNatClampNeg (fl_ar 2 to.toNatClampNeg) j.toNatClampNeg n.toNatClampNeg)))))))), J) :=
 fl_Co (B := fB8) rfl rfl <|
 fl_td (s' := (1, [.ref 0, .int r, .int i, .int to, .int j, .int n], [.int r], M, J)) (fl_n 1 rfl) <|
 fl_td (s' := (4, [.ref 0, .int r, .int i, .int to, .int j, .int n], [.int (if (r < 0) ∨ (¬ (r < 6)) then 1 else 0)], M, J)) (fl_cs (o := some (.int (if (r < 0) ∨ (¬ (r < 6)) then 1 else 0))) rfl rfl rfl (cc_1 M J r) rfl) <|
 fl_dtwo (fl_if (t := 14) rfl rfl) fl_b1 (fun h1 =>
  fl_td (s' := (15, [.ref 0, .int r, .int i, .int to, .int j, .int n], [.int (-1)], M, J)) (fl_n 1 rfl) <|
  fl_rt rfl (fun _ => rfl) (by first | (simp only [if_pos h1]; done) | rfl)) (fun h1 =>
  fl_td (s' := (8, [.ref 0, .int r, .int i, .int to, .int j, .int n], [.int to], M, J)) (fl_n 1 rfl) <|
  fl_td (s' := (11, [.ref 0, .int r, .int i, .int to, .int j, .int n], [.int (if (to < 0) ∨ (¬ (to < 6)) then 1 else 0)], M, J)) (fl_cs (o := some (.int (if (to < 0) ∨ (¬ (to < 6)) then 1 else 0))) rfl rfl rfl (cc_1 M J to) rfl) <|
  fl_dnot (fl_if (t := 16) rfl rfl) fl_b0 (fun h2 =>
   fl_td (s' := (15, [.ref 0, .int r, .int i, .int to, .int j, .int n], [.int (-1)], M, J)) (fl_n 1 rfl) <|
   fl_rt rfl (fun _ => rfl) (by first | (simp only [if_neg h1, if_pos h2]; done) | rfl)) (fun h2 =>
   fl_td (s' := (18, [.ref 0, .int r, .int i, .int to, .int j, .int n], [.int n], M, J)) (fl_n 1 rfl) <|
   fl_dnot (fl_if (t := 27) rfl rfl) fl_nlt (fun h3 =>
    fl_td (s' := (23, [.ref 0, .int r, .int i, .int to, .int j, .int n], [.int 5, .ref 0], M, J)) (fl_n 2 rfl) <|
    fl_td (s' := (26, [.ref 0, .int r, .int i, .int to, .int j, .int n], [.int (-3)], (fl_u (fl_u M 0 11 5) 80 5 ((M 80 5) + 1)), J)) (fl_cv (o := some (.int (-3))) rfl rfl rfl rfl (cc_2 M J 5) rfl) <|
    fl_rt rfl (fun _ => rfl) (by first | (simp only [if_neg h1, if_neg h2, if_pos h3]; done) | rfl)) (fun h3 =>
    fl_td (s' := (34, [.ref 0, .int r, .int i, .int to, .int j, .int n], [.int (-1), .int (M 1 r.toNatClampNeg)], M, J)) (fl_n 5 rfl) <|
    fl_dtwo (fl_ic (t := 47) rfl rfl) fl_cT (fun h4 =>
     fl_td (s' := (49, [.ref 0, .int r, .int i, .int to, .int j, .int n], [.int 1, .ref 0], M, J)) (fl_n 2 rfl) <|
     fl_td (s' := (52, [.ref 0, .int r, .int i, .int to, .int j, .int n], [.int (-3)], (fl_u (fl_u M 0 11 1) 80 1 ((M 80 1) + 1)), J)) (fl_cv (o := some (.int (-3))) rfl rfl rfl rfl (cc_2 M J 1) rfl) <|
     fl_rt rfl (fun _ => rfl) (by first | (simp only [if_neg h1, if_neg h2, if_neg h3, if_pos h4]; done) | rfl)) (fun h4 =>
     fl_td (s' := (44, [.ref 0, .int r, .int i, .int to, .int j, .int n], [.int (-1), .int (M 1 to.toNatClampNeg)], M, J)) (fl_n 5 rfl) <|
     fl_dnot (fl_ic (t := 53) rfl rfl) fl_cF (fun h5 =>
      fl_td (s' := (49, [.ref 0, .int r, .int i, .int to, .int j, .int n], [.int 1, .ref 0], M, J)) (fl_n 2 rfl) <|
      fl_td (s' := (52, [.ref 0, .int r, .int i, .int to, .int j, .int n], [.int (-3)], (fl_u (fl_u M 0 11 1) 80 1 ((M 80 1) + 1)), J)) (fl_cv (o := some (.int (-3))) rfl rfl rfl rfl (cc_2 M J 1) rfl) <|
      fl_rt rfl (fun _ => rfl) (by first | (simp only [if_neg h1, if_neg h2, if_neg h3, if_neg h4, if_pos h5]; done) | rfl)) (fun h5 =>
      fl_td (s' := (62, [.ref 0, .int r, .int i, .int to, .int j, .int n], [.int (M 1 r.toNatClampNeg), .int n, .int i], M, J)) (fl_n 6 rfl) <|
      fl_td (s' := (65, [.ref 0, .int r, .int i, .int to, .int j, .int n], [.int (if (i < 0) ∨ (((M 1 r.toNatClampNeg) - n) < i) then 1 else 0)], M, J)) (fl_cs (o := some (.int (if (i < 0) ∨ (((M 1 r.toNatClampNeg) - n) < i) then 1 else 0))) rfl rfl rfl (cc_9 M J i n (M 1 r.toNatClampNeg)) rfl) <|
      fl_dtwo (fl_if (t := 84) rfl rfl) fl_b1 (fun h6 =>
       fl_td (s' := (86, [.ref 0, .int r, .int i, .int to, .int j, .int n], [.int 2, .ref 0], M, J)) (fl_n 2 rfl) <|
       fl_td (s' := (89, [.ref 0, .int r, .int i, .int to, .int j, .int n], [.int (-3)], (fl_u (fl_u M 0 11 2) 80 2 ((M 80 2) + 1)), J)) (fl_cv (o := some (.int (-3))) rfl rfl rfl rfl (cc_2 M J 2) rfl) <|
       fl_rt rfl (fun _ => rfl) (by first | (simp only [if_neg h1, if_neg h2, if_neg h3, if_neg h4, if_neg h5, if_pos h6]; done) | rfl)) (fun h6 =>
       fl_td (s' := (78, [.ref 0, .int r, .int i, .int to, .int j, .int n], [.int (M 1 to.toNatClampNeg), .int n, .int j], M, J)) (fl_n 6 rfl) <|
       fl_td (s' := (81, [.ref 0, .int r, .int i, .int to, .int j, .int n], [.int (if (j < 0) ∨ (((M 1 to.toNatClampNeg) - n) < j) then 1 else 0)], M, J)) (fl_cs (o := some (.int (if (j < 0) ∨ (((M 1 to.toNatClampNeg) - n) < j) then 1 else 0))) rfl rfl rfl (cc_9 M J j n (M 1 to.toNatClampNeg)) rfl) <|
       fl_dnot (fl_if (t := 90) rfl rfl) fl_b0 (fun h7 =>
        fl_td (s' := (86, [.ref 0, .int r, .int i, .int to, .int j, .int n], [.int 2, .ref 0], M, J)) (fl_n 2 rfl) <|
        fl_td (s' := (89, [.ref 0, .int r, .int i, .int to, .int j, .int n], [.int (-3)], (fl_u (fl_u M 0 11 2) 80 2 ((M 80 2) + 1)), J)) (fl_cv (o := some (.int (-3))) rfl rfl rfl rfl (cc_2 M J 2) rfl) <|
        fl_rt rfl (fun _ => rfl) (by first | (simp only [if_neg h1, if_neg h2, if_neg h3, if_neg h4, if_neg h5, if_neg h6, if_pos h7]; done) | rfl)) (fun h7 =>
        fl_td (s' := (111, [.ref 0, .int r, .int i, .int to, .int j, .int n], [.int 1], (fl_y M (fl_ar 2 r.toNatClampNeg) i.toNatClampNeg (fl_ar 2 to.toNatClampNeg) j.toNatClampNeg n.toNatClampNeg), J)) (fl_n 13 rfl) <|
        fl_rt rfl (fun _ => rfl) (by first | (simp only [if_neg h1, if_neg h2, if_neg h3, if_neg h4, if_neg h5, if_neg h6, if_neg h7]; done) | rfl))))))))
def fB114 : sm_P := (fun pc => sm_ch sm_t114 pc, sm_Kn 3 4 none, fun x => sm_lk sm_ca3 x, some .boolean)
theorem cc_114 (M : fl_M) (J : fl_J) (r i n : Int32) : fl_C 114 [.ref 81, .int r, .int i, .int n] M J (some (.int (if (¬ (i < 0)) ∧ (¬ (((M 87 r.toNatClampNeg).toInt64) < (i.toInt64 + n.toInt64))) then 1 else 0)), M, J) :=
 fl_Co (B := fB114) rfl rfl <|
 fl_td (s' := (1, [.ref 81, .int r, .int i, .int n], [.int i], M, J)) (fl_n 1 rfl) <|
 fl_dtwo (fl_if (t := 24) rfl rfl) fl_cT (fun h1 =>
  fl_td (s' := (25, [.ref 81, .int r, .int i, .int n], [.int 0], M, J)) (fl_n 1 rfl) <|
  fl_rt rfl (fun _ => rfl) (by simp [h1])) (fun h1 =>
  fl_td (s' := (17, [.ref 81, .int r, .int i, .int n], [.int (lg_cmp (i.toInt64 + n.toInt64) ((M 87 r.toNatClampNeg).toInt64))], M, J)) (fl_n 11 rfl) <|
  fl_dtwo (fl_if (t := 24) rfl rfl) fl_lgt (fun h2 =>
   fl_td (s' := (25, [.ref 81, .int r, .int i, .int n], [.int 0], M, J)) (fl_n 1 rfl) <|
   fl_rt rfl (fun _ => rfl) (by simp [h1, h2])) (fun h2 =>
   fl_td (s' := (25, [.ref 81, .int r, .int i, .int n], [.int 1], M, J)) (fl_n 2 rfl) <|
   fl_rt rfl (fun _ => rfl) (by simp [h1, h2])))
def fB113 : sm_P := (fun pc => sm_ch sm_t113 pc, sm_Kn 3 9 none, fun x => sm_lk sm_ca3 x, some .int)
theorem sg_113f (M : fl_M) (J : fl_J) (r i to j n k : Int32) (v8 : Value) : fl_go fB113 (96, [.ref 81, .int r, .int i, .int to, .int j, .int n, .int 0, .int k, v8], [], M, J) (if k < n then (96, [.ref 81, .int r, .int i, .int to, .int j, .int n, .int 0, .int (k + 1), .int k], [], (fl_u M 88 ((((40 * to) + j) + k).toNatClampNeg) (M 88 ((((40 * r) + i) + k).toNatClampNeg))), J) else (158, [.ref 81, .int r, .int i, .int to, .int j, .int n, .int 0, .int k, v8], [.int 1], M, J)) :=
 fl_tr (s' := (100, [.ref 81, .int r, .int i, .int to, .int j, .int n, .int 0, .int k, v8], [.int n, .int k], M, J)) (fl_n 2 rfl) <|
 fl_not (fl_ic (t := 157) rfl rfl) fl_nlt (fun h1 =>
  fl_tr (s' := (96, [.ref 81, .int r, .int i, .int to, .int j, .int n, .int 0, .int (k + 1), .int k], [], (fl_u M 88 ((((40 * to) + j) + k).toNatClampNeg) (M 88 ((((40 * r) + i) + k).toNatClampNeg))), J)) (fl_n 26 rfl) <|
  fl_rfl) (fun h1 =>
  fl_tr (s' := (158, [.ref 81, .int r, .int i, .int to, .int j, .int n, .int 0, .int k, v8], [.int 1], M, J)) (fl_n 1 rfl) <|
  fl_rfl)
theorem sg_113b (M : fl_M) (J : fl_J) (r i to j n k : Int32) (v8 : Value) : fl_go fB113 (96, [.ref 81, .int r, .int i, .int to, .int j, .int n, .int 1, .int k, v8], [], M, J) (if k < n then (96, [.ref 81, .int r, .int i, .int to, .int j, .int n, .int 1, .int (k + 1), .int ((n - 1) - k)], [], (fl_u M 88 ((((40 * to) + j) + ((n - 1) - k)).toNatClampNeg) (M 88 ((((40 * r) + i) + ((n - 1) - k)).toNatClampNeg))), J) else (158, [.ref 81, .int r, .int i, .int to, .int j, .int n, .int 1, .int k, v8], [.int 1], M, J)) :=
 fl_tr (s' := (100, [.ref 81, .int r, .int i, .int to, .int j, .int n, .int 1, .int k, v8], [.int n, .int k], M, J)) (fl_n 2 rfl) <|
 fl_not (fl_ic (t := 157) rfl rfl) fl_nlt (fun h1 =>
  fl_tr (s' := (96, [.ref 81, .int r, .int i, .int to, .int j, .int n, .int 1, .int (k + 1), .int ((n - 1) - k)], [], (fl_u M 88 ((((40 * to) + j) + ((n - 1) - k)).toNatClampNeg) (M 88 ((((40 * r) + i) + ((n - 1) - k)).toNatClampNeg))), J)) (fl_n 31 rfl) <|
  fl_rfl) (fun h1 =>
  fl_tr (s' := (158, [.ref 81, .int r, .int i, .int to, .int j, .int n, .int 1, .int k, v8], [.int 1], M, J)) (fl_n 1 rfl) <|
  fl_rfl)
theorem lp_113f (M : fl_M) (J : fl_J) (r i to j n : Int32) (h1 : (¬ (r < 0)) ∧ (¬ (5 < r))) (h2 : (¬ (to < 0)) ∧ (¬ (5 < to))) (h3 : ¬ n < 0) (h4 : (¬ (i < 0)) ∧ (¬ ((M 87 r.toNatClampNeg).toInt64 < (i.toInt64 + n.toInt64)))) (h5 : (¬ (j < 0)) ∧ (¬ ((M 87 to.toNatClampNeg).toInt64 < (j.toInt64 + n.toInt64)))) (hc : ∀ q, q < 6 → (M 87 q).toInt ≤ 40) (h6 : ¬ i < j) : fl_dn fB113 (96, [.ref 81, .int r, .int i, .int to, .int j, .int n, .int 0, .int 0, .null], [], M, J) (some (.int 1), fl_k M 88 (40 * r.toNatClampNeg + i.toNatClampNeg) (40 * to.toNatClampNeg + j.toNatClampNeg) 0 n.toNatClampNeg, J) := by
  have r1 := fi_ge.mp h1.1
  have r2 := fi_ge.mp h1.2
  have t1 := fi_ge.mp h2.1
  have t2 := fi_ge.mp h2.2
  have n1 := fi_ge.mp h3
  have i1 := fi_ge.mp h4.1
  have j1 := fi_ge.mp h5.1
  have i2 := h4.2
  have j2 := h5.2
  rw [fi_span] at i2 j2
  rw [fi_i0] at r1 t1 n1 i1 j1
  rw [fi_i5] at r2 t2
  have cr := fi_cl r
  have ct := fi_cl to
  have ci := fi_cl i
  have cj := fi_cl j
  have cn := fi_cl n
  have s1 := hc r.toNatClampNeg (by omega)
  have s2 := hc to.toNatClampNeg (by omega)
  have hb := fi_bd n
  have g1 := fi_ge.mp h6
  refine fl_itd (S := fun m => (96, [.ref 81, .int r, .int i, .int to, .int j, .int n, .int 0, .int (Int32.ofNat m), (match m with | 0 => .null | m + 1 => .int (Int32.ofNat m))], [], fl_k M 88 (40 * r.toNatClampNeg + i.toNatClampNeg) (40 * to.toNatClampNeg + j.toNatClampNeg) 0 m, J)) n.toNatClampNeg (fun m hm => ?_) ?_ ?_
  · refine fl_ge (sg_113f _ J r i to j n (Int32.ofNat m) _) ?_
    have e := fi_ti (m := m) (by omega)
    have ea := fi_at (m := m) (by omega)
    rw [if_pos ((fi_lt (by omega)).mpr hm), fi_40b r1 r2 i1 (by omega) (by omega) (by omega), fi_40b t1 t2 j1 (by omega) (by omega) (by omega), ea, fi_s, fl_kf _ _ _ _ _ (by omega)]
  · rw [fl_k0]
    rfl
  · refine fl_td (sg_113f _ J r i to j n _ _) ?_
    rw [if_neg (fun z => absurd ((fi_lt (by omega)).mp z) (by omega))]
    exact fl_rt rfl (fun _ => rfl) rfl
theorem lp_113b (M : fl_M) (J : fl_J) (r i to j n : Int32) (h1 : (¬ (r < 0)) ∧ (¬ (5 < r))) (h2 : (¬ (to < 0)) ∧ (¬ (5 < to))) (h3 : ¬ n < 0) (h4 : (¬ (i < 0)) ∧ (¬ ((M 87 r.toNatClampNeg).toInt64 < (i.toInt64 + n.toInt64)))) (h5 : (¬ (j < 0)) ∧ (¬ ((M 87 to.toNatClampNeg).toInt64 < (j.toInt64 + n.toInt64)))) (hc : ∀ q, q < 6 → (M 87 q).toInt ≤ 40) (h6 : i < j) : fl_dn fB113 (96, [.ref 81, .int r, .int i, .int to, .int j, .int n, .int 1, .int 0, .null], [], M, J) (some (.int 1), fl_k M 88 (40 * r.toNatClampNeg + i.toNatClampNeg) (40 * to.toNatClampNeg + j.toNatClampNeg) 0 n.toNatClampNeg, J) := by
  have r1 := fi_ge.mp h1.1
  have r2 := fi_ge.mp h1.2
  have t1 := fi_ge.mp h2.1
  have t2 := fi_ge.mp h2.2
  have n1 := fi_ge.mp h3
  have i1 := fi_ge.mp h4.1
  have j1 := fi_ge.mp h5.1
  have i2 := h4.2
  have j2 := h5.2
  rw [fi_span] at i2 j2
  rw [fi_i0] at r1 t1 n1 i1 j1
  rw [fi_i5] at r2 t2
  have cr := fi_cl r
  have ct := fi_cl to
  have ci := fi_cl i
  have cj := fi_cl j
  have cn := fi_cl n
  have s1 := hc r.toNatClampNeg (by omega)
  have s2 := hc to.toNatClampNeg (by omega)
  have hb := fi_bd n
  have g1 := fi_l.mp h6
  refine fl_itd (S := fun m => (96, [.ref 81, .int r, .int i, .int to, .int j, .int n, .int 1, .int (Int32.ofNat m), (match m with | 0 => .null | m + 1 => .int (n - 1 - Int32.ofNat m))], [], fl_k M 88 (40 * r.toNatClampNeg + i.toNatClampNeg) (40 * to.toNatClampNeg + j.toNatClampNeg) (n.toNatClampNeg - m) n.toNatClampNeg, J)) n.toNatClampNeg (fun m hm => ?_) ?_ ?_
  · refine fl_ge (sg_113b _ J r i to j n (Int32.ofNat m) _) ?_
    have e := fi_ti (m := m) (by omega)
    have ea := fi_at (m := m) (by omega)
    have e1 : (n - 1).toInt = n.toInt - 1 := by
      rw [fi_sub (by rw [fi_i1]; omega) (by rw [fi_i1]; omega), fi_i1]
    have e2 : (n - 1 - Int32.ofNat m).toInt = n.toInt - 1 - m := by
      rw [fi_sub (by omega) (by omega), e1, e]
    have e3 : (n - 1 - Int32.ofNat m).toNatClampNeg = n.toNatClampNeg - (m + 1) := by
      rw [fi_cl, e2]
      omega
    have e4 : n.toNatClampNeg - m = n.toNatClampNeg - (m + 1) + 1 := by omega
    rw [if_pos ((fi_lt (by omega)).mpr hm), fi_40b r1 r2 i1 (by omega) (by omega) (by omega), fi_40b t1 t2 j1 (by omega) (by omega) (by omega), e3, e4, fi_s, fl_kb _ _ _ _ _ _ (by omega) (by omega)]
  · rw [show n.toNatClampNeg - 0 = n.toNatClampNeg from rfl, fl_k0]
    rfl
  · refine fl_td (sg_113b _ J r i to j n _ _) ?_
    rw [if_neg (fun z => absurd ((fi_lt (by omega)).mp z) (by omega)), Nat.sub_self]
    exact fl_rt rfl (fun _ => rfl) rfl
theorem cc_113 (M : fl_M) (J : fl_J) (r i to j n : Int32) (hc : ∀ q, q < 6 → (M 87 q).toInt ≤ 40) : fl_C 113 [.ref 81, .int r, .int i, .int to, .int j, .int n] M J (some (.int (if (¬ (r < 0)) ∧ (¬ (5 < r)) then (if (¬ (to < 0)) ∧ (¬ (5 < to)) then (if n < 0 then (-3) else (if (M 87 r.toNatClampNeg) < 0 then (-3) else (if (M 87 to.toNatClampNeg) < 0 then (-3) else (if (¬ (i < 0)) ∧ (¬ (((M 87 r.toNatClampNeg).toInt64) < (i.toInt64 + n.toInt64))) then (if (¬ (j < 0)) ∧ (¬ (((M 87 to.toNatClampNeg).toInt64) < (j.toInt64 + n.toInt64))) then (if i < j then 1 else 1) else (-3)) else (-3))))) else (-1)) else (-1))), (if (¬ (r < 0)) ∧ (¬ (5 < r)) then (if (¬ (to < 0)) ∧ (¬ (5 < to)) then (if n < 0 then (fl_u (fl_u M 81 14 5) 91 5 ((M 91 5) + 1)) else (if (M 87 r.toNatClampNeg) < 0 then (fl_u (fl_u M 81 14 1) 91 1 ((M 91 1) + 1)) else (if (M 87 to.toNatClampNeg) < 0 then (fl_u (fl_u M 81 14 1) 91 1 ((M 91 1) + 1)) else (if (¬ (i < 0)) ∧ (¬ (((M 87 r.toNatClampNeg).toInt64) < (i.toInt64 + n.toInt64))) then (if (¬ (j < 0)) ∧ (¬ (((M 87 to.toNatClampNeg).toInt64) < (j.toInt64 + n.toInt64))) then (fl_k M 88 (40 * r.toNatClampNeg + i.toNatClampNeg) (40 * to.toNatClampNeg + j.toNatClampNeg) 0 n.toNatClampNeg) else (fl_u (fl_u M 81 14 2) 91 2 ((M 91 2) + 1))) else (fl_u (fl_u M 81 14 2) 91 2 ((M 91 2) + 1)))))) else M) else M), J) :=
 fl_Co (B := fB113) rfl rfl <|
 fl_td (s' := (1, [.ref 81, .int r, .int i, .int to, .int j, .int n, .null, .null, .null], [.int r], M, J)) (fl_n 1 rfl) <|
 fl_td (s' := (4, [.ref 81, .int r, .int i, .int to, .int j, .int n, .null, .null, .null], [.int (if (¬ (r < 0)) ∧ (¬ (5 < r)) then 1 else 0)], M, J)) (fl_cs (o := some (.int (if (¬ (r < 0)) ∧ (¬ (5 < r)) then 1 else 0))) rfl rfl rfl (cc_104 M J r) rfl) <|
 fl_dnot (fl_if (t := 14) rfl rfl) fl_b0 (fun h1 =>
  fl_td (s' := (8, [.ref 81, .int r, .int i, .int to, .int j, .int n, .null, .null, .null], [.int to], M, J)) (fl_n 1 rfl) <|
  fl_td (s' := (11, [.ref 81, .int r, .int i, .int to, .int j, .int n, .null, .null, .null], [.int (if (¬ (to < 0)) ∧ (¬ (5 < to)) then 1 else 0)], M, J)) (fl_cs (o := some (.int (if (¬ (to < 0)) ∧ (¬ (5 < to)) then 1 else 0))) rfl rfl rfl (cc_104 M J to) rfl) <|
  fl_dtwo (fl_if (t := 16) rfl rfl) fl_b1 (fun h2 =>
   fl_td (s' := (18, [.ref 81, .int r, .int i, .int to, .int j, .int n, .null, .null, .null], [.int n], M, J)) (fl_n 1 rfl) <|
   fl_dnot (fl_if (t := 27) rfl rfl) fl_nlt (fun h3 =>
    fl_td (s' := (23, [.ref 81, .int r, .int i, .int to, .int j, .int n, .null, .null, .null], [.int 5, .ref 81], M, J)) (fl_n 2 rfl) <|
    fl_td (s' := (26, [.ref 81, .int r, .int i, .int to, .int j, .int n, .null, .null, .null], [.int (-3)], (fl_u (fl_u M 81 14 5) 91 5 ((M 91 5) + 1)), J)) (fl_cv (o := some (.int (-3))) rfl rfl rfl rfl (cc_106 M J 5) rfl) <|
    fl_rt rfl (fun _ => rfl) (by first | (simp only [if_pos h1, if_pos h2, if_pos h3]; done) | rfl)) (fun h3 =>
    fl_td (s' := (33, [.ref 81, .int r, .int i, .int to, .int j, .int n, .null, .null, .null], [.int (M 87 r.toNatClampNeg)], M, J)) (fl_n 4 rfl) <|
    fl_dtwo (fl_if (t := 45) rfl rfl) fl_cT (fun h4 =>
     fl_td (s' := (47, [.ref 81, .int r, .int i, .int to, .int j, .int n, .null, .null, .null], [.int 1, .ref 81], M, J)) (fl_n 2 rfl) <|
     fl_td (s' := (50, [.ref 81, .int r, .int i, .int to, .int j, .int n, .null, .null, .null], [.int (-3)], (fl_u (fl_u M 81 14 1) 91 1 ((M 91 1) + 1)), J)) (fl_cv (o := some (.int (-3))) rfl rfl rfl rfl (cc_106 M J 1) rfl) <|
     fl_rt rfl (fun _ => rfl) (by first | (simp only [if_pos h1, if_pos h2, if_neg h3, if_pos h4]; done) | rfl)) (fun h4 =>
     fl_td (s' := (42, [.ref 81, .int r, .int i, .int to, .int j, .int n, .null, .null, .null], [.int (M 87 to.toNatClampNeg)], M, J)) (fl_n 4 rfl) <|
     fl_dnot (fl_if (t := 51) rfl rfl) fl_nlt (fun h5 =>
      fl_td (s' := (47, [.ref 81, .int r, .int i, .int to, .int j, .int n, .null, .null, .null], [.int 1, .ref 81], M, J)) (fl_n 2 rfl) <|
      fl_td (s' := (50, [.ref 81, .int r, .int i, .int to, .int j, .int n, .null, .null, .null], [.int (-3)], (fl_u (fl_u M 81 14 1) 91 1 ((M 91 1) + 1)), J)) (fl_cv (o := some (.int (-3))) rfl rfl rfl rfl (cc_106 M J 1) rfl) <|
      fl_rt rfl (fun _ => rfl) (by first | (simp only [if_pos h1, if_pos h2, if_neg h3, if_neg h4, if_pos h5]; done) | rfl)) (fun h5 =>
      fl_td (s' := (56, [.ref 81, .int r, .int i, .int to, .int j, .int n, .null, .null, .null], [.int n, .int i, .int r, .ref 81], M, J)) (fl_n 4 rfl) <|
      fl_td (s' := (59, [.ref 81, .int r, .int i, .int to, .int j, .int n, .null, .null, .null], [.int (if (¬ (i < 0)) ∧ (¬ (((M 87 r.toNatClampNeg).toInt64) < (i.toInt64 + n.toInt64))) then 1 else 0)], M, J)) (fl_cv (o := some (.int (if (¬ (i < 0)) ∧ (¬ (((M 87 r.toNatClampNeg).toInt64) < (i.toInt64 + n.toInt64))) then 1 else 0))) rfl rfl rfl rfl (cc_114 M J r i n) rfl) <|
      fl_dnot (fl_if (t := 74) rfl rfl) fl_b0 (fun h6 =>
       fl_td (s' := (68, [.ref 81, .int r, .int i, .int to, .int j, .int n, .null, .null, .null], [.int n, .int j, .int to, .ref 81], M, J)) (fl_n 4 rfl) <|
       fl_td (s' := (71, [.ref 81, .int r, .int i, .int to, .int j, .int n, .null, .null, .null], [.int (if (¬ (j < 0)) ∧ (¬ (((M 87 to.toNatClampNeg).toInt64) < (j.toInt64 + n.toInt64))) then 1 else 0)], M, J)) (fl_cv (o := some (.int (if (¬ (j < 0)) ∧ (¬ (((M 87 to.toNatClampNeg).toInt64) < (j.toInt64 + n.toInt64))) then 1 else 0))) rfl rfl rfl rfl (cc_114 M J to j n) rfl) <|
       fl_dtwo (fl_if (t := 80) rfl rfl) fl_b1 (fun h7 =>
        fl_td (s' := (83, [.ref 81, .int r, .int i, .int to, .int j, .int n, .null, .null, .null], [.int j, .int i], M, J)) (fl_n 2 rfl) <|
        fl_dnot (fl_ic (t := 90) rfl rfl) fl_nlt (fun h8 =>
         fl_td (s' := (96, [.ref 81, .int r, .int i, .int to, .int j, .int n, .int 1, .int 0, .null], [], M, J)) (fl_n 5 rfl) <|
         fl_de (lp_113b M J r i to j n (by assumption) (by assumption) (by assumption) (by assumption) (by assumption) hc (by assumption)) (by first | (simp only [if_pos h1, if_pos h2, if_neg h3, if_neg h4, if_neg h5, if_pos h6, if_pos h7, if_pos h8]; done) | rfl)) (fun h8 =>
         fl_td (s' := (96, [.ref 81, .int r, .int i, .int to, .int j, .int n, .int 0, .int 0, .null], [], M, J)) (fl_n 4 rfl) <|
         fl_de (lp_113f M J r i to j n (by assumption) (by assumption) (by assumption) (by assumption) (by assumption) hc (by assumption)) (by first | (simp only [if_pos h1, if_pos h2, if_neg h3, if_neg h4, if_neg h5, if_pos h6, if_pos h7, if_neg h8]; done) | rfl))) (fun h7 =>
        fl_td (s' := (76, [.ref 81, .int r, .int i, .int to, .int j, .int n, .null, .null, .null], [.int 2, .ref 81], M, J)) (fl_n 2 rfl) <|
        fl_td (s' := (79, [.ref 81, .int r, .int i, .int to, .int j, .int n, .null, .null, .null], [.int (-3)], (fl_u (fl_u M 81 14 2) 91 2 ((M 91 2) + 1)), J)) (fl_cv (o := some (.int (-3))) rfl rfl rfl rfl (cc_106 M J 2) rfl) <|
        fl_rt rfl (fun _ => rfl) (by first | (simp only [if_pos h1, if_pos h2, if_neg h3, if_neg h4, if_neg h5, if_pos h6, if_neg h7]; done) | rfl))) (fun h6 =>
       fl_td (s' := (76, [.ref 81, .int r, .int i, .int to, .int j, .int n, .null, .null, .null], [.int 2, .ref 81], M, J)) (fl_n 2 rfl) <|
       fl_td (s' := (79, [.ref 81, .int r, .int i, .int to, .int j, .int n, .null, .null, .null], [.int (-3)], (fl_u (fl_u M 81 14 2) 91 2 ((M 91 2) + 1)), J)) (fl_cv (o := some (.int (-3))) rfl rfl rfl rfl (cc_106 M J 2) rfl) <|
       fl_rt rfl (fun _ => rfl) (by first | (simp only [if_pos h1, if_pos h2, if_neg h3, if_neg h4, if_neg h5, if_neg h6]; done) | rfl)))))) (fun h2 =>
   fl_td (s' := (15, [.ref 81, .int r, .int i, .int to, .int j, .int n, .null, .null, .null], [.int (-1)], M, J)) (fl_n 1 rfl) <|
   fl_rt rfl (fun _ => rfl) (by first | (simp only [if_pos h1, if_neg h2]; done) | rfl))) (fun h1 =>
  fl_td (s' := (15, [.ref 81, .int r, .int i, .int to, .int j, .int n, .null, .null, .null], [.int (-1)], M, J)) (fl_n 1 rfl) <|
  fl_rt rfl (fun _ => rfl) (by first | (simp only [if_neg h1]; done) | rfl))
