/-! The constructors: their instructions, printed by a program of mine out of the claim; their contracts. -/
def si_t0 : List (Nat × List (Nat × Instr × Nat)) := [(18, [(0, .aload_n 0, 1), (1, .invokespecial 3, 3), (4, .aload_n 0, 1), (5, .iconst 0, 1), (6, .putfield 9, 3), (9, .aload_n 0, 1), (10, .bipush 40, 2), (12, .newarray .int, 2), (14, .putfield 15, 3), (17, .aload_n 0, 1)]),
  (34, [(18, .bipush 40, 2), (20, .newarray .int, 2), (22, .putfield 19, 3), (25, .aload_n 0, 1), (26, .bipush 40, 2), (28, .newarray .int, 2), (30, .putfield 22, 3), (33, .return_, 1)])]
theorem si_d0 : ∀ u ∈ si_t0, ∀ q ∈ u.2, decode prog_2_method_1_code q.1 = .ok q.2 := by decide +kernel
def si_t1 : List (Nat × List (Nat × Instr × Nat)) := [(16, [(0, .aload_n 0, 1), (1, .invokespecial 3, 3), (4, .aload_n 0, 1), (5, .iconst 0, 1), (6, .putfield 9, 3), (9, .aload_n 0, 1), (10, .iconst 0, 1), (11, .putfield 15, 3), (14, .aload_n 0, 1), (15, .iconst 0, 1)]),
  (34, [(16, .putfield 18, 3), (19, .aload_n 0, 1), (20, .bipush (-9), 2), (22, .putfield 21, 3), (25, .aload_n 0, 1), (26, .iconst 0, 1), (27, .putfield 24, 3), (30, .aload_n 0, 1), (31, .bipush 8, 2), (33, .newarray .int, 2)]),
  (55, [(35, .putfield 27, 3), (38, .aload_n 0, 1), (39, .bipush 8, 2), (41, .newarray .int, 2), (43, .putfield 31, 3), (46, .aload_n 0, 1), (47, .bipush 8, 2), (49, .newarray .int, 2), (51, .putfield 34, 3), (54, .aload_n 0, 1)]),
  (72, [(55, .bipush 8, 2), (57, .newarray .int, 2), (59, .putfield 37, 3), (62, .aload_n 0, 1), (63, .iconst 4, 1), (64, .newarray .int, 2), (66, .putfield 40, 3), (69, .aload_n 0, 1), (70, .iconst 4, 1), (71, .newarray .int, 2)]),
  (91, [(73, .putfield 43, 3), (76, .aload_n 0, 1), (77, .iconst 4, 1), (78, .newarray .int, 2), (80, .putfield 46, 3), (83, .aload_n 0, 1), (84, .iconst 4, 1), (85, .newarray .int, 2), (87, .putfield 49, 3), (90, .return_, 1)])]
theorem si_d1 : ∀ u ∈ si_t1, ∀ q ∈ u.2, decode prog_3_method_1_code q.1 = .ok q.2 := by decide +kernel
def si_t2 : List (Nat × List (Nat × Instr × Nat)) := [(18, [(0, .aload_n 0, 1), (1, .invokespecial 1, 3), (4, .aload_n 0, 1), (5, .bipush 6, 2), (7, .newarray .int, 2), (9, .putfield 9, 3), (12, .aload_n 0, 1), (13, .bipush 6, 2), (15, .bipush 40, 2), (17, .multianewarray 13 2, 4)]),
  (40, [(21, .putfield 15, 3), (24, .aload_n 0, 1), (25, .iconst 4, 1), (26, .newarray .int, 2), (28, .putfield 18, 3), (31, .aload_n 0, 1), (32, .iconst 4, 1), (33, .bipush 60, 2), (35, .multianewarray 21 2, 4), (39, .putfield 23, 3)]),
  (62, [(42, .aload_n 0, 1), (43, .new 26, 3), (46, .dup, 1), (47, .invokespecial 28, 3), (50, .putfield 29, 3), (53, .aload_n 0, 1), (54, .new 26, 3), (57, .dup, 1), (58, .invokespecial 28, 3), (61, .putfield 33, 3)]),
  (84, [(64, .aload_n 0, 1), (65, .new 26, 3), (68, .dup, 1), (69, .invokespecial 28, 3), (72, .putfield 36, 3), (75, .aload_n 0, 1), (76, .new 39, 3), (79, .dup, 1), (80, .invokespecial 41, 3), (83, .putfield 42, 3)]),
  (107, [(86, .aload_n 0, 1), (87, .iconst 3, 1), (88, .anewarray 39, 3), (91, .putfield 46, 3), (94, .aload_n 0, 1), (95, .bipush 20, 2), (97, .bipush 8, 2), (99, .multianewarray 13 2, 4), (103, .putfield 50, 3), (106, .aload_n 0, 1)]),
  (125, [(107, .bipush 6, 2), (109, .newarray .int, 2), (111, .putfield 53, 3), (114, .aload_n 0, 1), (115, .iconst 0, 1), (116, .putfield 56, 3), (119, .aload_n 0, 1), (120, .iconst 0, 1), (121, .putfield 60, 3), (124, .aload_n 0, 1)]),
  (140, [(125, .lconst 0, 1), (126, .putfield 63, 3), (129, .aload_n 0, 1), (130, .lconst 1, 1), (131, .putfield 67, 3), (134, .iconst 0, 1), (135, .istore_n 1, 1), (136, .iload_n 1, 1), (137, .bipush 6, 2), (139, .if_icmp .ge 16, 3)]),
  (158, [(142, .aload_n 0, 1), (143, .getfield 9, 3), (146, .iload_n 1, 1), (147, .iconst (-1), 1), (148, .iastore, 1), (149, .iinc 1 1, 3), (152, .goto (-16), 3), (155, .iconst 0, 1), (156, .istore_n 1, 1), (157, .iload_n 1, 1)]),
  (176, [(158, .iconst 4, 1), (159, .if_icmp .ge 16, 3), (162, .aload_n 0, 1), (163, .getfield 18, 3), (166, .iload_n 1, 1), (167, .iconst (-1), 1), (168, .iastore, 1), (169, .iinc 1 1, 3), (172, .goto (-15), 3), (175, .iconst 0, 1)]),
  (192, [(176, .istore_n 1, 1), (177, .iload_n 1, 1), (178, .iconst 3, 1), (179, .if_icmp .ge 32, 3), (182, .aload_n 0, 1), (183, .getfield 46, 3), (186, .iload_n 1, 1), (187, .new 39, 3), (190, .dup, 1), (191, .invokespecial 41, 3)]),
  (212, [(194, .aastore, 1), (195, .aload_n 0, 1), (196, .getfield 46, 3), (199, .iload_n 1, 1), (200, .aaload, 1), (201, .iconst (-1), 1), (202, .putfield 70, 3), (205, .iinc 1 1, 3), (208, .goto (-31), 3), (211, .return_, 1)])]
theorem si_d2 : ∀ u ∈ si_t2, ∀ q ∈ u.2, decode prog_1_method_1_code q.1 = .ok q.2 := by decide +kernel
def si_t3 : List (Nat × List (Nat × Instr × Nat)) := [(19, [(0, .aload_n 0, 1), (1, .invokespecial 1, 3), (4, .aload_n 0, 1), (5, .sipush 3800, 3), (8, .newarray .int, 2), (10, .putfield 7, 3), (13, .aload_n 0, 1), (14, .bipush 8, 2), (16, .newarray .int, 2), (18, .putfield 13, 3)]),
  (38, [(21, .aload_n 0, 1), (22, .bipush 8, 2), (24, .newarray .int, 2), (26, .putfield 16, 3), (29, .aload_n 0, 1), (30, .iconst 4, 1), (31, .newarray .int, 2), (33, .putfield 19, 3), (36, .aload_n 0, 1), (37, .iconst 4, 1)]),
  (53, [(38, .newarray .int, 2), (40, .putfield 22, 3), (43, .aload_n 0, 1), (44, .bipush 6, 2), (46, .newarray .int, 2), (48, .dup, 1), (49, .iconst 0, 1), (50, .iconst (-1), 1), (51, .iastore, 1), (52, .dup, 1)]),
  (63, [(53, .iconst 1, 1), (54, .iconst (-1), 1), (55, .iastore, 1), (56, .dup, 1), (57, .iconst 2, 1), (58, .iconst (-1), 1), (59, .iastore, 1), (60, .dup, 1), (61, .iconst 3, 1), (62, .iconst (-1), 1)]),
  (73, [(63, .iastore, 1), (64, .dup, 1), (65, .iconst 4, 1), (66, .iconst (-1), 1), (67, .iastore, 1), (68, .dup, 1), (69, .iconst 5, 1), (70, .iconst (-1), 1), (71, .iastore, 1), (72, .putfield 25, 3)]),
  (91, [(75, .aload_n 0, 1), (76, .sipush 240, 3), (79, .newarray .int, 2), (81, .putfield 28, 3), (84, .aload_n 0, 1), (85, .iconst 4, 1), (86, .newarray .int, 2), (88, .dup, 1), (89, .iconst 0, 1), (90, .iconst (-1), 1)]),
  (101, [(91, .iastore, 1), (92, .dup, 1), (93, .iconst 1, 1), (94, .iconst (-1), 1), (95, .iastore, 1), (96, .dup, 1), (97, .iconst 2, 1), (98, .iconst (-1), 1), (99, .iastore, 1), (100, .dup, 1)]),
  (118, [(101, .iconst 3, 1), (102, .iconst (-1), 1), (103, .iastore, 1), (104, .putfield 31, 3), (107, .aload_n 0, 1), (108, .sipush 240, 3), (111, .newarray .int, 2), (113, .putfield 34, 3), (116, .aload_n 0, 1), (117, .lconst 1, 1)]),
  (138, [(118, .putfield 37, 3), (121, .aload_n 0, 1), (122, .bipush 6, 2), (124, .newarray .int, 2), (126, .putfield 41, 3), (129, .aload_n 0, 1), (130, .bipush 8, 2), (132, .newarray .int, 2), (134, .putfield 44, 3), (137, .aload_n 0, 1)]),
  (158, [(138, .bipush 8, 2), (140, .newarray .int, 2), (142, .putfield 47, 3), (145, .aload_n 0, 1), (146, .bipush 12, 2), (148, .newarray .int, 2), (150, .putfield 50, 3), (153, .aload_n 0, 1), (154, .sipush 168, 3), (157, .newarray .int, 2)]),
  (177, [(159, .putfield 53, 3), (162, .aload_n 0, 1), (163, .iconst 4, 1), (164, .newarray .int, 2), (166, .putfield 56, 3), (169, .aload_n 0, 1), (170, .iconst 5, 1), (171, .newarray .int, 2), (173, .putfield 59, 3), (176, .aload_n 0, 1)]),
  (192, [(177, .getfield 7, 3), (180, .iconst 2, 1), (181, .bipush (-9), 2), (183, .iastore, 1), (184, .iconst 1, 1), (185, .istore_n 1, 1), (186, .iload_n 1, 1), (187, .iconst 4, 1), (188, .if_icmp .ge 22, 3), (191, .aload_n 0, 1)]),
  (208, [(192, .getfield 7, 3), (195, .sipush 944, 3), (198, .iload_n 1, 1), (199, .imul, 1), (200, .iconst 0, 1), (201, .iadd, 1), (202, .iconst (-1), 1), (203, .iastore, 1), (204, .iinc 1 1, 3), (207, .goto (-21), 3)]),
  (211, [(210, .return_, 1)])]
theorem si_d3 : ∀ u ∈ si_t3, ∀ q ∈ u.2, decode prog_5_method_1_code q.1 = .ok q.2 := by decide +kernel
def si_stop (k : Nat) : Nat := match k with
  | 0 => 33
  | 1 => 90
  | 2 => 211
  | _ => 210
def si_tb (k : Nat) : List (Nat × List (Nat × Instr × Nat)) := match k with
  | 0 => si_t0
  | 1 => si_t1
  | 2 => si_t2
  | _ => si_t3
theorem si_dec : ∀ (k : Nat) (pc : Nat) (i : Instr) (n : Nat), sm_ch (si_tb k) pc = some (i, n) → decode (si_CC k) pc = .ok (i, n)
  | 0, pc, i, n, h => by
    obtain ⟨u, hu, hm⟩ := sm_ch_s h
    exact si_d0 u hu (pc, i, n) hm
  | 1, pc, i, n, h => by
    obtain ⟨u, hu, hm⟩ := sm_ch_s h
    exact si_d1 u hu (pc, i, n) hm
  | 2, pc, i, n, h => by
    obtain ⟨u, hu, hm⟩ := sm_ch_s h
    exact si_d2 u hu (pc, i, n) hm
  | k + 3, pc, i, n, h => by
    obtain ⟨u, hu, hm⟩ := sm_ch_s h
    exact si_d3 u hu (pc, i, n) hm
def si_nw (o x : Nat) : Option (Nat × List Value) := match o, x with
  | 2, 26 => some (1, si_df 1)
  | 2, 39 => some (0, si_df 0)
  | 4, 7 => some (2, si_df 2)
  | 4, 10 => some (3, si_df 3)
  | _, _ => none
def si_mn (o x : Nat) : Option Nat := match o, x with
  | 2, 13 => some 2
  | 2, 21 => some 3
  | _, _ => none
def si_an (o x : Nat) : Bool := match o, x with
  | 2, 39 => true
  | _, _ => false
def si_sp (o x : Nat) : Option (Option Nat) := match o, x with
  | 0, 3 => some none
  | 1, 3 => some none
  | 2, 1 => some none
  | 3, 1 => some none
  | 2, 28 => some (some 1)
  | 2, 41 => some (some 0)
  | 4, 9 => some (some 2)
  | 4, 12 => some (some 3)
  | _, _ => none
def si_B (k : Nat) : si_P := (fun pc => sm_ch (si_tb k) pc, sm_Kn k (si_ML k) none, si_nw k, si_mn k, si_an k, si_sp k, k, si_c1 k, si_s1 k)
def si_wl : List Jvm.Cond := [.initialized "MiceRegisters$Deeds", .initialized "MiceRegisters$Register", .initialized "MiceRegisters", .initialized "MiceRegistersModel", .instantiable "MiceRegisters$Deeds" 4, .instantiable "MiceRegisters$Register" 13, .instantiable "MiceRegisters" 15, .instantiable "MiceRegistersModel" 27,
  .classLink "MiceRegisters" 39 "MiceRegisters$Deeds", .classLink "MiceRegisters" 26 "MiceRegisters$Register", .classLink "MiceRegistersLaw" 7 "MiceRegisters", .classLink "MiceRegistersLaw" 10 "MiceRegistersModel", .classLink "MiceRegisters" 13 "[[I", .classLink "MiceRegisters" 21 "[[B", .arrayClass .int, .arrayClass .byte,
  .methodLink "MiceRegisters$Deeds" 3 Lib.objectInit, .methodLink "MiceRegisters$Register" 3 Lib.objectInit, .methodLink "MiceRegisters" 1 Lib.objectInit, .methodLink "MiceRegistersModel" 1 Lib.objectInit, .instanceMethod Lib.objectInit, .code Lib.objectInit ⟨#[0xb1]⟩ 1 none,
  .instanceMethod (si_Y 0), .instanceMethod (si_Y 1), .instanceMethod (si_Y 2), .instanceMethod (si_Y 3), .methodLink "MiceRegistersLaw" 9 (si_Y 2), .methodLink "MiceRegistersLaw" 12 (si_Y 3), .code (si_Y 0) (si_CC 0) 1 none, .code (si_Y 1) (si_CC 1) 1 none, .code (si_Y 2) (si_CC 2) 2 none, .code (si_Y 3) (si_CC 3) 2 none]
theorem si_wk : ∀ w ∈ si_wl, w ∈ sm_tb := sm_in [82, 81, 80, 83, 160, 99, 87, 656, 159, 98, 86, 655, 94, 96, 157, 158, 164, 103, 91, 660, 92, 93, 162, 101, 89, 658, 88, 657, 163, 102, 90, 659] (by decide +kernel)
theorem si_nf {o : Nat} {args : Array Value} {s : State} (hw : ∀ w ∈ sm_tb, w.before args s = true) {B : si_P} (h1 : B.2.2.1 = si_nw o) (h2 : B.2.2.2.1 = si_mn o) (h3 : B.2.2.2.2.1 = si_an o) (h4 : B.2.2.2.2.2.1 = si_sp o) : si_NF B (sm_own o) args s := by
  have V : ∀ (j : Nat) (w : Jvm.Cond), si_wl[j]? = some w → w.before args s = true := fun j w h => hw w (si_wk w (List.mem_of_getElem? h))
  refine ⟨fun x q hq => ?_, V 14 _ rfl, V 15 _ rfl, fun x t ht => ?_, fun x hx => ?_, fun x hx => ?_, V 20 _ rfl, V 21 _ rfl⟩
  · rw [h1] at hq
    unfold si_nw at hq
    split at hq
    · cases hq
      exact ⟨rfl, by decide, V 9 _ rfl, V 5 _ rfl, V 1 _ rfl⟩
    · cases hq
      exact ⟨rfl, by decide, V 8 _ rfl, V 4 _ rfl, V 0 _ rfl⟩
    · cases hq
      exact ⟨rfl, by decide, V 10 _ rfl, V 6 _ rfl, V 2 _ rfl⟩
    · cases hq
      exact ⟨rfl, by decide, V 11 _ rfl, V 7 _ rfl, V 3 _ rfl⟩
    · cases hq
  · rw [h2] at ht
    unfold si_mn at ht
    split at ht
    · cases ht
      exact Or.inl ⟨rfl, V 12 _ rfl⟩
    · cases ht
      exact Or.inr ⟨rfl, V 13 _ rfl⟩
    · cases ht
  · rw [h3] at hx
    unfold si_an at hx
    split at hx
    · exact V 8 _ rfl
    · cases hx
  · rw [h4] at hx
    unfold si_sp at hx
    split at hx
    · exact V 16 _ rfl
    · exact V 17 _ rfl
    · exact V 18 _ rfl
    · exact V 19 _ rfl
    · cases hx
    · cases hx
    · cases hx
    · cases hx
    · cases hx
theorem si_wsk : ∀ k, k < 4 → ∀ w ∈ si_ws k, w ∈ sm_tb := by
  intro k hk w hw
  unfold si_ws at hw
  rcases List.mem_cons.mp hw with rfl | hw
  · match k, hk with
    | 0, _ => exact si_wk _ (List.mem_of_getElem? (i := 28) rfl)
    | 1, _ => exact si_wk _ (List.mem_of_getElem? (i := 29) rfl)
    | 2, _ => exact si_wk _ (List.mem_of_getElem? (i := 30) rfl)
    | 3, _ => exact si_wk _ (List.mem_of_getElem? (i := 31) rfl)
    | n + 4, h => omega
  · exact hw
theorem si_calB {R : Room} {s : State} {args : Array Value} {Ts : List Jvm.Cond} (hts : ∀ w ∈ Ts, w.before args s = true) (hTb : ∀ w ∈ sm_tb, w ∈ Ts) (hN : si_Ns s) {k : Nat} (hR : 2 ≤ k → 2 ≤ R.frames ∧ 200 ≤ R.locals) (hk : k < 4) : si_Cal R s args (sm_own k) (si_B k) := by
  have V : ∀ (j : Nat) (w : Jvm.Cond), si_wl[j]? = some w → w.before args s = true := fun j w h => hts w (hTb w (si_wk w (List.mem_of_getElem? h)))
  intro x k' h
  have h : si_sp k x = some (some k') := h
  unfold si_sp at h
  split at h
  · cases h
  · cases h
  · cases h
  · cases h
  · cases h
    obtain ⟨r1, r2⟩ := hR (by decide)
    exact ⟨by decide, by decide, rfl, V 23 _ rfl, Or.inl ⟨"MiceRegisters", va_cnB 0 hts (sm_good sm_tb_good hTb (si_wsk 1 (by decide))) rfl rfl rfl hN.1 (V 1 _ rfl) ⟨by decide, by decide, by decide⟩ ⟨r1, by show 8 + (1 + 11) + 100 ≤ R.locals; omega⟩⟩⟩
  · cases h
    obtain ⟨r1, r2⟩ := hR (by decide)
    exact ⟨by decide, by decide, rfl, V 22 _ rfl, Or.inl ⟨"MiceRegisters", va_cnB 0 hts (sm_good sm_tb_good hTb (si_wsk 0 (by decide))) rfl rfl rfl hN.2.1 (V 0 _ rfl) ⟨by decide, by decide, by decide⟩ ⟨r1, by show 8 + (1 + 11) + 100 ≤ R.locals; omega⟩⟩⟩
  · exact absurd hk (by decide)
  · exact absurd hk (by decide)
  · cases h
theorem si_ret : ∀ k, k < 4 → decode (si_CC k) (si_stop k) = .ok (.return_, 1) := by
  intro k hk
  match k, hk with
  | 0, _ => exact si_dec 0 _ _ _ (by decide +kernel)
  | 1, _ => exact si_dec 1 _ _ _ (by decide +kernel)
  | 2, _ => exact si_dec 2 _ _ _ (by decide +kernel)
  | 3, _ => exact si_dec 3 _ _ _ (by decide +kernel)
  | n + 4, h => omega
set_option maxHeartbeats 4000000 in
theorem si_met {l : Launch} {D : va_G} {cid : Nat → ClassId} {ad : Nat → Nat} {X : si_X} {k a : Nat} {hh hhf : List si_E} {lvf : sm_L} (hk : k < 4) (hX : ∀ k a hh hh' ad, X k a hh = some hh' → si_C l D cid ad k hh a hh') (hr : si_rn (si_B k) X (si_stop k) (si_F k) 0 [(0, .ref a)] [] hh = some (lvf, hhf)) : si_C l D cid ad k hh a hhf := by
  intro sz
  refine Met.ofW (cc := si_CC k) (maxL := si_ML k) (ret := none) ?_ rfl ?_
  · match k, hk with
    | 0, _ => decide
    | 1, _ => decide
    | 2, _ => decide
    | 3, _ => decide
    | n + 4, h => omega
  intro p e s m args below meth c s₁ Bd hml hv
  obtain ⟨rfl, ⟨hsz, hP, hK, hD0, hZ, hT, hN⟩, hN2⟩ := hv
  have hx := Bd.exec
  have hb := Bd.bytes
  have hrr := Bd.returns
  have hts := atoms_spec (ws := si_ws k) Bd.pre
  have hown : s.vm.findClass (sm_own k) = some m.cls := findClass_of_methodNamed Bd.named
  have hin : meth.name = "<init>" := (name_of_methodNamed Bd.named Bd.method).1
  subst hsz
  have hD := hD0.self (sz := s.heap.size)
  generalize hAe : va_A (sm_w cid ad (si_h hh)) s.heap.size = A at hD hZ hT ⊢
  have hA : ∀ q : Nat, s.heap.size ≤ q → A q := fun q h => by rw [← hAe]; exact Or.inr h
  have hS : va_S A s.heap s.heap [] := va_S.rf
  have hML : 1 ≤ si_ML k := by
    unfold si_ML
    split <;> decide
  have hl := lv_entry [.ref (ad a)] (n := si_ML k) hML
  rw [lg_entry_eq]
  generalize (lg_sl [Value.ref (ad a)] ++ List.replicate (si_ML k - (lg_sl [Value.ref (ad a)]).length) Slot.unset).toArray = ls at hl ⊢
  have hTb : ∀ w ∈ sm_tb, w ∈ si_ws k := fun w hw => List.mem_cons_of_mem _ hw
  have hfr : 1 ≤ (si_rm k).frames ∧ 100 ≤ (si_rm k).locals := by
    unfold si_rm
    constructor
    · show 1 ≤ if k < 2 then 1 else 2
      split <;> omega
    · show 100 ≤ if k < 2 then 100 else 200
      split <;> omega
  have O := sm_Ook k (si_ML k) (by omega) (fun _ => none) none none
  have E : ∀ ad' : Nat → Nat, ad' 998 = ad 998 → ad' 999 = ad 999 → sm_Env p (headSpec (si_ws k) (si_rm k)).room s m [Value.ref (ad a)].toArray c (si_CC k) (sm_own k) D sm_cl cid ad' (si_ws k) (si_B k).2.1 A := fun ad' _ h9 =>
    sm_env (p := p) (R := (headSpec (si_ws k) (si_rm k)).room) (A := A) (cid := cid) (ad := ad') (D := D) O (Ts := si_ws k) hTb hts hx hb hown hml hK (by rw [h9]; exact hZ) (by rw [h9]; exact hT) (fun q hq => by cases hq) hfr hN
  refine si_sims (B := si_B k) (o := k) (nL := si_ML k) (scr := none) (X := X) (stop := si_stop k) (b0 := ad 998) (k0 := ad 999) (n0 := hh.length) (ad0 := ad) (lvf := lvf) (hhf := hhf) E rfl rfl (by omega) hA (si_nf (fun w hw => hts w (hTb w hw)) rfl rfl rfl rfl) hN2 hTb (fun _ => hin) (fun pc i n h => si_dec k pc i n h) (si_calB hts hTb hN2 (fun h2 => by
    show 2 ≤ (if k < 2 then 1 else 2) ∧ 200 ≤ (if k < 2 then 100 else 200)
    rw [if_neg (by omega), if_neg (by omega)]
    exact ⟨Nat.le_refl _, Nat.le_refl _⟩) hk) hX ?_ (si_F k) 0 [(0, .ref a)] [] hh ad ls s.heap [] 0 0 rfl rfl (fun _ _ => rfl) (Nat.le_refl _) hr (by show 0 + si_F k * si_c1 k ≤ si_mc k; unfold si_mc; omega) (by show 0 + si_F k * si_s1 k ≤ si_ms k; unfold si_ms; omega) hl hP hD hS
  intro ad' ls H locs cells slots _ _ hag hc1 hc2 hl hP hD hS
  refine W.widen (k := si_mc k) (n := si_ms k) hc1 hc2 ?_
  exact W.vret hx hb hrr (fun t ht hW => by unfold si_Out; rw [hAe]; exact ⟨⟨rfl, ad', hag, by rw [ht]; exact hP, hD⟩, hS.F ht⟩) hS.2.2 (si_ret k hk)
def si_X0 : si_X := fun _ _ _ => none
def si_X1 : si_X := fun k a hh => if k < 2 then (si_rn (si_B k) si_X0 (si_stop k) (si_F k) 0 [(0, .ref a)] [] hh).map (fun q => q.2) else none
def si_X2 : si_X := fun k a hh => if k < 4 then (si_rn (si_B k) si_X1 (si_stop k) (si_F k) 0 [(0, .ref a)] [] hh).map (fun q => q.2) else none
theorem si_x1 {l : Launch} {D : va_G} {cid : Nat → ClassId} : ∀ k a hh hh' ad, si_X1 k a hh = some hh' → si_C l D cid ad k hh a hh' := by
  intro k a hh hh' ad h
  obtain ⟨hk, h⟩ := sm_if h
  obtain ⟨⟨lv, q⟩, hq, h⟩ := Option.map_eq_some_iff.mp h
  cases h
  exact si_met (by omega) (fun _ _ _ _ _ z => by cases z) hq
theorem si_x2 {l : Launch} {D : va_G} {cid : Nat → ClassId} : ∀ k a hh hh' ad, si_X2 k a hh = some hh' → si_C l D cid ad k hh a hh' := by
  intro k a hh hh' ad h
  obtain ⟨hk, h⟩ := sm_if h
  obtain ⟨⟨lv, q⟩, hq, h⟩ := Option.map_eq_some_iff.mp h
  cases h
  exact si_met hk si_x1 hq

