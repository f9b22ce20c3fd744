/-! Tables, printed by a program of mine out of the claim: classes, fields, constants, calls, methods and their instructions. -/
/-- the words that go along with every call -/
def sm_tb : List Jvm.Cond := lw_tbl.filter goodWord
theorem sm_tb_good : sm_tb.all goodWord = true := List.all_eq_true.mpr fun w hw => (List.mem_filter.mp hw).2
theorem sm_tb_sub : ∀ w ∈ sm_tb, w ∈ lw_tbl := fun w hw => (List.mem_filter.mp hw).1
def sm_ck (i : Nat) (w : Jvm.Cond) : Bool := goodWord w && decide (lw_tbl[i]? = some w)
theorem sm_ck_s {i : Nat} {w : Jvm.Cond} (h : sm_ck i w = true) : w ∈ sm_tb := by
  unfold sm_ck at h
  rw [Bool.and_eq_true] at h
  exact List.mem_filter.mpr ⟨List.mem_of_getElem? (of_decide_eq_true h.2), h.1⟩
def sm_cks : List Nat → List Jvm.Cond → Bool
  | i :: is, w :: ws => sm_ck i w && sm_cks is ws
  | _, [] => true
  | [], _ => false
theorem sm_in : ∀ (is : List Nat) {ws : List Jvm.Cond}, sm_cks is ws = true → ∀ w ∈ ws, w ∈ sm_tb
  | _, [], _ => fun w hw => absurd hw List.not_mem_nil
  | [], _ :: _, h => by cases h
  | i :: is, w0 :: ws, h => by
    unfold sm_cks at h
    rw [Bool.and_eq_true] at h
    intro w hw
    rcases List.mem_cons.mp hw with rfl | hw
    · exact sm_ck_s h.1
    · exact sm_in is h.2 w hw
def sm_T0 : u_T := fun k => match k with
  | 0 => ("MiceRegisters$Deeds", "size", "I", false)
  | 1 => ("MiceRegisters$Deeds", "whats", "[I", true)
  | 2 => ("MiceRegisters$Deeds", "lines", "[I", true)
  | _ => ("MiceRegisters$Deeds", "amounts", "[I", true)
def sm_y0 : Nat → FieldType := fun k => match k with
  | 0 => .int
  | 1 => .array (.int)
  | 2 => .array (.int)
  | _ => .array (.int)
theorem sm_nm0 : ∀ a, a < 4 → ∀ b, b < 4 → a ≠ b → (sm_T0 a).2.1 ≠ (sm_T0 b).2.1 := by decide +kernel
theorem sm_ty0 : ∀ k, k < 4 → parseFieldDescriptor (sm_T0 k).2.2.1 = some (sm_y0 k) := by decide +kernel
theorem sm_u0 : ∀ w ∈ u_ws "MiceRegisters$Deeds" sm_T0 4, w ∈ sm_tb := sm_in [173, 175, 177, 179] (by decide +kernel)
def sm_T1 : u_T := fun k => match k with
  | 0 => ("MiceRegisters$Register", "lines", "I", false)
  | 1 => ("MiceRegisters$Register", "mice", "I", false)
  | 2 => ("MiceRegisters$Register", "years", "I", false)
  | 3 => ("MiceRegisters$Register", "catAt", "I", false)
  | 4 => ("MiceRegisters$Register", "waxed", "I", false)
  | 5 => ("MiceRegisters$Register", "wrong", "[I", true)
  | 6 => ("MiceRegisters$Register", "letters", "[I", true)
  | 7 => ("MiceRegisters$Register", "left", "[I", true)
  | 8 => ("MiceRegisters$Register", "cheeses", "[I", true)
  | 9 => ("MiceRegisters$Register", "kinds", "[I", true)
  | 10 => ("MiceRegisters$Register", "teeth", "[I", true)
  | 11 => ("MiceRegisters$Register", "firstPlaces", "[I", true)
  | _ => ("MiceRegisters$Register", "places", "[I", true)
def sm_y1 : Nat → FieldType := fun k => match k with
  | 0 => .int
  | 1 => .int
  | 2 => .int
  | 3 => .int
  | 4 => .int
  | 5 => .array (.int)
  | 6 => .array (.int)
  | 7 => .array (.int)
  | 8 => .array (.int)
  | 9 => .array (.int)
  | 10 => .array (.int)
  | 11 => .array (.int)
  | _ => .array (.int)
theorem sm_nm1 : ∀ a, a < 13 → ∀ b, b < 13 → a ≠ b → (sm_T1 a).2.1 ≠ (sm_T1 b).2.1 := by decide +kernel
theorem sm_ty1 : ∀ k, k < 13 → parseFieldDescriptor (sm_T1 k).2.2.1 = some (sm_y1 k) := by decide +kernel
theorem sm_u1 : ∀ w ∈ u_ws "MiceRegisters$Register" sm_T1 13, w ∈ sm_tb := sm_in [130, 132, 134, 136, 138, 140, 142, 144, 146, 148, 150, 152, 154] (by decide +kernel)
def sm_T2 : u_T := fun k => match k with
  | 0 => ("MiceRegisters", "rowSizes", "[I", true)
  | 1 => ("MiceRegisters", "rows", "[[I", true)
  | 2 => ("MiceRegisters", "textSizes", "[I", true)
  | 3 => ("MiceRegisters", "texts", "[[B", true)
  | 4 => ("MiceRegisters", "now", "LMiceRegisters$Register;", true)
  | 5 => ("MiceRegisters", "aside", "LMiceRegisters$Register;", true)
  | 6 => ("MiceRegisters", "further", "LMiceRegisters$Register;", true)
  | 7 => ("MiceRegisters", "deeds", "LMiceRegisters$Deeds;", true)
  | 8 => ("MiceRegisters", "kept", "[LMiceRegisters$Deeds;", true)
  | 9 => ("MiceRegisters", "whereKindsAre", "[[I", true)
  | 10 => ("MiceRegisters", "findingCounts", "[I", true)
  | 11 => ("MiceRegisters", "latestFinding", "I", false)
  | 12 => ("MiceRegisters", "latestAsked", "I", false)
  | 13 => ("MiceRegisters", "latestUpper", "J", false)
  | _ => ("MiceRegisters", "latestLower", "J", false)
def sm_y2 : Nat → FieldType := fun k => match k with
  | 0 => .array (.int)
  | 1 => .array (.array (.int))
  | 2 => .array (.int)
  | 3 => .array (.array (.byte))
  | 4 => .object "MiceRegisters$Register"
  | 5 => .object "MiceRegisters$Register"
  | 6 => .object "MiceRegisters$Register"
  | 7 => .object "MiceRegisters$Deeds"
  | 8 => .array (.object "MiceRegisters$Deeds")
  | 9 => .array (.array (.int))
  | 10 => .array (.int)
  | 11 => .int
  | 12 => .int
  | 13 => .long
  | _ => .long
theorem sm_nm2 : ∀ a, a < 15 → ∀ b, b < 15 → a ≠ b → (sm_T2 a).2.1 ≠ (sm_T2 b).2.1 := by decide +kernel
theorem sm_ty2 : ∀ k, k < 15 → parseFieldDescriptor (sm_T2 k).2.2.1 = some (sm_y2 k) := by decide +kernel
theorem sm_u2 : ∀ w ∈ u_ws "MiceRegisters" sm_T2 15, w ∈ sm_tb := sm_in [198, 200, 202, 204, 206, 208, 210, 212, 214, 216, 218, 220, 222, 224, 226] (by decide +kernel)
def sm_T3 : u_T := fun k => match k with
  | 0 => ("MiceRegistersModel", "row", "[I", true)
  | 1 => ("MiceRegistersModel", "lines", "I", false)
  | 2 => ("MiceRegistersModel", "wrong", "[I", true)
  | 3 => ("MiceRegistersModel", "letters", "[I", true)
  | 4 => ("MiceRegistersModel", "mice", "I", false)
  | 5 => ("MiceRegistersModel", "kinds", "[I", true)
  | 6 => ("MiceRegistersModel", "teeth", "[I", true)
  | 7 => ("MiceRegistersModel", "sizes", "[I", true)
  | 8 => ("MiceRegistersModel", "items", "[I", true)
  | 9 => ("MiceRegistersModel", "lengths", "[I", true)
  | 10 => ("MiceRegistersModel", "bytes", "[I", true)
  | 11 => ("MiceRegistersModel", "asked", "I", false)
  | 12 => ("MiceRegistersModel", "upper", "J", false)
  | 13 => ("MiceRegistersModel", "lower", "J", false)
  | 14 => ("MiceRegistersModel", "finding", "I", false)
  | 15 => ("MiceRegistersModel", "findings", "[I", true)
  | 16 => ("MiceRegistersModel", "from", "I", false)
  | 17 => ("MiceRegistersModel", "place", "I", false)
  | 18 => ("MiceRegistersModel", "end", "I", false)
  | 19 => ("MiceRegistersModel", "readLines", "I", false)
  | 20 => ("MiceRegistersModel", "readWrong", "[I", true)
  | 21 => ("MiceRegistersModel", "readLetters", "[I", true)
  | 22 => ("MiceRegistersModel", "readMice", "I", false)
  | 23 => ("MiceRegistersModel", "readMouse", "[I", true)
  | 24 => ("MiceRegistersModel", "parts", "[I", true)
  | 25 => ("MiceRegistersModel", "laid", "[I", true)
  | _ => ("MiceRegistersModel", "bests", "[I", true)
def sm_y3 : Nat → FieldType := fun k => match k with
  | 0 => .array (.int)
  | 1 => .int
  | 2 => .array (.int)
  | 3 => .array (.int)
  | 4 => .int
  | 5 => .array (.int)
  | 6 => .array (.int)
  | 7 => .array (.int)
  | 8 => .array (.int)
  | 9 => .array (.int)
  | 10 => .array (.int)
  | 11 => .int
  | 12 => .long
  | 13 => .long
  | 14 => .int
  | 15 => .array (.int)
  | 16 => .int
  | 17 => .int
  | 18 => .int
  | 19 => .int
  | 20 => .array (.int)
  | 21 => .array (.int)
  | 22 => .int
  | 23 => .array (.int)
  | 24 => .array (.int)
  | 25 => .array (.int)
  | _ => .array (.int)
theorem sm_nm3 : ∀ a, a < 27 → ∀ b, b < 27 → a ≠ b → (sm_T3 a).2.1 ≠ (sm_T3 b).2.1 := by decide +kernel
theorem sm_ty3 : ∀ k, k < 27 → parseFieldDescriptor (sm_T3 k).2.2.1 = some (sm_y3 k) := by decide +kernel
theorem sm_u3 : ∀ w ∈ u_ws "MiceRegistersModel" sm_T3 27, w ∈ sm_tb := sm_in [688, 690, 692, 694, 696, 698, 700, 702, 704, 706, 708, 710, 712, 714, 716, 718, 720, 722, 724, 726, 728, 730, 732, 734, 736, 738, 740] (by decide +kernel)
abbrev sm_cl : List vw_C := [("MiceRegisters$Deeds", sm_T0, 4), ("MiceRegisters$Register", sm_T1, 13), ("MiceRegisters", sm_T2, 15), ("MiceRegistersModel", sm_T3, 27)]
def sm_own (o : Nat) : String := match o with
  | 0 => "MiceRegisters$Deeds"
  | 1 => "MiceRegisters$Register"
  | 2 => "MiceRegisters"
  | 3 => "MiceRegistersModel"
  | _ => "MiceRegistersLaw"
def sm_lk {α : Type} (l : List (Nat × α)) (x : Nat) : Option α := match l with
  | [] => none
  | q :: r => match Nat.beq q.1 x with
    | true => some q.2
    | false => sm_lk r x
theorem sm_lk_s {α : Type} {l : List (Nat × α)} {x : Nat} {v : α} (h : sm_lk l x = some v) : (x, v) ∈ l := by
  induction l with
  | nil => cases h
  | cons q r ih =>
    unfold sm_lk at h
    split at h
    · rename_i hq
      cases h
      have hq := Nat.eq_of_beq_eq_true hq
      subst hq
      exact List.mem_cons_self
    · exact List.mem_cons_of_mem _ (ih h)
/-- in chunks, by their upper ends -/
def sm_ch {α : Type} (l : List (Nat × List (Nat × α))) (x : Nat) : Option α := match l with
  | [] => none
  | q :: r => match Nat.blt x q.1 with
    | true => sm_lk q.2 x
    | false => sm_ch r x
theorem sm_ch_s {α : Type} {l : List (Nat × List (Nat × α))} {x : Nat} {v : α} (h : sm_ch l x = some v) : ∃ u ∈ l, (x, v) ∈ u.2 := by
  induction l with
  | nil => cases h
  | cons q r ih =>
    unfold sm_ch at h
    split at h
    · exact ⟨q, List.mem_cons_self, sm_lk_s h⟩
    · obtain ⟨u, hu, hv⟩ := ih h
      exact ⟨u, List.mem_cons_of_mem _ hu, hv⟩

def sm_fl0 : List (Nat × Nat × Nat × Nat) := [(9, 0, 0, 0), (15, 0, 1, 2), (19, 0, 2, 2), (22, 0, 3, 2)]
def sm_fp0 : List Nat := [165, 167, 169, 171]
def sm_ci0 : List (Nat × Int32) := []
def sm_cj0 : List (Nat × Int64) := []
def sm_st0 : List (Nat × Unit) := []
def sm_na0 : List (Nat × Nat) := []
def sm_ca0 : List (Nat × Nat × Nat × Nat × Nat) := []
def sm_cp0 : List Nat := []
def sm_fl1 : List (Nat × Nat × Nat × Nat) := [(9, 1, 0, 0), (15, 1, 1, 0), (18, 1, 2, 0), (21, 1, 3, 0), (24, 1, 4, 0), (27, 1, 5, 2), (31, 1, 6, 2), (34, 1, 7, 2), (37, 1, 8, 2), (40, 1, 9, 2), (43, 1, 10, 2), (46, 1, 11, 2), (49, 1, 12, 2)]
def sm_fp1 : List Nat := [104, 106, 108, 110, 112, 114, 116, 118, 120, 122, 124, 126, 128]
def sm_ci1 : List (Nat × Int32) := []
def sm_cj1 : List (Nat × Int64) := []
def sm_st1 : List (Nat × Unit) := []
def sm_na1 : List (Nat × Nat) := [(82, 2), (52, 1), (68, 0)]
def sm_ca1 : List (Nat × Nat × Nat × Nat × Nat) := [(62, 0, 28, 1, 1), (71, 0, 29, 1, 1), (75, 0, 30, 2, 1), (78, 2, 31, 4, 2), (65, 2, 35, 2, 2), (58, 0, 46, 1, 1), (85, 2, 37, 2, 2)]
def sm_cp1 : List Nat := [340, 344, 348, 355, 393, 417, 625]
def sm_fl2 : List (Nat × Nat × Nat × Nat) := [(192, 1, 0, 0), (111, 1, 1, 0), (283, 1, 2, 0), (159, 1, 3, 0), (274, 1, 4, 0), (268, 1, 5, 2), (271, 1, 6, 2), (179, 1, 7, 2), (156, 1, 8, 2), (126, 1, 9, 2), (143, 1, 10, 2), (314, 1, 11, 2), (204, 1, 12, 2), (70, 0, 0, 0), (327, 0, 1, 2), (330, 0, 2, 2), (332, 0, 3, 2), (9, 2, 0, 2), (15, 2, 1, 2), (18, 2, 2, 2), (23, 2, 3, 2), (29, 2, 4, 2), (33, 2, 5, 2), (36, 2, 6, 2), (42, 2, 7, 2), (46, 2, 8, 2), (50, 2, 9, 2), (53, 2, 10, 2), (56, 2, 11, 0), (60, 2, 12, 0), (63, 2, 13, 1), (67, 2, 14, 1)]
def sm_fp2 : List Nat := [105, 107, 109, 111, 113, 115, 117, 119, 121, 123, 125, 127, 129, 166, 168, 170, 172, 183, 184, 185, 186, 187, 188, 189, 190, 191, 192, 193, 194, 195, 196, 197]
def sm_ci2 : List (Nat × Int32) := [(242, 2147483647)]
def sm_cj2 : List (Nat × Int64) := [(346, 12), (243, 48271), (245, 2147483647), (253, 17), (255, 31)]
def sm_st2 : List (Nat × Unit) := [(317, ())]
def sm_na2 : List (Nat × Nat) := [(92, 3), (338, 0), (343, 1)]
def sm_ca2 : List (Nat × Nat × Nat × Nat × Nat) := [(73, 1, 1, 1, 2), (77, 0, 2, 1, 2), (81, 0, 4, 2, 2), (85, 0, 5, 1, 2), (88, 1, 9, 3, 2), (98, 1, 12, 1, 2), (101, 0, 15, 1, 2), (296, 1, 16, 2, 2), (300, 0, 17, 3, 2), (307, 1, 18, 5, 2), (304, 0, 19, 3, 2), (311, 1, 20, 1, 2), (104, 0, 22, 0, 1), (107, 0, 23, 1, 1), (114, 0, 25, 1, 2), (117, 0, 26, 2, 2), (277, 0, 27, 1, 1), (120, 0, 33, 1, 2), (123, 0, 34, 2, 2), (146, 1, 35, 2, 2), (280, 0, 28, 1, 1), (129, 1, 37, 2, 2), (133, 0, 38, 1, 1), (136, 0, 39, 0, 1), (140, 0, 40, 1, 1), (149, 0, 41, 0, 1), (152, 0, 43, 3, 2), (320, 0, 44, 3, 0), (324, 0, 45, 3, 1), (162, 0, 51, 0, 2), (165, 1, 53, 1, 2), (168, 0, 54, 1, 0), (171, 1, 31, 4, 2), (175, 0, 58, 1, 2), (195, 0, 59, 1, 1), (182, 0, 61, 0, 1), (185, 0, 46, 1, 1), (188, 0, 64, 4, 2), (198, 0, 66, 0, 1), (201, 0, 68, 2, 2), (207, 0, 69, 2, 2), (210, 0, 71, 2, 2), (213, 0, 73, 2, 2), (335, 0, 74, 2, 2), (217, 0, 75, 1, 2), (220, 0, 77, 1, 1), (223, 0, 78, 2, 2), (264, 1, 79, 2, 2), (227, 1, 82, 7, 2), (231, 0, 84, 1, 2), (234, 0, 85, 2, 2), (238, 0, 86, 0, 2), (247, 0, 89, 1, 2), (250, 0, 94, 1, 2), (286, 0, 95, 1, 1), (289, 1, 96, 1, 2), (293, 0, 97, 0, 2), (257, 0, 101, 1, 2), (261, 0, 102, 1, 2)]
def sm_cp2 : List Nat := [233, 236, 244, 248, 264, 278, 289, 293, 296, 300, 303, 307, 316, 320, 328, 332, 336, 362, 366, 370, 373, 378, 381, 385, 389, 394, 402, 406, 410, 440, 448, 451, 463, 468, 472, 480, 488, 493, 501, 509, 513, 521, 529, 533, 537, 546, 550, 554, 565, 573, 577, 581, 597, 617, 621, 626, 629, 647, 651]
def sm_fl3 : List (Nat × Nat × Nat × Nat) := [(7, 3, 0, 2), (147, 3, 1, 0), (13, 3, 2, 2), (16, 3, 3, 2), (150, 3, 4, 0), (19, 3, 5, 2), (22, 3, 6, 2), (25, 3, 7, 2), (28, 3, 8, 2), (31, 3, 9, 2), (34, 3, 10, 2), (66, 3, 11, 0), (262, 3, 12, 1), (37, 3, 13, 1), (62, 3, 14, 0), (41, 3, 15, 2), (103, 3, 16, 0), (106, 3, 17, 0), (109, 3, 18, 0), (122, 3, 19, 0), (44, 3, 20, 2), (47, 3, 21, 2), (125, 3, 22, 0), (50, 3, 23, 2), (53, 3, 24, 2), (56, 3, 25, 2), (59, 3, 26, 2)]
def sm_fp3 : List Nat := [661, 662, 663, 664, 665, 666, 667, 668, 669, 670, 671, 672, 673, 674, 675, 676, 677, 678, 679, 680, 681, 682, 683, 684, 685, 686, 687]
def sm_ci3 : List (Nat × Int32) := [(253, 99999), (265, -99999)]
def sm_cj3 : List (Nat × Int64) := [(69, 5), (75, 3), (186, 4), (209, 9), (211, 2), (216, 20), (218, 7), (220, 40), (239, 10), (254, 320), (275, 12), (289, 2147483646), (291, 48271), (293, 2147483647), (285, 8), (287, 64), (305, 13), (310, 17), (312, 31)]
def sm_st3 : List (Nat × Unit) := []
def sm_na3 : List (Nat × Nat) := []
def sm_ca3 : List (Nat × Nat × Nat × Nat × Nat) := [(77, 1, 104, 1, 3), (71, 1, 105, 3, 3), (81, 0, 106, 1, 3), (85, 0, 107, 2, 3), (89, 0, 109, 2, 3), (93, 0, 110, 1, 3), (96, 0, 114, 3, 3), (100, 1, 117, 1, 3), (144, 0, 120, 1, 3), (134, 0, 121, 0, 3), (119, 0, 122, 0, 3), (112, 0, 123, 0, 3), (138, 0, 124, 0, 3), (116, 0, 125, 2, 3), (128, 0, 126, 2, 3), (141, 0, 127, 0, 3), (131, 1, 128, 1, 3), (177, 0, 131, 1, 3), (180, 0, 132, 2, 3), (174, 0, 133, 1, 3), (168, 0, 134, 2, 3), (161, 1, 135, 2, 3), (165, 0, 136, 3, 3), (153, 0, 137, 3, 3), (157, 1, 138, 4, 3), (183, 0, 140, 1, 3), (188, 0, 141, 2, 3), (171, 0, 142, 1, 3), (191, 0, 144, 2, 3), (194, 0, 145, 1, 3), (197, 0, 146, 0, 3), (200, 0, 147, 0, 3), (203, 0, 149, 0, 3), (206, 0, 150, 2, 3), (213, 0, 156, 2, 3), (222, 0, 160, 0, 3), (225, 0, 161, 1, 3), (229, 0, 163, 1, 3), (232, 0, 166, 4, 3), (236, 0, 168, 1, 3), (241, 0, 170, 1, 3), (244, 0, 171, 2, 3), (247, 0, 173, 2, 3), (250, 0, 175, 2, 3), (256, 0, 177, 1, 3), (259, 0, 178, 1, 3), (266, 0, 181, 3, 3), (269, 0, 182, 1, 3), (272, 1, 183, 3, 3), (277, 0, 185, 2, 3), (281, 0, 186, 2, 3), (295, 0, 189, 1, 3), (307, 0, 194, 1, 3), (299, 0, 195, 1, 3), (302, 0, 196, 1, 3)]
def sm_cp3 : List Nat := [747, 751, 754, 758, 766, 770, 786, 798, 810, 814, 818, 822, 826, 830, 834, 838, 842, 853, 857, 861, 865, 869, 872, 876, 880, 887, 892, 896, 904, 908, 912, 916, 924, 928, 954, 973, 977, 985, 997, 1005, 1013, 1018, 1026, 1034, 1043, 1048, 1060, 1064, 1069, 1077, 1081, 1096, 1119, 1123, 1127]
def sm_fl4 : List (Nat × Nat × Nat × Nat) := []
def sm_fp4 : List Nat := []
def sm_ci4 : List (Nat × Int32) := []
def sm_cj4 : List (Nat × Int64) := []
def sm_st4 : List (Nat × Unit) := []
def sm_na4 : List (Nat × Nat) := []
def sm_ca4 : List (Nat × Nat × Nat × Nat × Nat) := [(13, 0, 0, 2, 2), (18, 0, 3, 3, 2), (23, 0, 6, 2, 2), (27, 0, 7, 1, 2), (32, 0, 8, 5, 2), (37, 0, 10, 1, 2), (41, 0, 11, 2, 2), (45, 0, 13, 3, 2), (49, 0, 14, 1, 2), (53, 0, 21, 1, 2), (57, 0, 24, 2, 2), (61, 0, 32, 2, 2), (65, 0, 36, 2, 2), (69, 0, 42, 0, 2), (74, 0, 47, 2, 2), (78, 0, 48, 1, 2), (82, 0, 49, 1, 2), (86, 0, 50, 1, 2), (90, 0, 52, 1, 2), (94, 0, 55, 1, 2), (98, 0, 56, 4, 2), (103, 0, 57, 2, 2), (107, 0, 60, 1, 2), (111, 0, 62, 1, 2), (115, 0, 63, 2, 2), (119, 0, 65, 1, 2), (123, 0, 67, 2, 2), (127, 0, 70, 2, 2), (131, 0, 72, 2, 2), (135, 0, 76, 1, 2), (139, 0, 80, 1, 2), (143, 0, 81, 3, 2), (147, 0, 83, 2, 2), (151, 0, 87, 1, 2), (155, 0, 88, 2, 2), (159, 0, 90, 0, 2), (163, 0, 91, 0, 2), (168, 0, 92, 0, 2), (172, 0, 93, 1, 2), (176, 0, 98, 0, 2), (180, 0, 99, 1, 2), (184, 0, 100, 0, 2), (17, 0, 103, 2, 3), (22, 0, 108, 3, 3), (26, 0, 111, 2, 3), (31, 0, 112, 1, 3), (36, 0, 113, 5, 3), (40, 0, 115, 1, 3), (44, 0, 116, 2, 3), (48, 0, 118, 3, 3), (52, 0, 119, 1, 3), (56, 0, 129, 1, 3), (60, 0, 130, 2, 3), (64, 0, 139, 2, 3), (68, 0, 143, 2, 3), (73, 0, 148, 0, 3), (77, 0, 151, 2, 3), (81, 0, 152, 1, 3), (85, 0, 153, 1, 3), (89, 0, 154, 1, 3), (93, 0, 155, 1, 3), (97, 0, 157, 1, 3), (102, 0, 158, 4, 3), (106, 0, 159, 2, 3), (110, 0, 162, 1, 3), (114, 0, 164, 1, 3), (118, 0, 165, 2, 3), (122, 0, 167, 1, 3), (126, 0, 169, 2, 3), (130, 0, 172, 2, 3), (134, 0, 174, 2, 3), (138, 0, 176, 1, 3), (142, 0, 179, 1, 3), (146, 0, 180, 3, 3), (150, 0, 184, 2, 3), (154, 0, 187, 1, 3), (158, 0, 188, 2, 3), (162, 0, 190, 0, 3), (167, 0, 191, 0, 3), (171, 0, 192, 0, 3), (175, 0, 193, 1, 3), (179, 0, 197, 0, 3), (183, 0, 198, 1, 3), (187, 0, 199, 0, 3)]
def sm_cp4 : List Nat := [229, 240, 252, 256, 260, 270, 274, 281, 285, 312, 324, 358, 374, 398, 424, 428, 432, 436, 444, 455, 459, 464, 476, 484, 489, 497, 505, 517, 525, 542, 557, 561, 569, 586, 590, 601, 605, 609, 613, 633, 637, 641, 743, 762, 774, 778, 782, 790, 794, 802, 806, 845, 849, 883, 900, 920, 932, 937, 941, 945, 949, 958, 962, 968, 981, 989, 993, 1001, 1009, 1022, 1030, 1039, 1052, 1056, 1072, 1085, 1089, 1102, 1106, 1110, 1114, 1131, 1135, 1139]
def sm_fl (o : Nat) : List (Nat × Nat × Nat × Nat) := match o with
  | 0 => sm_fl0
  | 1 => sm_fl1
  | 2 => sm_fl2
  | 3 => sm_fl3
  | _ => sm_fl4
def sm_fp (o : Nat) : List Nat := match o with
  | 0 => sm_fp0
  | 1 => sm_fp1
  | 2 => sm_fp2
  | 3 => sm_fp3
  | _ => sm_fp4
def sm_ci (o : Nat) : List (Nat × Int32) := match o with
  | 0 => sm_ci0
  | 1 => sm_ci1
  | 2 => sm_ci2
  | 3 => sm_ci3
  | _ => sm_ci4
def sm_cj (o : Nat) : List (Nat × Int64) := match o with
  | 0 => sm_cj0
  | 1 => sm_cj1
  | 2 => sm_cj2
  | 3 => sm_cj3
  | _ => sm_cj4
def sm_st (o : Nat) : List (Nat × Unit) := match o with
  | 0 => sm_st0
  | 1 => sm_st1
  | 2 => sm_st2
  | 3 => sm_st3
  | _ => sm_st4
def sm_na (o : Nat) : List (Nat × Nat) := match o with
  | 0 => sm_na0
  | 1 => sm_na1
  | 2 => sm_na2
  | 3 => sm_na3
  | _ => sm_na4
def sm_ca (o : Nat) : List (Nat × Nat × Nat × Nat × Nat) := match o with
  | 0 => sm_ca0
  | 1 => sm_ca1
  | 2 => sm_ca2
  | 3 => sm_ca3
  | _ => sm_ca4
def sm_cp (o : Nat) : List Nat := match o with
  | 0 => sm_cp0
  | 1 => sm_cp1
  | 2 => sm_cp2
  | 3 => sm_cp3
  | _ => sm_cp4
/-- a method: name, code, locals, what it returns, class, static?, where its words are -/
abbrev sm_MT : Type := MethodName × ByteArray × Nat × Option FieldType × Nat × Bool × Nat × Nat × Nat
def sm_md0 : List sm_MT := [
  (⟨"MiceRegisters", "row", "(II)I"⟩, prog_1_method_2_code, 4, some .int, 2, false, 232, 230, 231),
  (⟨"MiceRegisters", "isNoRow", "(I)Z"⟩, prog_1_method_48_code, 1, some .boolean, 2, true, 235, 234, 0),
  (⟨"MiceRegisters", "refuseBy", "(I)I"⟩, prog_1_method_47_code, 2, some .int, 2, false, 239, 238, 0),
  (⟨"MiceRegisters", "lay", "(III)I"⟩, prog_1_method_3_code, 6, some .int, 2, false, 243, 241, 242),
  (⟨"MiceRegisters", "refusalOfPlace", "(II)I"⟩, prog_1_method_54_code, 3, some .int, 2, false, 247, 246, 1),
  (⟨"MiceRegisters", "tell", "(I)I"⟩, prog_1_method_44_code, 2, some .int, 2, false, 251, 250, 2),
  (⟨"MiceRegisters", "at", "(II)I"⟩, prog_1_method_4_code, 4, some .int, 2, false, 255, 253, 254),
  (⟨"MiceRegisters", "tear", "(I)I"⟩, prog_1_method_5_code, 2, some .int, 2, false, 259, 257, 258),
  (⟨"MiceRegisters", "copy", "(IIIII)I"⟩, prog_1_method_6_code, 6, some .int, 2, false, 263, 261, 262),
  (⟨"MiceRegisters", "isBeyond", "(III)Z"⟩, prog_1_method_53_code, 3, some .boolean, 2, true, 266, 265, 0),
  (⟨"MiceRegisters", "mean", "(I)I"⟩, prog_1_method_7_code, 6, some .int, 2, false, 273, 271, 272),
  (⟨"MiceRegisters", "text", "(II)I"⟩, prog_1_method_8_code, 4, some .int, 2, false, 277, 275, 276),
  (⟨"MiceRegisters", "isNoText", "(I)Z"⟩, prog_1_method_49_code, 1, some .boolean, 2, true, 280, 279, 0),
  (⟨"MiceRegisters", "put", "(III)I"⟩, prog_1_method_9_code, 5, some .int, 2, false, 284, 282, 283),
  (⟨"MiceRegisters", "fault", "(I)I"⟩, prog_1_method_10_code, 2, some .int, 2, false, 288, 286, 287),
  (⟨"MiceRegisters", "readAside", "(I)I"⟩, prog_1_method_63_code, 7, some .int, 2, false, 292, 291, 3),
  (⟨"MiceRegisters", "behindBlanks", "([BI)I"⟩, prog_1_method_64_code, 3, some .int, 2, true, 295, 294, 0),
  (⟨"MiceRegisters", "readLine", "([BII)I"⟩, prog_1_method_65_code, 6, some .int, 2, false, 299, 298, 4),
  (⟨"MiceRegisters", "faultOfFigure", "([BIIII)I"⟩, prog_1_method_67_code, 6, some .int, 2, true, 302, 301, 0),
  (⟨"MiceRegisters", "readMouse", "([BII)I"⟩, prog_1_method_66_code, 6, some .int, 2, false, 306, 305, 5),
  (⟨"MiceRegisters", "kindOfLetter", "(I)I"⟩, prog_1_method_68_code, 2, some .int, 2, true, 309, 308, 0),
  (⟨"MiceRegisters", "register", "(I)I"⟩, prog_1_method_11_code, 3, some .int, 2, false, 315, 313, 314),
  (⟨"MiceRegisters$Register", "beginAnew", "()V"⟩, prog_3_method_2_code, 2, none, 1, false, 319, 317, 318),
  (⟨"MiceRegisters$Register", "takeFrom", "(LMiceRegisters$Register;)V"⟩, prog_3_method_3_code, 3, none, 1, false, 323, 321, 322),
  (⟨"MiceRegisters", "line", "(II)I"⟩, prog_1_method_12_code, 3, some .int, 2, false, 327, 325, 326)]
def sm_md1 : List sm_MT := [
  (⟨"MiceRegisters", "isNoLine", "(I)Z"⟩, prog_1_method_51_code, 2, some .boolean, 2, false, 331, 330, 6),
  (⟨"MiceRegisters", "ofLine", "(II)I"⟩, prog_1_method_56_code, 3, some .int, 2, false, 335, 334, 7),
  (⟨"MiceRegisters$Register", "miceThatWant", "(I)I"⟩, prog_3_method_10_code, 4, some .int, 1, false, 339, 337, 338),
  (⟨"MiceRegisters$Register", "lineWantedBy", "(I)I"⟩, prog_3_method_7_code, 8, some .int, 1, false, 343, 341, 342),
  (⟨"MiceRegisters$Register", "isOpen", "(I)Z"⟩, prog_3_method_8_code, 2, some .boolean, 1, false, 347, 346, 8),
  (⟨"MiceRegisters$Register", "distance", "(II)I"⟩, prog_3_method_9_code, 3, some .int, 1, false, 351, 350, 9),
  (⟨"MiceRegisters", "liking", "(IIII)I"⟩, prog_1_method_70_code, 4, some .int, 2, true, 357, 356, 0),
  (⟨"MiceRegisters", "mouse", "(II)I"⟩, prog_1_method_13_code, 3, some .int, 2, false, 361, 359, 360),
  (⟨"MiceRegisters", "isNoMouse", "(I)Z"⟩, prog_1_method_52_code, 2, some .boolean, 2, false, 365, 364, 10),
  (⟨"MiceRegisters", "ofMouse", "(II)I"⟩, prog_1_method_57_code, 3, some .int, 2, false, 369, 368, 11),
  (⟨"MiceRegisters", "eatenInAYear", "(II)I"⟩, prog_1_method_71_code, 2, some .int, 2, true, 372, 371, 0),
  (⟨"MiceRegisters", "mark", "(II)I"⟩, prog_1_method_14_code, 3, some .int, 2, false, 377, 375, 376),
  (⟨"MiceRegisters", "isOfKind", "(II)Z"⟩, prog_1_method_69_code, 2, some .boolean, 2, true, 380, 379, 0),
  (⟨"MiceRegisters$Register", "linesLikedBy", "(I)I"⟩, prog_3_method_11_code, 4, some .int, 1, false, 384, 382, 383),
  (⟨"MiceRegisters$Register", "linesLittleWrong", "()I"⟩, prog_3_method_12_code, 3, some .int, 1, false, 388, 386, 387),
  (⟨"MiceRegisters$Register", "yearsToEatUpAlone", "(I)I"⟩, prog_3_method_13_code, 3, some .int, 1, false, 392, 390, 391),
  (⟨"MiceRegisters$Register", "allCheese", "()I"⟩, prog_3_method_14_code, 3, some .int, 1, false, 397, 395, 396),
  (⟨"MiceRegisters", "year", "()I"⟩, prog_1_method_15_code, 1, some .int, 2, false, 401, 399, 400),
  (⟨"MiceRegisters", "doTruly", "(III)I"⟩, prog_1_method_72_code, 4, some .int, 2, false, 405, 404, 12),
  (⟨"MiceRegisters$Deeds", "add", "(III)V"⟩, prog_2_method_2_code, 4, none, 0, false, 409, 407, 408),
  (⟨"MiceRegisters$Register", "change", "(III)I"⟩, prog_3_method_4_code, 5, some .int, 1, false, 413, 411, 412),
  (⟨"MiceRegisters$Register", "passYear", "(I)I"⟩, prog_3_method_6_code, 6, some .int, 1, false, 420, 418, 419),
  (⟨"MiceRegisters", "cheese", "(II)I"⟩, prog_1_method_16_code, 3, some .int, 2, false, 427, 425, 426),
  (⟨"MiceRegisters", "cat", "(I)I"⟩, prog_1_method_17_code, 2, some .int, 2, false, 431, 429, 430),
  (⟨"MiceRegisters", "wax", "(I)I"⟩, prog_1_method_18_code, 2, some .int, 2, false, 435, 433, 434)]
def sm_md2 : List sm_MT := [
  (⟨"MiceRegisters", "undo", "(I)I"⟩, prog_1_method_19_code, 3, some .int, 2, false, 439, 437, 438),
  (⟨"MiceRegisters", "doAgain", "()V"⟩, prog_1_method_73_code, 2, none, 2, false, 443, 442, 13),
  (⟨"MiceRegisters", "keep", "(I)I"⟩, prog_1_method_20_code, 2, some .int, 2, false, 447, 445, 446),
  (⟨"MiceRegisters", "isNoPlace", "(I)Z"⟩, prog_1_method_50_code, 1, some .boolean, 2, true, 450, 449, 0),
  (⟨"MiceRegisters$Deeds", "takeFrom", "(LMiceRegisters$Deeds;)V"⟩, prog_2_method_3_code, 3, none, 0, false, 454, 452, 453),
  (⟨"MiceRegisters", "on", "(I)I"⟩, prog_1_method_21_code, 2, some .int, 2, false, 458, 456, 457),
  (⟨"MiceRegisters", "likes", "(IIII)I"⟩, prog_1_method_22_code, 5, some .int, 2, false, 462, 460, 461),
  (⟨"MiceRegisters", "left", "(II)I"⟩, prog_1_method_23_code, 3, some .int, 2, false, 467, 465, 466),
  (⟨"MiceRegisters", "goAside", "(I)V"⟩, prog_1_method_75_code, 2, none, 2, false, 471, 470, 14),
  (⟨"MiceRegisters$Register", "passYears", "(I)V"⟩, prog_3_method_5_code, 3, none, 1, false, 475, 473, 474),
  (⟨"MiceRegisters", "eaten", "(I)I"⟩, prog_1_method_24_code, 2, some .int, 2, false, 479, 477, 478),
  (⟨"MiceRegisters$Register", "linesEatenUp", "()I"⟩, prog_3_method_17_code, 3, some .int, 1, false, 483, 481, 482),
  (⟨"MiceRegisters", "when", "(I)I"⟩, prog_1_method_25_code, 3, some .int, 2, false, 487, 485, 486),
  (⟨"MiceRegisters", "save", "(II)I"⟩, prog_1_method_26_code, 5, some .int, 2, false, 492, 490, 491),
  (⟨"MiceRegisters", "isSavedBy", "(IIII)Z"⟩, prog_1_method_77_code, 6, some .boolean, 2, false, 496, 495, 15),
  (⟨"MiceRegisters", "guard", "(I)I"⟩, prog_1_method_27_code, 6, some .int, 2, false, 500, 498, 499),
  (⟨"MiceRegisters$Register", "allLeft", "()I"⟩, prog_3_method_15_code, 3, some .int, 1, false, 504, 502, 503),
  (⟨"MiceRegisters", "places", "(II)I"⟩, prog_1_method_28_code, 6, some .int, 2, false, 508, 506, 507),
  (⟨"MiceRegisters", "refusalOfTrace", "(II)I"⟩, prog_1_method_55_code, 5, some .int, 2, false, 512, 511, 16),
  (⟨"MiceRegisters", "goesAsRow", "(II)Z"⟩, prog_1_method_78_code, 4, some .boolean, 2, false, 516, 515, 17),
  (⟨"MiceRegisters", "kinds", "(II)I"⟩, prog_1_method_29_code, 4, some .int, 2, false, 520, 518, 519),
  (⟨"MiceRegisters", "kindsThatFit", "(II)I"⟩, prog_1_method_79_code, 5, some .int, 2, false, 524, 523, 18),
  (⟨"MiceRegisters", "look", "(II)I"⟩, prog_1_method_30_code, 9, some .int, 2, false, 528, 526, 527),
  (⟨"MiceRegisters", "followKinds", "(II)V"⟩, prog_1_method_80_code, 5, none, 2, false, 532, 531, 19),
  (⟨"MiceRegisters", "followKind", "(II)V"⟩, prog_1_method_81_code, 4, none, 2, false, 536, 535, 20)]
def sm_md3 : List sm_MT := [
  (⟨"MiceRegisters", "greatestPart", "(I)I"⟩, prog_1_method_82_code, 4, some .int, 2, false, 540, 539, 21),
  (⟨"MiceRegisters", "sets", "(I)I"⟩, prog_1_method_31_code, 5, some .int, 2, false, 545, 543, 544),
  (⟨"MiceRegisters$Register", "leftTogether", "(I)I"⟩, prog_3_method_16_code, 4, some .int, 1, false, 549, 547, 548),
  (⟨"MiceRegisters", "tellParts", "(JJ)V"⟩, prog_1_method_45_code, 7, none, 2, false, 553, 552, 22),
  (⟨"MiceRegisters", "commonDivisor", "(JJ)J"⟩, prog_1_method_46_code, 11, some .long, 2, true, 556, 555, 0),
  (⟨"MiceRegisters", "sure", "(I)I"⟩, prog_1_method_32_code, 7, some .int, 2, false, 560, 558, 559),
  (⟨"MiceRegisters", "duel", "(III)I"⟩, prog_1_method_33_code, 4, some .int, 2, false, 564, 562, 563),
  (⟨"MiceRegisters", "duelFrom", "(LMiceRegisters$Register;LMiceRegisters$Register;IIIII)I"⟩, prog_1_method_83_code, 13, some .int, 2, true, 567, 566, 0),
  (⟨"MiceRegisters", "odds", "(II)I"⟩, prog_1_method_34_code, 6, some .int, 2, false, 572, 570, 571),
  (⟨"MiceRegisters", "sleepAside", "(I)V"⟩, prog_1_method_76_code, 2, none, 2, false, 576, 575, 23),
  (⟨"MiceRegisters", "weightOf", "(II)J"⟩, prog_1_method_84_code, 6, some .long, 2, false, 580, 579, 24),
  (⟨"MiceRegisters", "allWeights", "()J"⟩, prog_1_method_85_code, 4, some .long, 2, false, 584, 583, 25),
  (⟨"MiceRegisters", "mid", "(I)I"⟩, prog_1_method_35_code, 5, some .int, 2, false, 589, 587, 588),
  (⟨"MiceRegisters", "lots", "(II)I"⟩, prog_1_method_36_code, 6, some .int, 2, false, 593, 591, 592),
  (⟨"MiceRegisters", "doByLot", "(I)V"⟩, prog_1_method_74_code, 3, none, 2, false, 600, 599, 26),
  (⟨"MiceRegisters", "asked", "()I"⟩, prog_1_method_37_code, 1, some .int, 2, false, 604, 602, 603),
  (⟨"MiceRegisters", "upper", "()J"⟩, prog_1_method_38_code, 1, some .long, 2, false, 608, 606, 607),
  (⟨"MiceRegisters", "lower", "()J"⟩, prog_1_method_39_code, 1, some .long, 2, false, 612, 610, 611),
  (⟨"MiceRegisters", "count", "(I)I"⟩, prog_1_method_40_code, 2, some .int, 2, false, 616, 614, 615),
  (⟨"MiceRegisters", "countOf", "(I)I"⟩, prog_1_method_58_code, 2, some .int, 2, false, 620, 619, 27),
  (⟨"MiceRegisters$Register", "miceOfKind", "(I)I"⟩, prog_3_method_18_code, 4, some .int, 1, false, 624, 622, 623),
  (⟨"MiceRegisters", "howManyThere", "([I)I"⟩, prog_1_method_59_code, 6, some .int, 2, true, 628, 627, 0),
  (⟨"MiceRegisters", "howManyKept", "()I"⟩, prog_1_method_60_code, 3, some .int, 2, false, 632, 631, 28),
  (⟨"MiceRegisters", "finding", "()I"⟩, prog_1_method_41_code, 1, some .int, 2, false, 636, 634, 635),
  (⟨"MiceRegisters", "findings", "(I)I"⟩, prog_1_method_42_code, 2, some .int, 2, false, 640, 638, 639)]
def sm_md4 : List sm_MT := [
  (⟨"MiceRegisters", "digest", "()J"⟩, prog_1_method_43_code, 5, some .long, 2, false, 644, 642, 643),
  (⟨"MiceRegisters", "digestOfRows", "(J)J"⟩, prog_1_method_61_code, 7, some .long, 2, false, 650, 649, 29),
  (⟨"MiceRegisters", "digestOfTexts", "(J)J"⟩, prog_1_method_62_code, 7, some .long, 2, false, 654, 653, 30),
  (⟨"MiceRegistersModel", "row", "(II)I"⟩, prog_5_method_8_code, 3, some .int, 3, false, 746, 744, 745),
  (⟨"MiceRegistersModel", "isRow", "(I)Z"⟩, prog_5_method_6_code, 1, some .boolean, 3, true, 749, 748, 0),
  (⟨"MiceRegistersModel", "in", "(JJJ)Z"⟩, prog_5_method_2_code, 6, some .boolean, 3, true, 753, 752, 0),
  (⟨"MiceRegistersModel", "find", "(I)I"⟩, prog_5_method_4_code, 2, some .int, 3, false, 757, 756, 31),
  (⟨"MiceRegistersModel", "makeRow", "(II)V"⟩, prog_5_method_9_code, 4, none, 3, false, 761, 760, 32),
  (⟨"MiceRegistersModel", "lay", "(III)I"⟩, prog_5_method_11_code, 6, some .int, 3, false, 765, 763, 764),
  (⟨"MiceRegistersModel", "refused", "(II)I"⟩, prog_5_method_10_code, 3, some .int, 3, false, 769, 768, 33),
  (⟨"MiceRegistersModel", "tell", "(I)I"⟩, prog_5_method_5_code, 2, some .int, 3, false, 773, 772, 34),
  (⟨"MiceRegistersModel", "at", "(II)I"⟩, prog_5_method_12_code, 4, some .int, 3, false, 777, 775, 776),
  (⟨"MiceRegistersModel", "tear", "(I)I"⟩, prog_5_method_13_code, 2, some .int, 3, false, 781, 779, 780),
  (⟨"MiceRegistersModel", "copy", "(IIIII)I"⟩, prog_5_method_15_code, 9, some .int, 3, false, 785, 783, 784),
  (⟨"MiceRegistersModel", "isSpan", "(III)Z"⟩, prog_5_method_14_code, 4, some .boolean, 3, false, 789, 788, 35),
  (⟨"MiceRegistersModel", "mean", "(I)I"⟩, prog_5_method_16_code, 5, some .int, 3, false, 793, 791, 792),
  (⟨"MiceRegistersModel", "text", "(II)I"⟩, prog_5_method_17_code, 4, some .int, 3, false, 797, 795, 796),
  (⟨"MiceRegistersModel", "isText", "(I)Z"⟩, prog_5_method_7_code, 1, some .boolean, 3, true, 800, 799, 0),
  (⟨"MiceRegistersModel", "put", "(III)I"⟩, prog_5_method_18_code, 5, some .int, 3, false, 805, 803, 804),
  (⟨"MiceRegistersModel", "fault", "(I)I"⟩, prog_5_method_28_code, 2, some .int, 3, false, 809, 807, 808),
  (⟨"MiceRegistersModel", "faultOf", "(I)I"⟩, prog_5_method_27_code, 3, some .int, 3, false, 813, 812, 36),
  (⟨"MiceRegistersModel", "readsHead", "()Z"⟩, prog_5_method_23_code, 2, some .boolean, 3, false, 817, 816, 37),
  (⟨"MiceRegistersModel", "skip", "()V"⟩, prog_5_method_20_code, 1, none, 3, false, 821, 820, 38),
  (⟨"MiceRegistersModel", "here", "()I"⟩, prog_5_method_19_code, 1, some .int, 3, false, 825, 824, 39),
  (⟨"MiceRegistersModel", "readsLine", "()Z"⟩, prog_5_method_25_code, 3, some .boolean, 3, false, 829, 828, 40)]
def sm_md5 : List sm_MT := [
  (⟨"MiceRegistersModel", "figure", "(II)I"⟩, prog_5_method_21_code, 3, some .int, 3, false, 833, 832, 41),
  (⟨"MiceRegistersModel", "twoFigures", "(II)I"⟩, prog_5_method_22_code, 6, some .int, 3, false, 837, 836, 42),
  (⟨"MiceRegistersModel", "readsMouse", "()Z"⟩, prog_5_method_26_code, 5, some .boolean, 3, false, 841, 840, 43),
  (⟨"MiceRegistersModel", "kindOfLetter", "(I)I"⟩, prog_5_method_24_code, 1, some .int, 3, true, 844, 843, 0),
  (⟨"MiceRegistersModel", "register", "(I)I"⟩, prog_5_method_29_code, 3, some .int, 3, false, 848, 846, 847),
  (⟨"MiceRegistersModel", "line", "(II)I"⟩, prog_5_method_40_code, 3, some .int, 3, false, 852, 850, 851),
  (⟨"MiceRegistersModel", "isLine", "(I)Z"⟩, prog_5_method_30_code, 2, some .boolean, 3, false, 856, 855, 44),
  (⟨"MiceRegistersModel", "lineTold", "(II)I"⟩, prog_5_method_39_code, 3, some .int, 3, false, 860, 859, 45),
  (⟨"MiceRegistersModel", "wantedBy", "(I)I"⟩, prog_5_method_38_code, 4, some .int, 3, false, 864, 863, 46),
  (⟨"MiceRegistersModel", "wants", "(II)I"⟩, prog_5_method_36_code, 9, some .int, 3, false, 868, 867, 47),
  (⟨"MiceRegistersModel", "has", "(II)Z"⟩, prog_5_method_3_code, 2, some .boolean, 3, true, 871, 870, 0),
  (⟨"MiceRegistersModel", "likesIn", "(III)I"⟩, prog_5_method_35_code, 4, some .int, 3, false, 875, 874, 48),
  (⟨"MiceRegistersModel", "farOf", "(III)I"⟩, prog_5_method_34_code, 5, some .int, 3, false, 879, 878, 49),
  (⟨"MiceRegistersModel", "likesBy", "(IIII)I"⟩, prog_5_method_32_code, 4, some .int, 3, true, 882, 881, 0),
  (⟨"MiceRegistersModel", "mouse", "(II)I"⟩, prog_5_method_42_code, 3, some .int, 3, false, 886, 884, 885),
  (⟨"MiceRegistersModel", "isMouse", "(I)Z"⟩, prog_5_method_31_code, 2, some .boolean, 3, false, 890, 889, 50),
  (⟨"MiceRegistersModel", "mouseTold", "(II)I"⟩, prog_5_method_41_code, 3, some .int, 3, false, 895, 894, 51),
  (⟨"MiceRegistersModel", "eatsOf", "(I)I"⟩, prog_5_method_33_code, 2, some .int, 3, false, 899, 898, 52),
  (⟨"MiceRegistersModel", "mark", "(II)I"⟩, prog_5_method_47_code, 3, some .int, 3, false, 903, 901, 902),
  (⟨"MiceRegistersModel", "isOf", "(II)Z"⟩, prog_5_method_43_code, 4, some .boolean, 3, false, 907, 906, 53),
  (⟨"MiceRegistersModel", "likedBy", "(I)I"⟩, prog_5_method_44_code, 4, some .int, 3, false, 911, 910, 54),
  (⟨"MiceRegistersModel", "littleWrong", "()I"⟩, prog_5_method_45_code, 3, some .int, 3, false, 915, 914, 55),
  (⟨"MiceRegistersModel", "cheeses", "()I"⟩, prog_5_method_46_code, 3, some .int, 3, false, 919, 918, 56),
  (⟨"MiceRegistersModel", "year", "()I"⟩, prog_5_method_49_code, 1, some .int, 3, false, 923, 921, 922),
  (⟨"MiceRegistersModel", "keepPast", "()V"⟩, prog_5_method_48_code, 2, none, 3, false, 927, 926, 57)]
def sm_md6 : List sm_MT := [
  (⟨"MiceRegistersModel", "passes", "(II)I"⟩, prog_5_method_37_code, 7, some .int, 3, false, 931, 930, 58),
  (⟨"MiceRegistersModel", "cheese", "(II)I"⟩, prog_5_method_50_code, 3, some .int, 3, false, 935, 933, 934),
  (⟨"MiceRegistersModel", "cat", "(I)I"⟩, prog_5_method_51_code, 3, some .int, 3, false, 940, 938, 939),
  (⟨"MiceRegistersModel", "wax", "(I)I"⟩, prog_5_method_52_code, 2, some .int, 3, false, 944, 942, 943),
  (⟨"MiceRegistersModel", "undo", "(I)I"⟩, prog_5_method_53_code, 4, some .int, 3, false, 948, 946, 947),
  (⟨"MiceRegistersModel", "keep", "(I)I"⟩, prog_5_method_55_code, 2, some .int, 3, false, 952, 950, 951),
  (⟨"MiceRegistersModel", "copyRegister", "(II)V"⟩, prog_5_method_54_code, 4, none, 3, false, 957, 956, 59),
  (⟨"MiceRegistersModel", "on", "(I)I"⟩, prog_5_method_56_code, 2, some .int, 3, false, 961, 959, 960),
  (⟨"MiceRegistersModel", "likes", "(IIII)I"⟩, prog_5_method_59_code, 5, some .int, 3, false, 965, 963, 964),
  (⟨"MiceRegistersModel", "left", "(II)I"⟩, prog_5_method_60_code, 3, some .int, 3, false, 971, 969, 970),
  (⟨"MiceRegistersModel", "layTried", "()V"⟩, prog_5_method_57_code, 2, none, 3, false, 976, 975, 60),
  (⟨"MiceRegistersModel", "passTried", "(I)V"⟩, prog_5_method_58_code, 3, none, 3, false, 980, 979, 61),
  (⟨"MiceRegistersModel", "eaten", "(I)I"⟩, prog_5_method_62_code, 2, some .int, 3, false, 984, 982, 983),
  (⟨"MiceRegistersModel", "eatenAt", "(I)I"⟩, prog_5_method_61_code, 4, some .int, 3, false, 988, 987, 62),
  (⟨"MiceRegistersModel", "when", "(I)I"⟩, prog_5_method_63_code, 3, some .int, 3, false, 992, 990, 991),
  (⟨"MiceRegistersModel", "save", "(II)I"⟩, prog_5_method_65_code, 5, some .int, 3, false, 996, 994, 995),
  (⟨"MiceRegistersModel", "isSaved", "(IIII)Z"⟩, prog_5_method_64_code, 5, some .boolean, 3, false, 1000, 999, 63),
  (⟨"MiceRegistersModel", "guard", "(I)I"⟩, prog_5_method_67_code, 5, some .int, 3, false, 1004, 1002, 1003),
  (⟨"MiceRegistersModel", "leftIn", "(I)I"⟩, prog_5_method_66_code, 4, some .int, 3, false, 1008, 1007, 64),
  (⟨"MiceRegistersModel", "places", "(II)I"⟩, prog_5_method_70_code, 6, some .int, 3, false, 1012, 1010, 1011),
  (⟨"MiceRegistersModel", "noRow", "(I)I"⟩, prog_5_method_68_code, 4, some .int, 3, false, 1016, 1015, 65),
  (⟨"MiceRegistersModel", "isSo", "(II)Z"⟩, prog_5_method_69_code, 5, some .boolean, 3, false, 1021, 1020, 66),
  (⟨"MiceRegistersModel", "kinds", "(II)I"⟩, prog_5_method_72_code, 4, some .int, 3, false, 1025, 1023, 1024),
  (⟨"MiceRegistersModel", "kindsBy", "(II)I"⟩, prog_5_method_71_code, 6, some .int, 3, false, 1029, 1028, 67),
  (⟨"MiceRegistersModel", "look", "(II)I"⟩, prog_5_method_74_code, 10, some .int, 3, false, 1033, 1031, 1032)]
def sm_md7 : List sm_MT := [
  (⟨"MiceRegistersModel", "layParts", "(II)V"⟩, prog_5_method_73_code, 6, none, 3, false, 1037, 1036, 68),
  (⟨"MiceRegistersModel", "sets", "(I)I"⟩, prog_5_method_77_code, 6, some .int, 3, false, 1042, 1040, 1041),
  (⟨"MiceRegistersModel", "noSets", "(I)I"⟩, prog_5_method_76_code, 2, some .int, 3, false, 1046, 1045, 69),
  (⟨"MiceRegistersModel", "leftOf", "(I)I"⟩, prog_5_method_75_code, 4, some .int, 3, false, 1051, 1050, 70),
  (⟨"MiceRegistersModel", "sure", "(I)I"⟩, prog_5_method_78_code, 8, some .int, 3, false, 1055, 1053, 1054),
  (⟨"MiceRegistersModel", "duel", "(III)I"⟩, prog_5_method_82_code, 7, some .int, 3, false, 1059, 1057, 1058),
  (⟨"MiceRegistersModel", "moreLeft", "(III)I"⟩, prog_5_method_79_code, 5, some .int, 3, false, 1063, 1062, 71),
  (⟨"MiceRegistersModel", "beginTurn", "(I)V"⟩, prog_5_method_81_code, 2, none, 3, false, 1067, 1066, 72),
  (⟨"MiceRegistersModel", "better", "(III)I"⟩, prog_5_method_80_code, 3, some .int, 3, true, 1071, 1070, 0),
  (⟨"MiceRegistersModel", "odds", "(II)I"⟩, prog_5_method_85_code, 10, some .int, 3, false, 1075, 1073, 1074),
  (⟨"MiceRegistersModel", "chancesOf", "(II)J"⟩, prog_5_method_84_code, 6, some .long, 3, false, 1080, 1079, 73),
  (⟨"MiceRegistersModel", "tellParts", "(JJ)V"⟩, prog_5_method_83_code, 11, none, 3, false, 1084, 1083, 74),
  (⟨"MiceRegistersModel", "mid", "(I)I"⟩, prog_5_method_86_code, 9, some .int, 3, false, 1088, 1086, 1087),
  (⟨"MiceRegistersModel", "lots", "(II)I"⟩, prog_5_method_88_code, 6, some .int, 3, false, 1092, 1090, 1091),
  (⟨"MiceRegistersModel", "byLot", "(J)V"⟩, prog_5_method_87_code, 6, none, 3, false, 1099, 1098, 75),
  (⟨"MiceRegistersModel", "asked", "()I"⟩, prog_5_method_89_code, 1, some .int, 3, false, 1105, 1103, 1104),
  (⟨"MiceRegistersModel", "upper", "()J"⟩, prog_5_method_90_code, 1, some .long, 3, false, 1109, 1107, 1108),
  (⟨"MiceRegistersModel", "lower", "()J"⟩, prog_5_method_91_code, 1, some .long, 3, false, 1113, 1111, 1112),
  (⟨"MiceRegistersModel", "count", "(I)I"⟩, prog_5_method_95_code, 2, some .int, 3, false, 1117, 1115, 1116),
  (⟨"MiceRegistersModel", "countOf", "(I)I"⟩, prog_5_method_94_code, 2, some .int, 3, false, 1122, 1121, 76),
  (⟨"MiceRegistersModel", "those", "(I)I"⟩, prog_5_method_92_code, 4, some .int, 3, false, 1126, 1125, 77),
  (⟨"MiceRegistersModel", "thereOf", "(I)I"⟩, prog_5_method_93_code, 4, some .int, 3, false, 1130, 1129, 78),
  (⟨"MiceRegistersModel", "finding", "()I"⟩, prog_5_method_96_code, 1, some .int, 3, false, 1134, 1132, 1133),
  (⟨"MiceRegistersModel", "findings", "(I)I"⟩, prog_5_method_97_code, 2, some .int, 3, false, 1138, 1136, 1137),
  (⟨"MiceRegistersModel", "digest", "()J"⟩, prog_5_method_98_code, 5, some .long, 3, false, 1142, 1140, 1141)]
def sm_md : List sm_MT := sm_md0 ++ (sm_md1 ++ (sm_md2 ++ (sm_md3 ++ (sm_md4 ++ (sm_md5 ++ (sm_md6 ++ (sm_md7)))))))
def sm_mchk (q : sm_MT) : Bool := (if q.2.2.2.2.2.1 then sm_ck q.2.2.2.2.2.2.2.1 (.static q.1) else sm_ck q.2.2.2.2.2.2.2.1 (.instanceMethod q.1) && sm_ck q.2.2.2.2.2.2.2.2 (.selects q.1.cls q.1 q.1)) && decide (q.2.2.1 ≤ 81) && decide (q.2.2.2.2.1 < 4)
theorem sm_pn : ∀ o, o < 4 → plainName (sm_own o) = true ∧ sm_own o ≠ "java/lang/invoke/MethodHandle" ∧ sm_own o ≠ "java/lang/invoke/VarHandle" := by decide +kernel
theorem sm_mchk0 : sm_md0.all sm_mchk = true := by decide +kernel
set_option maxRecDepth 100000 in
theorem sm_mcls0 : sm_md0.map (fun q => q.1.cls) = sm_md0.map (fun q => sm_own q.2.2.2.2.1) := rfl
theorem sm_mchk1 : sm_md1.all sm_mchk = true := by decide +kernel
set_option maxRecDepth 100000 in
theorem sm_mcls1 : sm_md1.map (fun q => q.1.cls) = sm_md1.map (fun q => sm_own q.2.2.2.2.1) := rfl
theorem sm_mchk2 : sm_md2.all sm_mchk = true := by decide +kernel
set_option maxRecDepth 100000 in
theorem sm_mcls2 : sm_md2.map (fun q => q.1.cls) = sm_md2.map (fun q => sm_own q.2.2.2.2.1) := rfl
theorem sm_mchk3 : sm_md3.all sm_mchk = true := by decide +kernel
set_option maxRecDepth 100000 in
theorem sm_mcls3 : sm_md3.map (fun q => q.1.cls) = sm_md3.map (fun q => sm_own q.2.2.2.2.1) := rfl
theorem sm_mchk4 : sm_md4.all sm_mchk = true := by decide +kernel
set_option maxRecDepth 100000 in
theorem sm_mcls4 : sm_md4.map (fun q => q.1.cls) = sm_md4.map (fun q => sm_own q.2.2.2.2.1) := rfl
theorem sm_mchk5 : sm_md5.all sm_mchk = true := by decide +kernel
set_option maxRecDepth 100000 in
theorem sm_mcls5 : sm_md5.map (fun q => q.1.cls) = sm_md5.map (fun q => sm_own q.2.2.2.2.1) := rfl
theorem sm_mchk6 : sm_md6.all sm_mchk = true := by decide +kernel
set_option maxRecDepth 100000 in
theorem sm_mcls6 : sm_md6.map (fun q => q.1.cls) = sm_md6.map (fun q => sm_own q.2.2.2.2.1) := rfl
theorem sm_mchk7 : sm_md7.all sm_mchk = true := by decide +kernel
set_option maxRecDepth 100000 in
theorem sm_mcls7 : sm_md7.map (fun q => q.1.cls) = sm_md7.map (fun q => sm_own q.2.2.2.2.1) := rfl
def sm_mgood (q : sm_MT) : Prop := Jvm.Cond.code q.1 q.2.1 q.2.2.1 q.2.2.2.1 ∈ sm_tb ∧ (q.2.2.2.2.2.1 = true → Jvm.Cond.static q.1 ∈ sm_tb) ∧ (q.2.2.2.2.2.1 = false → Jvm.Cond.instanceMethod q.1 ∈ sm_tb ∧ Jvm.Cond.selects q.1.cls q.1 q.1 ∈ sm_tb) ∧ plainName q.1.cls = true ∧ q.2.2.1 ≤ 81 ∧ q.1.cls = sm_own q.2.2.2.2.1 ∧ q.2.2.2.2.1 < 4 ∧ q.1.cls ≠ "java/lang/invoke/MethodHandle" ∧ q.1.cls ≠ "java/lang/invoke/VarHandle"
def lw_cd (q : sm_MT) : Jvm.Cond := .code q.1 q.2.1 q.2.2.1 q.2.2.2.1
def lw_cw (w : Jvm.Cond) : Option Jvm.Cond := match w with
  | .code m b l r => some (.code m b l r)
  | _ => none
theorem lw_cw_m {x w : Jvm.Cond} (h : lw_cw x = some w) : x = w := by
  unfold lw_cw at h
  split at h
  · cases h
    rfl
  · cases h
theorem sm_cwm {w : Jvm.Cond} (h : w ∈ lw_tbl.filterMap lw_cw) : w ∈ lw_tbl := by
  obtain ⟨x, hx, e⟩ := List.mem_filterMap.mp h
  rw [← lw_cw_m e]
  exact hx
theorem sm_cwk {a n b : Nat} (h : ((lw_tbl.filterMap lw_cw).drop a).take n = ((sm_md.drop b).take n).map lw_cd) : ∀ q ∈ (sm_md.drop b).take n, lw_cd q ∈ lw_tbl := by
  intro q hq
  have g := List.mem_map_of_mem (f := lw_cd) hq
  rw [← h] at g
  exact sm_cwm (List.mem_of_mem_drop (List.mem_of_mem_take g))
theorem sm_sl {L : List sm_MT} {q : sm_MT} {i b n : Nat} (h : L[i]? = some q) (h1 : b ≤ i) (h2 : i < b + n) : q ∈ (L.drop b).take n :=
  List.mem_of_getElem? (i := i - b) (by rw [List.getElem?_take_of_lt (by omega), List.getElem?_drop, show b + (i - b) = i by omega]; exact h)
set_option maxRecDepth 100000 in
theorem sm_cw0 : ((lw_tbl.filterMap lw_cw).drop 4).take 31 = ((sm_md.drop 0).take 31).map lw_cd := rfl
set_option maxRecDepth 100000 in
theorem sm_cw1 : ((lw_tbl.filterMap lw_cw).drop 36).take 15 = ((sm_md.drop 31).take 15).map lw_cd := rfl
set_option maxRecDepth 100000 in
theorem sm_cw2 : ((lw_tbl.filterMap lw_cw).drop 52).take 1 = ((sm_md.drop 46).take 1).map lw_cd := rfl
set_option maxRecDepth 100000 in
theorem sm_cw3 : ((lw_tbl.filterMap lw_cw).drop 54).take 56 = ((sm_md.drop 47).take 56).map lw_cd := rfl
set_option maxRecDepth 100000 in
theorem sm_cw4 : ((lw_tbl.filterMap lw_cw).drop 111).take 97 = ((sm_md.drop 103).take 97).map lw_cd := rfl
theorem sm_cwl : sm_md.length = 200 := by decide +kernel
theorem sm_cwa : ∀ q ∈ sm_md, lw_cd q ∈ lw_tbl := by
  intro q hq
  obtain ⟨i, hi⟩ := List.mem_iff_getElem?.mp hq
  have l := (List.getElem?_eq_some_iff.mp hi).1
  rw [sm_cwl] at l
  rcases Nat.lt_or_ge i 31 with c | c
  · exact sm_cwk sm_cw0 q (sm_sl hi (by omega) (by omega))
  rcases Nat.lt_or_ge i 46 with c | c
  · exact sm_cwk sm_cw1 q (sm_sl hi (by omega) (by omega))
  rcases Nat.lt_or_ge i 47 with c | c
  · exact sm_cwk sm_cw2 q (sm_sl hi (by omega) (by omega))
  rcases Nat.lt_or_ge i 103 with c | c
  · exact sm_cwk sm_cw3 q (sm_sl hi (by omega) (by omega))
  · exact sm_cwk sm_cw4 q (sm_sl hi (by omega) (by omega))
theorem sm_mgood_of {l : List sm_MT} (h1 : l.all sm_mchk = true) (h0 : l.map (fun q => q.1.cls) = l.map (fun q => sm_own q.2.2.2.2.1)) (h2 : ∀ q ∈ l, lw_cd q ∈ lw_tbl) : ∀ q ∈ l, sm_mgood q := by
  intro q hq
  have a := List.all_eq_true.mp h1 q hq
  have b : Jvm.Cond.code q.1 q.2.1 q.2.2.1 q.2.2.2.1 ∈ lw_tbl := h2 q hq
  unfold sm_mchk at a
  simp only [Bool.and_eq_true, decide_eq_true_eq] at a
  obtain ⟨⟨a1, a3⟩, a5⟩ := a
  have a4 : q.1.cls = sm_own q.2.2.2.2.1 := List.map_inj_left.mp h0 q hq
  obtain ⟨a2, a6, a7⟩ := sm_pn _ a5
  rw [← a4] at a2 a6 a7
  refine ⟨List.mem_filter.mpr ⟨b, rfl⟩, fun hs => ?_, fun hs => ?_, a2, a3, a4, a5, a6, a7⟩
  · rw [hs] at a1
    exact sm_ck_s a1
  · rw [hs] at a1
    simp only [Bool.false_eq_true, if_false, Bool.and_eq_true] at a1
    exact ⟨sm_ck_s a1.1, sm_ck_s a1.2⟩
theorem sm_mgood_all : ∀ q ∈ sm_md, sm_mgood q := by
  unfold sm_md
  exact List.forall_mem_append.mpr ⟨sm_mgood_of sm_mchk0 sm_mcls0 (fun q hq => sm_cwa q (by unfold sm_md; simp only [List.mem_append, hq, true_or, or_true])), List.forall_mem_append.mpr ⟨sm_mgood_of sm_mchk1 sm_mcls1 (fun q hq => sm_cwa q (by unfold sm_md; simp only [List.mem_append, hq, true_or, or_true])), List.forall_mem_append.mpr ⟨sm_mgood_of sm_mchk2 sm_mcls2 (fun q hq => sm_cwa q (by unfold sm_md; simp only [List.mem_append, hq, true_or, or_true])), List.forall_mem_append.mpr ⟨sm_mgood_of sm_mchk3 sm_mcls3 (fun q hq => sm_cwa q (by unfold sm_md; simp only [List.mem_append, hq, true_or, or_true])), List.forall_mem_append.mpr ⟨sm_mgood_of sm_mchk4 sm_mcls4 (fun q hq => sm_cwa q (by unfold sm_md; simp only [List.mem_append, hq, true_or, or_true])), List.forall_mem_append.mpr ⟨sm_mgood_of sm_mchk5 sm_mcls5 (fun q hq => sm_cwa q (by unfold sm_md; simp only [List.mem_append, hq, true_or, or_true])), List.forall_mem_append.mpr ⟨sm_mgood_of sm_mchk6 sm_mcls6 (fun q hq => sm_cwa q (by unfold sm_md; simp only [List.mem_append, hq, true_or, or_true])), sm_mgood_of sm_mchk7 sm_mcls7 (fun q hq => sm_cwa q (by unfold sm_md; simp only [List.mem_append, hq, true_or, or_true]))⟩⟩⟩⟩⟩⟩⟩
def sm_m (k : Nat) : sm_MT := sm_md.getD k (⟨"MiceRegisters", "lower", "()J"⟩, prog_1_method_39_code, 1, some .long, 2, false, 0, 0, 0)
abbrev sm_Y (k : Nat) : MethodName := (sm_m k).1
abbrev sm_CC (k : Nat) : ByteArray := (sm_m k).2.1
abbrev sm_ML (k : Nat) : Nat := (sm_m k).2.2.1
abbrev sm_RT (k : Nat) : Option FieldType := (sm_m k).2.2.2.1
abbrev sm_O (k : Nat) : Nat := (sm_m k).2.2.2.2.1
theorem sm_m_in {k : Nat} (h : k < sm_md.length) : sm_m k ∈ sm_md := by
  unfold sm_m
  rw [List.getD_eq_getElem?_getD, List.getElem?_eq_getElem h]
  exact List.getElem_mem h
theorem sm_md_len : sm_md.length = 200 := by decide +kernel
/-- fields, one class' accesses -/
def sm_fchk (own : String) : List (Nat × Nat × Nat × Nat) → List Nat → Bool
  | [], _ => true
  | _ :: _, [] => false
  | q :: r, i :: is => (match sm_cl[q.2.1]? with
      | some c => decide (q.2.2.1 < c.2.2) && sm_ck i (.fieldLink own q.1 (c.2.1 q.2.2.1).1 (c.2.1 q.2.2.1).2.1 (c.2.1 q.2.2.1).2.2.1) && (decide (q.2.2.2 ≠ 0) || (!(c.2.1 q.2.2.1).2.2.2 && decide (parseFieldDescriptor (c.2.1 q.2.2.1).2.2.1 = some .int))) && (decide (q.2.2.2 ≠ 1) || (!(c.2.1 q.2.2.1).2.2.2 && decide (parseFieldDescriptor (c.2.1 q.2.2.1).2.2.1 = some .long)))
      | none => false) && sm_fchk own r is
theorem sm_cls : ∀ (ci : Nat) (q : vw_C), sm_cl[ci]? = some q → ∃ ty0 : Nat → FieldType, (∀ w ∈ u_ws q.1 q.2.1 q.2.2, w ∈ sm_tb) ∧ (∀ k, k < q.2.2 → parseFieldDescriptor (q.2.1 k).2.2.1 = some (ty0 k)) ∧ (∀ a, a < q.2.2 → ∀ b, b < q.2.2 → a ≠ b → (q.2.1 a).2.1 ≠ (q.2.1 b).2.1) := by
  intro ci q h
  match ci, h with
  | 0, h => cases h; exact ⟨_, sm_u0, sm_ty0, sm_nm0⟩
  | 1, h => cases h; exact ⟨_, sm_u1, sm_ty1, sm_nm1⟩
  | 2, h => cases h; exact ⟨_, sm_u2, sm_ty2, sm_nm2⟩
  | 3, h => cases h; exact ⟨_, sm_u3, sm_ty3, sm_nm3⟩
  | n + 4, h => simp [sm_cl] at h
theorem sm_fchk_s {own : String} : ∀ {l : List (Nat × Nat × Nat × Nat)} {is : List Nat}, sm_fchk own l is = true → ∀ x ci k t, (x, ci, k, t) ∈ l → ∃ (C : String) (T : u_T) (N : Nat) (ty0 : Nat → FieldType), sm_cl[ci]? = some (C, T, N) ∧ k < N ∧ (∀ w ∈ u_ws C T N, w ∈ sm_tb) ∧ (Jvm.Cond.fieldLink own x (T k).1 (T k).2.1 (T k).2.2.1) ∈ sm_tb ∧
    (∀ k, k < N → parseFieldDescriptor (T k).2.2.1 = some (ty0 k)) ∧ (∀ a, a < N → ∀ b, b < N → a ≠ b → (T a).2.1 ≠ (T b).2.1) ∧ (t = 0 → (T k).2.2.2 = false ∧ parseFieldDescriptor (T k).2.2.1 = some .int) ∧ (t = 1 → (T k).2.2.2 = false ∧ parseFieldDescriptor (T k).2.2.1 = some .long)
  | [], _, _ => fun _ _ _ _ h => absurd h List.not_mem_nil
  | _ :: _, [], h => by cases h
  | q :: r, i :: is, h => by
    unfold sm_fchk at h
    rw [Bool.and_eq_true] at h
    intro x ci k t hm
    rcases List.mem_cons.mp hm with rfl | hm
    · have h := h.1
      dsimp only at h
      split at h
      · rename_i c hc
        obtain ⟨ty0, u1, u2, u3⟩ := sm_cls _ _ hc
        simp only [Bool.and_eq_true, Bool.or_eq_true, decide_eq_true_eq, Bool.not_eq_true'] at h
        obtain ⟨⟨⟨h1, h2⟩, h3⟩, h4⟩ := h
        exact ⟨c.1, c.2.1, c.2.2, ty0, hc, h1, u1, sm_ck_s h2, u2, u3, fun e => h3.resolve_left (fun z => z e), fun e => h4.resolve_left (fun z => z e)⟩
      · cases h
    · exact sm_fchk_s h.2 x ci k t hm
/-- calls, one class' -/
def sm_cchk (o : Nat) : List (Nat × Nat × Nat × Nat × Nat) → List Nat → Bool
  | [], _ => true
  | _ :: _, [] => false
  | q :: r, i :: is => decide (q.2.2.1 < sm_md.length) && decide ((parseMethodDescriptor (sm_Y q.2.2.1).desc).map (fun d => d.parameters.length) = some q.2.2.2.1) && sm_ck (match sm_O q.2.2.1 with
      | 0 => 82
      | 1 => 81
      | 2 => 80
      | _ => 83) (.initialized (sm_Y q.2.2.1).cls) && (if q.2.1 = 0 then sm_ck i (.methodLink (sm_own o) q.1 (sm_Y q.2.2.1)) && decide ((sm_m q.2.2.1).2.2.2.2.2.1 = false) && decide (sm_O q.2.2.1 = q.2.2.2.2) && decide (q.2.2.2.2 < 4)
      else if q.2.1 = 1 then sm_ck i (.methodLink (sm_own o) q.1 (sm_Y q.2.2.1)) && decide ((sm_m q.2.2.1).2.2.2.2.2.1 = true) && decide ((sm_Y q.2.2.1).cls = sm_own o)
      else decide ((sm_own o, q.1, sm_Y q.2.2.1, "MiceRegisters") ∈ sm_NS) && decide ((sm_m q.2.2.1).2.2.2.2.2.1 = true)) && sm_cchk o r is
theorem sm_fok0 : sm_fchk (sm_own 0) sm_fl0 sm_fp0 = true := by decide +kernel
theorem sm_cok0 : sm_cchk 0 sm_ca0 sm_cp0 = true := by decide +kernel
theorem sm_iok0 : sm_cks [] (sm_ci0.map fun q => .constant (sm_own 0) q.1 q.2) = true := by decide +kernel
theorem sm_jok0 : sm_cks [] (sm_cj0.map fun q => .constantLong (sm_own 0) q.1 q.2) = true := by decide +kernel
theorem sm_sok0 : sm_cks [] (sm_st0.map fun q => .fieldLink (sm_own 0) q.1 "MiceRegisters" "KIND_LETTERS" "[I") = true := by decide +kernel
theorem sm_nok0 : sm_cks [] (sm_na0.map fun q => .methodLink (sm_own 0) q.1 (match q.2 with | 0 => Lib.Math.max.name | 1 => Lib.Math.min.name | 2 => Lib.Math.abs.name | _ => arraycopyName)) = true := by decide +kernel
theorem sm_fok1 : sm_fchk (sm_own 1) sm_fl1 sm_fp1 = true := by decide +kernel
theorem sm_cok1 : sm_cchk 1 sm_ca1 sm_cp1 = true := by decide +kernel
theorem sm_iok1 : sm_cks [] (sm_ci1.map fun q => .constant (sm_own 1) q.1 q.2) = true := by decide +kernel
theorem sm_jok1 : sm_cks [] (sm_cj1.map fun q => .constantLong (sm_own 1) q.1 q.2) = true := by decide +kernel
theorem sm_sok1 : sm_cks [] (sm_st1.map fun q => .fieldLink (sm_own 1) q.1 "MiceRegisters" "KIND_LETTERS" "[I") = true := by decide +kernel
theorem sm_nok1 : sm_cks [352, 414, 421] (sm_na1.map fun q => .methodLink (sm_own 1) q.1 (match q.2 with | 0 => Lib.Math.max.name | 1 => Lib.Math.min.name | 2 => Lib.Math.abs.name | _ => arraycopyName)) = true := by decide +kernel
theorem sm_fok2 : sm_fchk (sm_own 2) sm_fl2 sm_fp2 = true := by decide +kernel
theorem sm_cok2 : sm_cchk 2 sm_ca2 sm_cp2 = true := by decide +kernel
theorem sm_iok2 : sm_cks [594] (sm_ci2.map fun q => .constant (sm_own 2) q.1 q.2) = true := by decide +kernel
theorem sm_jok2 : sm_cks [585, 595, 596, 645, 646] (sm_cj2.map fun q => .constantLong (sm_own 2) q.1 q.2) = true := by decide +kernel
theorem sm_sok2 : sm_cks [310] (sm_st2.map fun q => .fieldLink (sm_own 2) q.1 "MiceRegisters" "KIND_LETTERS" "[I") = true := by decide +kernel
theorem sm_nok2 : sm_cks [267, 541, 568] (sm_na2.map fun q => .methodLink (sm_own 2) q.1 (match q.2 with | 0 => Lib.Math.max.name | 1 => Lib.Math.min.name | 2 => Lib.Math.abs.name | _ => arraycopyName)) = true := by decide +kernel
theorem sm_fok3 : sm_fchk (sm_own 3) sm_fl3 sm_fp3 = true := by decide +kernel
theorem sm_cok3 : sm_cchk 3 sm_ca3 sm_cp3 = true := by decide +kernel
theorem sm_iok3 : sm_cks [1038, 1068] (sm_ci3.map fun q => .constant (sm_own 3) q.1 q.2) = true := by decide +kernel
theorem sm_jok3 : sm_cks [750, 801, 891, 936, 953, 966, 967, 972, 1017, 1047, 1076, 1093, 1094, 1095, 1100, 1101, 1118, 1143, 1144] (sm_cj3.map fun q => .constantLong (sm_own 3) q.1 q.2) = true := by decide +kernel
theorem sm_sok3 : sm_cks [] (sm_st3.map fun q => .fieldLink (sm_own 3) q.1 "MiceRegisters" "KIND_LETTERS" "[I") = true := by decide +kernel
theorem sm_nok3 : sm_cks [] (sm_na3.map fun q => .methodLink (sm_own 3) q.1 (match q.2 with | 0 => Lib.Math.max.name | 1 => Lib.Math.min.name | 2 => Lib.Math.abs.name | _ => arraycopyName)) = true := by decide +kernel
theorem sm_fok4 : sm_fchk (sm_own 4) sm_fl4 sm_fp4 = true := by decide +kernel
theorem sm_cok4 : sm_cchk 4 sm_ca4 sm_cp4 = true := by decide +kernel
theorem sm_iok4 : sm_cks [] (sm_ci4.map fun q => .constant (sm_own 4) q.1 q.2) = true := by decide +kernel
theorem sm_jok4 : sm_cks [] (sm_cj4.map fun q => .constantLong (sm_own 4) q.1 q.2) = true := by decide +kernel
theorem sm_sok4 : sm_cks [] (sm_st4.map fun q => .fieldLink (sm_own 4) q.1 "MiceRegisters" "KIND_LETTERS" "[I") = true := by decide +kernel
theorem sm_nok4 : sm_cks [] (sm_na4.map fun q => .methodLink (sm_own 4) q.1 (match q.2 with | 0 => Lib.Math.max.name | 1 => Lib.Math.min.name | 2 => Lib.Math.abs.name | _ => arraycopyName)) = true := by decide +kernel
theorem sm_jdk : ∀ w ∈ ([.static Lib.Math.max.name, .static Lib.Math.min.name, .static Lib.Math.abs.name, .initialized "java/lang/Math", .code Lib.Math.max.name Lib.Math.max.code 2 (some .int), .code Lib.Math.min.name Lib.Math.min.code 2 (some .int), .code Lib.Math.abs.name Lib.Math.abs.code 1 (some .int), .native arraycopyName, .static arraycopyName, .initialized "java/lang/System"] : List Jvm.Cond), w ∈ sm_tb := sm_in [422, 415, 353, 85, 423, 416, 354, 269, 268, 84] (by decide +kernel)
