/-! Tables, printed by a program of mine out of the claim: classes, fields, constants, calls, methods and their instructions. -/
/-- the words that go along with every call -/
def sm_tb : List Jvm.Cond := lw_tbl.filter goodWord
theorem sm_tb_good : sm_tb.all goodWord = true := List.all_eq_true.mpr fun w hw => (List.mem_filter.mp hw).2
theorem sm_tb_sub : ∀ w ∈ sm_tb, w ∈ lw_tbl := fun w hw => (List.mem_filter.mp hw).1
def sm_ck (i : Nat) (w : Jvm.Cond) : Bool := goodWord w && decide (lw_tbl[i]? = some w)
theorem sm_ck_s {i : Nat} {w : Jvm.Cond} (h : sm_ck i w = true) : w ∈ sm_tb := by
  unfold sm_ck at h
  rw [Bool.and_eq_true] at h
  exact List.mem_filter.mpr ⟨List.mem_of_getElem? (of_decide_eq_true h.2), h.1⟩
def sm_cks : List Nat → List Jvm.Cond → Bool
  | i :: is, w :: ws => sm_ck i w && sm_cks is ws
  | _, [] => true
  | [], _ => false
theorem sm_in : ∀ (is : List Nat) {ws : List Jvm.Cond}, sm_cks is ws = true → ∀ w ∈ ws, w ∈ sm_tb
  | _, [], _ => fun w hw => absurd hw List.not_mem_nil
  | [], _ :: _, h => by cases h
  | i :: is, w0 :: ws, h => by
    unfold sm_cks at h
    rw [Bool.and_eq_true] at h
    intro w hw
    rcases List.mem_cons.mp hw with rfl | hw
    · exact sm_ck_s h.1
    · exact sm_in is h.2 w hw
def sm_T0 : u_T := fun k => match k with
  | 0 => ("MiceRegisters$Deeds", "size", "I", false)
  | 1 => ("MiceRegisters$Deeds", "whats", "[I", true)
  | 2 => ("MiceRegisters$Deeds", "lines", "[I", true)
  | _ => ("MiceRegisters$Deeds", "amounts", "[I", true)
def sm_y0 : Nat → FieldType := fun k => match k with
  | 0 => .int
  | 1 => .array (.int)
  | 2 => .array (.int)
  | _ => .array (.int)
theorem sm_nm0 : ∀ a, a < 4 → ∀ b, b < 4 → a ≠ b → (sm_T0 a).2.1 ≠ (sm_T0 b).2.1 := by decide +kernel
theorem sm_ty0 : ∀ k, k < 4 → parseFieldDescriptor (sm_T0 k).2.2.1 = some (sm_y0 k) := by decide +kernel
theorem sm_u0 : ∀ w ∈ u_ws "MiceRegisters$Deeds" sm_T0 4, w ∈ sm_tb := sm_in [173, 175, 177, 179] (by decide +kernel)
def sm_T1 : u_T := fun k => match k with
  | 0 => ("MiceRegisters$Register", "lines", "I", false)
  | 1 => ("MiceRegisters$Register", "mice", "I", false)
  | 2 => ("MiceRegisters$Register", "years", "I", false)
  | 3 => ("MiceRegisters$Register", "catAt", "I", false)
  | 4 => ("MiceRegisters$Register", "waxed", "I", false)
  | 5 => ("MiceRegisters$Register", "wrong", "[I", true)
  | 6 => ("MiceRegisters$Register", "letters", "[I", true)
  | 7 => ("MiceRegisters$Register", "left", "[I", true)
  | 8 => ("MiceRegisters$Register", "cheeses", "[I", true)
  | 9 => ("MiceRegisters$Register", "kinds", "[I", true)
  | 10 => ("MiceRegisters$Register", "teeth", "[I", true)
  | 11 => ("MiceRegisters$Register", "firstPlaces", "[I", true)
  | _ => ("MiceRegisters$Register", "places", "[I", true)
def sm_y1 : Nat → FieldType := fun k => match k with
  | 0 => .int
  | 1 => .int
  | 2 => .int
  | 3 => .int
  | 4 => .int
  | 5 => .array (.int)
  | 6 => .array (.int)
  | 7 => .array (.int)
  | 8 => .array (.int)
  | 9 => .array (.int)
  | 10 => .array (.int)
  | 11 => .array (.int)
  | _ => .array (.int)
theorem sm_nm1 : ∀ a, a < 13 → ∀ b, b < 13 → a ≠ b → (sm_T1 a).2.1 ≠ (sm_T1 b).2.1 := by decide +kernel
theorem sm_ty1 : ∀ k, k < 13 → parseFieldDescriptor (sm_T1 k).2.2.1 = some (sm_y1 k) := by decide +kernel
theorem sm_u1 : ∀ w ∈ u_ws "MiceRegisters$Register" sm_T1 13, w ∈ sm_tb := sm_in [130, 132, 134, 136, 138, 140, 142, 144, 146, 148, 150, 152, 154] (by decide +kernel)
def sm_T2 : u_T := fun k => match k with
  | 0 => ("MiceRegisters", "rowSizes", "[I", true)
  | 1 => ("MiceRegisters", "rows", "[[I", true)
  | 2 => ("MiceRegisters", "textSizes", "[I", true)
  | 3 => ("MiceRegisters", "texts", "[[B", true)
  | 4 => ("MiceRegisters", "now", "LMiceRegisters$Register;", true)
  | 5 => ("MiceRegisters", "aside", "LMiceRegisters$Register;", true)
  | 6 => ("MiceRegisters", "further", "LMiceRegisters$Register;", true)
  | 7 => ("MiceRegisters", "deeds", "LMiceRegisters$Deeds;", true)
  | 8 => ("MiceRegisters", "kept", "[LMiceRegisters$Deeds;", true)
  | 9 => ("MiceRegisters", "whereKindsAre", "[[I", true)
  | 10 => ("MiceRegisters", "findingCounts", "[I", true)
  | 11 => ("MiceRegisters", "latestFinding", "I", false)
  | 12 => ("MiceRegisters", "latestAsked", "I", false)
  | 13 => ("MiceRegisters", "latestUpper", "J", false)
  | _ => ("MiceRegisters", "latestLower", "J", false)
def sm_y2 : Nat → FieldType := fun k => match k with
  | 0 => .array (.int)
  | 1 => .array (.array (.int))
  | 2 => .array (.int)
  | 3 => .array (.array (.byte))
  | 4 => .object "MiceRegisters$Register"
  | 5 => .object "MiceRegisters$Register"
  | 6 => .object "MiceRegisters$Register"
  | 7 => .object "MiceRegisters$Deeds"
  | 8 => .array (.object "MiceRegisters$Deeds")
  | 9 => .array (.array (.int))
  | 10 => .array (.int)
  | 11 => .int
  | 12 => .int
  | 13 => .long
  | _ => .long
theorem sm_nm2 : ∀ a, a < 15 → ∀ b, b < 15 → a ≠ b → (sm_T2 a).2.1 ≠ (sm_T2 b).2.1 := by decide +kernel
theorem sm_ty2 : ∀ k, k < 15 → parseFieldDescriptor (sm_T2 k).2.2.1 = some (sm_y2 k) := by decide +kernel
theorem sm_u2 : ∀ w ∈ u_ws "MiceRegisters" sm_T2 15, w ∈ sm_tb := sm_in [198, 200, 202, 204, 206, 208, 210, 212, 214, 216, 218, 220, 222, 224, 226] (by decide +kernel)
def sm_T3 : u_T := fun k => match k with
  | 0 => ("MiceRegistersModel", "row", "[I", true)
  | 1 => ("MiceRegistersModel", "lines", "I", false)
  | 2 => ("MiceRegistersModel", "wrong", "[I", true)
  | 3 => ("MiceRegistersModel", "letters", "[I", true)
  | 4 => ("MiceRegistersModel", "mice", "I", false)
  | 5 => ("MiceRegistersModel", "kinds", "[I", true)
  | 6 => ("MiceRegistersModel", "teeth", "[I", true)
  | 7 => ("MiceRegistersModel", "sizes", "[I", true)
  | 8 => ("MiceRegistersModel", "items", "[I", true)
  | 9 => ("MiceRegistersModel", "lengths", "[I", true)
  | 10 => ("MiceRegistersModel", "bytes", "[I", true)
  | 11 => ("MiceRegistersModel", "asked", "I", false)
  | 12 => ("MiceRegistersModel", "upper", "J", false)
  | 13 => ("MiceRegistersModel", "lower", "J", false)
  | 14 => ("MiceRegistersModel", "finding", "I", false)
  | 15 => ("MiceRegistersModel", "findings", "[I", true)
  | 16 => ("MiceRegistersModel", "from", "I", false)
  | 17 => ("MiceRegistersModel", "place", "I", false)
  | 18 => ("MiceRegistersModel", "end", "I", false)
  | 19 => ("MiceRegistersModel", "readLines", "I", false)
  | 20 => ("MiceRegistersModel", "readWrong", "[I", true)
  | 21 => ("MiceRegistersModel", "readLetters", "[I", true)
  | 22 => ("MiceRegistersModel", "readMice", "I", false)
  | 23 => ("MiceRegistersModel", "readMouse", "[I", true)
  | 24 => ("MiceRegistersModel", "parts", "[I", true)
  | 25 => ("MiceRegistersModel", "laid", "[I", true)
  | _ => ("MiceRegistersModel", "bests", "[I", true)
def sm_y3 : Nat → FieldType := fun k => match k with
  | 0 => .array (.int)
  | 1 => .int
  | 2 => .array (.int)
  | 3 => .array (.int)
  | 4 => .int
  | 5 => .array (.int)
  | 6 => .array (.int)
  | 7 => .array (.int)
  | 8 => .array (.int)
  | 9 => .array (.int)
  | 10 => .array (.int)
  | 11 => .int
  | 12 => .long
  | 13 => .long
  | 14 => .int
  | 15 => .array (.int)
  | 16 => .int
  | 17 => .int
  | 18 => .int
  | 19 => .int
  | 20 => .array (.int)
  | 21 => .array (.int)
  | 22 => .int
  | 23 => .array (.int)
  | 24 => .array (.int)
  | 25 => .array (.int)
  | _ => .array (.int)
