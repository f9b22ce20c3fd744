def si_B (k : Nat) : si_P := (fun pc => sm_ch (si_tb k) pc, sm_Kn k (si_ML k) none, si_nw k, si_mn k, si_an k, si_sp k, k, si_c1 k, si_s1 k)
def si_wl : List Jvm.Cond := [.initialized "MiceRegisters$Deeds", .initialized "MiceRegisters$Register", .initialized "MiceRegisters", .initialized "MiceRegistersModel", .instantiable "MiceRegisters$Deeds" 4, .instantiable "MiceRegisters$Register" 13, .instantiable "MiceRegisters" 15, .instantiable "MiceRegistersModel" 27,
  .classLink "MiceRegisters" 39 "MiceRegisters$Deeds", .classLink "MiceRegisters" 26 "MiceRegisters$Register", .classLink "MiceRegistersLaw" 7 "MiceRegisters", .classLink "MiceRegistersLaw" 10 "MiceRegistersModel", .classLink "MiceRegisters" 13 "[[I", .classLink "MiceRegisters" 21 "[[B", .arrayClass .int, .arrayClass .byte,
  .methodLink "MiceRegisters$Deeds" 3 Lib.objectInit, .methodLink "MiceRegisters$Register" 3 Lib.objectInit, .methodLink "MiceRegisters" 1 Lib.objectInit, .methodLink "MiceRegistersModel" 1 Lib.objectInit, .instanceMethod Lib.objectInit, .code Lib.objectInit ⟨#[0xb1]⟩ 1 none,
  .instanceMethod (si_Y 0), .instanceMethod (si_Y 1), .instanceMethod (si_Y 2), .instanceMethod (si_Y 3), .methodLink "MiceRegistersLaw" 9 (si_Y 2), .methodLink "MiceRegistersLaw" 12 (si_Y 3), .code (si_Y 0) (si_CC 0) 1 none, .code (si_Y 1) (si_CC 1) 1 none, .code (si_Y 2) (si_CC 2) 2 none, .code (si_Y 3) (si_CC 3) 2 none]
theorem si_wk : ∀ w ∈ si_wl, w ∈ sm_tb := sm_in [82, 81, 80, 83, 160, 99, 87, 656, 159, 98, 86, 655, 94, 96, 157, 158, 164, 103, 91, 660, 92, 93, 162, 101, 89, 658, 88, 657, 163, 102, 90, 659] (by decide +kernel)
theorem si_nf {o : Nat} {args : Array Value} {s : State} (hw : ∀ w ∈ sm_tb, w.before args s = true) {B : si_P} (h1 : B.2.2.1 = si_nw o) (h2 : B.2.2.2.1 = si_mn o) (h3 : B.2.2.2.2.1 = si_an o) (h4 : B.2.2.2.2.2.1 = si_sp o) : si_NF B (sm_own o) args s := by
  have V : ∀ (j : Nat) (w : Jvm.Cond), si_wl[j]? = some w → w.before args s = true := fun j w h => hw w (si_wk w (List.mem_of_getElem? h))
  refine ⟨fun x q hq => ?_, V 14 _ rfl, V 15 _ rfl, fun x t ht => ?_, fun x hx => ?_, fun x hx => ?_, V 20 _ rfl, V 21 _ rfl⟩
  · rw [h1] at hq
    unfold si_nw at hq
    split at hq
    · cases hq
      exact ⟨rfl, by decide, V 9 _ rfl, V 5 _ rfl, V 1 _ rfl⟩
    · cases hq
      exact ⟨rfl, by decide, V 8 _ rfl, V 4 _ rfl, V 0 _ rfl⟩
    · cases hq
      exact ⟨rfl, by decide, V 10 _ rfl, V 6 _ rfl, V 2 _ rfl⟩
    · cases hq
      exact ⟨rfl, by decide, V 11 _ rfl, V 7 _ rfl, V 3 _ rfl⟩
    · cases hq
  · rw [h2] at ht
    unfold si_mn at ht
    split at ht
    · cases ht
      exact Or.inl ⟨rfl, V 12 _ rfl⟩
    · cases ht
      exact Or.inr ⟨rfl, V 13 _ rfl⟩
    · cases ht
  · rw [h3] at hx
    unfold si_an at hx
    split at hx
    · exact V 8 _ rfl
    · cases hx
  · rw [h4] at hx
    unfold si_sp at hx
    split at hx
    · exact V 16 _ rfl
    · exact V 17 _ rfl
    · exact V 18 _ rfl
    · exact V 19 _ rfl
    · cases hx
    · cases hx
    · cases hx
    · cases hx
    · cases hx
