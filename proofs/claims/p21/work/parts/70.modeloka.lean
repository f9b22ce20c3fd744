/-! The reference: its contracts hold. Printed by a program of mine. -/
theorem ms_kp : (ms_sg.all fun q => (List.range (q.2.1 + 1 - q.1)).all fun e => !(Nat.ble 1 (q.1 + e) && Nat.ble (q.1 + e) 943) || mr_y ms_sg (1 + (q.1 + e - 1) % 23) q.2.2) = true := by decide +kernel
theorem ms_kz : (ms_sg.all fun q => !(Nat.beq q.1 0) || decide (q.2.2 = [(-1, 40)])) = true := by decide +kernel
theorem ms_kg : ∀ a : Nat, a < 41 → ∀ i : Nat, i < 23 → mr_cp ms_sg [] (1 + 23 * a + i) (1 + i) = true := by
  intro a ha i hi
  have n1 : Nat.ble 1 (1 + 23 * a + i) = true := Nat.ble_eq_true_of_le (by omega)
  have n2 : Nat.ble (1 + 23 * a + i) 943 = true := Nat.ble_eq_true_of_le (by omega)
  have n3 : (1 + 23 * a + i - 1) % 23 = i := by omega
  unfold mr_cp
  rw [Bool.and_eq_true]
  refine ⟨List.all_eq_true.mpr fun q hq => ?_, rfl⟩
  cases hb : (Nat.ble q.1 (1 + 23 * a + i) && Nat.ble (1 + 23 * a + i) q.2.1) with
  | false => rfl
  | true =>
    obtain ⟨b1, b2⟩ := sm_an hb
    have b1 := Nat.le_of_ble_eq_true b1
    have b2 := Nat.le_of_ble_eq_true b2
    have g := List.all_eq_true.mp (List.all_eq_true.mp ms_kp q hq) (1 + 23 * a + i - q.1) (List.mem_range.mpr (by omega))
    try dsimp only at g
    rw [show q.1 + (1 + 23 * a + i - q.1) = 1 + 23 * a + i by omega, n1, n2, n3] at g
    exact g
theorem ms_cg {src dst : Nat} {tr : List (Nat × ar_R)} (h : (ms_sg.all fun q => (List.range (q.2.1 + 1 - q.1)).all fun e => !(Nat.ble dst (q.1 + e) && Nat.ble (q.1 + e) (dst + 943)) || mr_y ms_sg (src + (q.1 + e - dst)) q.2.2) = true) (ht : (tr.all fun p => !(Nat.ble dst p.1 && Nat.ble p.1 (dst + 943)) || mr_y ms_sg (src + (p.1 - dst)) p.2) = true) : ∀ i : Nat, i < 944 → mr_cp ms_sg tr (dst + i) (src + i) = true := by
  intro i hi
  have n1 : Nat.ble dst (dst + i) = true := Nat.ble_eq_true_of_le (by omega)
  have n2 : Nat.ble (dst + i) (dst + 943) = true := Nat.ble_eq_true_of_le (by omega)
  have n3 : dst + i - dst = i := by omega
  unfold mr_cp
  rw [Bool.and_eq_true]
  refine ⟨List.all_eq_true.mpr fun q hq => ?_, List.all_eq_true.mpr fun p hp => ?_⟩
  · cases hb : (Nat.ble q.1 (dst + i) && Nat.ble (dst + i) q.2.1) with
    | false => rfl
    | true =>
      obtain ⟨b1, b2⟩ := sm_an hb
      have b1 := Nat.le_of_ble_eq_true b1
      have b2 := Nat.le_of_ble_eq_true b2
      have g := List.all_eq_true.mp (List.all_eq_true.mp h q hq) (dst + i - q.1) (List.mem_range.mpr (by omega))
      try dsimp only at g
      rw [show q.1 + (dst + i - q.1) = dst + i by omega, n1, n2, n3] at g
      exact g
  · cases hb : Nat.beq p.1 (dst + i) with
    | false => rfl
    | true =>
      have e := Nat.eq_of_beq_eq_true hb
      have g := List.all_eq_true.mp ht p hp
      try dsimp only at g
      rw [e, n1, n2, n3] at g
      exact g
theorem mgo0 {Psi : List va_E → Prop} (hP : ∀ (h : List va_E) (a : Nat) (e : va_E), a ∉ ai_pc → Psi h → Psi (h.set a e)) : ak_ok Psi (sm_Ex 200 sm_ML sm_B 3) mgc0 := mc_ok (d := 0) (vs := (ms_v [(0, 8)] [(0, 4)] ar_t32 ar_t32 [(0, 180)] [(0, 60)] [(-1, 60)] [(0, 8)] [(0, 4)])) hP rfl rfl rfl rfl
theorem mgo6368 {Psi : List va_E → Prop} (hP : ∀ (h : List va_E) (a : Nat) (e : va_E), a ∉ ai_pc → Psi h → Psi (h.set a e)) : ak_ok Psi (sm_Ex 200 sm_ML sm_B 1) mgc6368 := ai_ok (d := 0) rfl rfl rfl hP ak_nil mgk6368
theorem mgo6331 {Psi : List va_E → Prop} (hP : ∀ (h : List va_E) (a : Nat) (e : va_E), a ∉ ai_pc → Psi h → Psi (h.set a e)) : ak_ok Psi (sm_Ex 200 sm_ML sm_B 1) mgc6331 := ai_ok (d := 0) rfl rfl rfl hP ak_nil mgk6331
theorem mgo6369 {Psi : List va_E → Prop} (hP : ∀ (h : List va_E) (a : Nat) (e : va_E), a ∉ ai_pc → Psi h → Psi (h.set a e)) : ak_ok Psi (sm_Ex 200 sm_ML sm_B 1) mgc6369 := ai_ok (d := 0) rfl rfl rfl hP ak_nil mgk6369
theorem mgo6333 {Psi : List va_E → Prop} (hP : ∀ (h : List va_E) (a : Nat) (e : va_E), a ∉ ai_pc → Psi h → Psi (h.set a e)) : ak_ok Psi (sm_Ex 200 sm_ML sm_B 1) mgc6333 := ai_ok (d := 0) rfl rfl rfl hP ak_nil mgk6333
theorem mgo6370 {Psi : List va_E → Prop} (hP : ∀ (h : List va_E) (a : Nat) (e : va_E), a ∉ ai_pc → Psi h → Psi (h.set a e)) : ak_ok Psi (sm_Ex 200 sm_ML sm_B 2) mgc6370 := ai_ok (d := 1) rfl rfl rfl hP (ak_cons (ak_ok_le 1 (by decide) (mgo6369 hP)) (ak_cons (ak_ok_le 1 (by decide) (mgo6333 hP)) ak_nil)) mgk6370
theorem mgo6371 {Psi : List va_E → Prop} (hP : ∀ (h : List va_E) (a : Nat) (e : va_E), a ∉ ai_pc → Psi h → Psi (h.set a e)) : ak_ok Psi (sm_Ex 200 sm_ML sm_B 3) mgc6371 := ai_ok2 (d := 2) rfl rfl rfl hP (ak_cons (ak_ok_le 2 (by decide) (mgo6331 hP)) (ak_cons (ak_ok_le 2 (by decide) (mgo6370 hP)) (ak_cons (ak_ok_le 2 (by decide) (mgo6369 hP)) ak_nil))) mgk6371
theorem mgo6342 {Psi : List va_E → Prop} (hP : ∀ (h : List va_E) (a : Nat) (e : va_E), a ∉ ai_pc → Psi h → Psi (h.set a e)) : ak_ok Psi (sm_Ex 200 sm_ML sm_B 1) mgc6342 := ai_ok (d := 0) rfl rfl rfl hP ak_nil mgk6342
theorem mgo6372 {Psi : List va_E → Prop} (hP : ∀ (h : List va_E) (a : Nat) (e : va_E), a ∉ ai_pc → Psi h → Psi (h.set a e)) : ak_ok Psi (sm_Ex 200 sm_ML sm_B 4) mgc6372 := ai_ok2 (d := 3) rfl rfl rfl hP (ak_cons (ak_ok_le 3 (by decide) (mgo6331 hP)) (ak_cons (ak_ok_le 3 (by decide) (mgo6371 hP)) (ak_cons (ak_ok_le 3 (by decide) (mgo6342 hP)) ak_nil))) mgk6372
theorem mgo6373 {Psi : List va_E → Prop} (hP : ∀ (h : List va_E) (a : Nat) (e : va_E), a ∉ ai_pc → Psi h → Psi (h.set a e)) : ak_ok Psi (sm_Ex 200 sm_ML sm_B 5) mgc6373 := ai_ok2 (d := 4) rfl rfl rfl hP (ak_cons (ak_ok_le 4 (by decide) (mgo6372 hP)) ak_nil) mgk6373
theorem mgo6412 {Psi : List va_E → Prop} (hP : ∀ (h : List va_E) (a : Nat) (e : va_E), a ∉ ai_pc → Psi h → Psi (h.set a e)) : ak_ok Psi (sm_Ex 200 sm_ML sm_B 6) mgc6412 := ai_ok (d := 5) rfl rfl rfl hP (ak_cons (ak_ok_le 5 (by decide) (mgo6368 hP)) (ak_cons (ak_ok_le 5 (by decide) (mgo6373 hP)) ak_nil)) mgk6412
theorem mgo6413 {Psi : List va_E → Prop} (hP : ∀ (h : List va_E) (a : Nat) (e : va_E), a ∉ ai_pc → Psi h → Psi (h.set a e)) : ak_ok Psi (sm_Ex 200 sm_ML sm_B 6) mgc6413 := ai_ok (d := 5) rfl rfl rfl hP (ak_cons (ak_ok_le 5 (by decide) (mgo6368 hP)) (ak_cons (ak_ok_le 5 (by decide) (mgo6373 hP)) ak_nil)) mgk6413
theorem mgo6414 {Psi : List va_E → Prop} (hP : ∀ (h : List va_E) (a : Nat) (e : va_E), a ∉ ai_pc → Psi h → Psi (h.set a e)) : ak_ok Psi (sm_Ex 200 sm_ML sm_B 6) mgc6414 := ai_ok (d := 5) rfl rfl rfl hP (ak_cons (ak_ok_le 5 (by decide) (mgo6368 hP)) (ak_cons (ak_ok_le 5 (by decide) (mgo6373 hP)) ak_nil)) mgk6414
theorem ms_du : ∀ q ∈ mgc1.2.2.1, (q.1 = 81 → q.2 = .inl (3, (ms_v [(0, 8)] [(0, 4)] ar_t32 ar_t32 [(0, 180)] [(0, 60)] [(-1, 60)] [(0, 8)] [(0, 4)]))) ∧ (q.1 = 97 → q.2 = .inr (.inl (0, 5, [], []))) ∧ (q.1 = 96 → q.2 = .inr (.inl (0, 4, [(0, 3, [(0, 9)])], []))) := List.forall_mem_cons.mpr ⟨⟨fun _ => rfl, fun h => absurd (show (81 : Nat) = 97 from h) (by decide), fun h => absurd (show (81 : Nat) = 96 from h) (by decide)⟩, List.forall_mem_cons.mpr ⟨⟨fun h => absurd (show (82 : Nat) = 81 from h) (by decide), fun h => absurd (show (82 : Nat) = 97 from h) (by decide), fun h => absurd (show (82 : Nat) = 96 from h) (by decide)⟩, List.forall_mem_cons.mpr ⟨⟨fun h => absurd (show (83 : Nat) = 81 from h) (by decide), fun h => absurd (show (83 : Nat) = 97 from h) (by decide), fun h => absurd (show (83 : Nat) = 96 from h) (by decide)⟩, List.forall_mem_cons.mpr ⟨⟨fun h => absurd (show (85 : Nat) = 81 from h) (by decide), fun h => absurd (show (85 : Nat) = 97 from h) (by decide), fun h => absurd (show (85 : Nat) = 96 from h) (by decide)⟩, List.forall_mem_cons.mpr ⟨⟨fun h => absurd (show (86 : Nat) = 81 from h) (by decide), fun h => absurd (show (86 : Nat) = 97 from h) (by decide), fun h => absurd (show (86 : Nat) = 96 from h) (by decide)⟩, List.forall_mem_cons.mpr ⟨⟨fun h => absurd (show (96 : Nat) = 81 from h) (by decide), fun h => absurd (show (96 : Nat) = 97 from h) (by decide), fun _ => rfl⟩, List.forall_mem_cons.mpr ⟨⟨fun h => absurd (show (97 : Nat) = 81 from h) (by decide), fun _ => rfl, fun h => absurd (show (97 : Nat) = 96 from h) (by decide)⟩, fun _ z => absurd z List.not_mem_nil⟩⟩⟩⟩⟩⟩⟩
theorem ms_dp : ∀ q ∈ (mgc1.2.2.2.2.headD ([], none, [])).2.2, q ∈ mgc1.2.2.1 := List.forall_mem_cons.mpr ⟨(List.mem_of_getElem? (i := 0) rfl), List.forall_mem_cons.mpr ⟨(List.mem_of_getElem? (i := 1) rfl), List.forall_mem_cons.mpr ⟨(List.mem_of_getElem? (i := 5) rfl), List.forall_mem_cons.mpr ⟨(List.mem_of_getElem? (i := 6) rfl), fun _ z => absurd z List.not_mem_nil⟩⟩⟩⟩
theorem ms_dm {Psi : List va_E → Prop} (hP : ∀ (h : List va_E) (a : Nat) (e : va_E), a ∉ ai_pc → Psi h → Psi (h.set a e)) : ∀ A : Int32, A.toInt = 0 ∨ A.toInt = 2 ∨ A.toInt = 4 → du_M Psi (sm_Ex 200 sm_ML sm_B 6) mgc1.2.2.1 A := fun A hA => by
  rcases hA with hA | hA | hA
  · exact du_mo (k := 6) (by decide) (mgo6412 hP) rfl (by rw [hA]; rfl) (by decide +kernel) (by decide +kernel) (by decide +kernel) (by decide +kernel)
  · exact du_mo (k := 6) (by decide) (mgo6413 hP) rfl (by rw [hA]; rfl) (by decide +kernel) (by decide +kernel) (by decide +kernel) (by decide +kernel)
  · exact du_mo (k := 6) (by decide) (mgo6414 hP) rfl (by rw [hA]; rfl) (by decide +kernel) (by decide +kernel) (by decide +kernel) (by decide +kernel)
theorem mgo1 {Psi : List va_E → Prop} (hP : ∀ (h : List va_E) (a : Nat) (e : va_E), a ∉ ai_pc → Psi h → Psi (h.set a e)) : ak_ok Psi (sm_Ex 200 sm_ML sm_B 7) mgc1 := du_ok (d := 4) (H := mgc1.2.2.1) (PH := (mgc1.2.2.2.2.headD ([], none, [])).2.2) (vs := (ms_v [(0, 8)] [(0, 4)] ar_t32 ar_t32 [(0, 180)] [(0, 60)] [(-1, 60)] [(0, 8)] [(0, 4)])) hP (List.mem_of_getElem? (i := 0) rfl) (fun c hc => (ms_du _ hc).1 rfl) (fun c hc => (ms_du _ hc).2.1 rfl) (List.mem_of_getElem? (i := 6) rfl) (fun c hc => (ms_du _ hc).2.2 rfl) (List.mem_of_getElem? (i := 5) rfl) ms_dp rfl rfl rfl rfl (ms_dm hP)
theorem mgo2 {Psi : List va_E → Prop} (hP : ∀ (h : List va_E) (a : Nat) (e : va_E), a ∉ ai_pc → Psi h → Psi (h.set a e)) : ak_ok Psi (sm_Ex 200 sm_ML sm_B 1) mgc2 := ai_ok (d := 0) rfl rfl rfl hP ak_nil mgk2
theorem mgo3 {Psi : List va_E → Prop} (hP : ∀ (h : List va_E) (a : Nat) (e : va_E), a ∉ ai_pc → Psi h → Psi (h.set a e)) : ak_ok Psi (sm_Ex 200 sm_ML sm_B 2) mgc3 := ai_ok (d := 1) rfl rfl rfl hP (ak_cons (ak_ok_le 1 (by decide) (mgo2 hP)) ak_nil) mgk3
theorem mgo4 {Psi : List va_E → Prop} (hP : ∀ (h : List va_E) (a : Nat) (e : va_E), a ∉ ai_pc → Psi h → Psi (h.set a e)) : ak_ok Psi (sm_Ex 200 sm_ML sm_B 1) mgc4 := ai_ok (d := 0) rfl rfl rfl hP ak_nil mgk4
theorem mgo5 {Psi : List va_E → Prop} (hP : ∀ (h : List va_E) (a : Nat) (e : va_E), a ∉ ai_pc → Psi h → Psi (h.set a e)) : ak_ok Psi (sm_Ex 200 sm_ML sm_B 1) mgc5 := ai_ok2 (d := 0) rfl rfl rfl hP ak_nil mgk5
theorem mgo6 {Psi : List va_E → Prop} (hP : ∀ (h : List va_E) (a : Nat) (e : va_E), a ∉ ai_pc → Psi h → Psi (h.set a e)) : ak_ok Psi (sm_Ex 200 sm_ML sm_B 3) mgc6 := ai_ok (d := 2) rfl rfl rfl hP (ak_cons (ak_ok_le 2 (by decide) (mgo3 hP)) (ak_cons (ak_ok_le 2 (by decide) (mgo4 hP)) (ak_cons (ak_ok_le 2 (by decide) (mgo5 hP)) ak_nil))) mgk6
theorem mgo7 {Psi : List va_E → Prop} (hP : ∀ (h : List va_E) (a : Nat) (e : va_E), a ∉ ai_pc → Psi h → Psi (h.set a e)) : ak_ok Psi (sm_Ex 200 sm_ML sm_B 1) mgc7 := ai_ok (d := 0) rfl rfl rfl hP ak_nil mgk7
theorem mgo8 {Psi : List va_E → Prop} (hP : ∀ (h : List va_E) (a : Nat) (e : va_E), a ∉ ai_pc → Psi h → Psi (h.set a e)) : ak_ok Psi (sm_Ex 200 sm_ML sm_B 3) mgc8 := ai_ok (d := 2) rfl rfl rfl hP (ak_cons (ak_ok_le 2 (by decide) (mgo3 hP)) (ak_cons (ak_ok_le 2 (by decide) (mgo4 hP)) (ak_cons (ak_ok_le 2 (by decide) (mgo7 hP)) ak_nil))) mgk8
theorem mgo9 {Psi : List va_E → Prop} (hP : ∀ (h : List va_E) (a : Nat) (e : va_E), a ∉ ai_pc → Psi h → Psi (h.set a e)) : ak_ok Psi (sm_Ex 200 sm_ML sm_B 1) mgc9 := ai_ok (d := 0) rfl rfl rfl hP ak_nil mgk9
theorem mgo10 {Psi : List va_E → Prop} (hP : ∀ (h : List va_E) (a : Nat) (e : va_E), a ∉ ai_pc → Psi h → Psi (h.set a e)) : ak_ok Psi (sm_Ex 200 sm_ML sm_B 4) mgc10 := ai_ok (d := 3) rfl rfl rfl hP (ak_cons (ak_ok_le 3 (by decide) (mgo8 hP)) (ak_cons (ak_ok_le 3 (by decide) (mgo9 hP)) ak_nil)) mgk10
theorem mgo11 {Psi : List va_E → Prop} (hP : ∀ (h : List va_E) (a : Nat) (e : va_E), a ∉ ai_pc → Psi h → Psi (h.set a e)) : ak_ok Psi (sm_Ex 200 sm_ML sm_B 4) mgc11 := ai_ok (d := 3) rfl rfl rfl hP (ak_cons (ak_ok_le 3 (by decide) (mgo8 hP)) (ak_cons (ak_ok_le 3 (by decide) (mgo9 hP)) ak_nil)) mgk11
theorem mgo12 {Psi : List va_E → Prop} (hP : ∀ (h : List va_E) (a : Nat) (e : va_E), a ∉ ai_pc → Psi h → Psi (h.set a e)) : ak_ok Psi (sm_Ex 200 sm_ML sm_B 3) mgc12 := ai_ok (d := 2) rfl rfl rfl hP (ak_cons (ak_ok_le 2 (by decide) (mgo3 hP)) (ak_cons (ak_ok_le 2 (by decide) (mgo4 hP)) ak_nil)) mgk12
theorem mgo13 {Psi : List va_E → Prop} (hP : ∀ (h : List va_E) (a : Nat) (e : va_E), a ∉ ai_pc → Psi h → Psi (h.set a e)) : ak_ok Psi (sm_Ex 200 sm_ML sm_B 3) mgc13 := ai_ok2 (d := 2) rfl rfl rfl hP (ak_cons (ak_ok_le 2 (by decide) (mgo3 hP)) (ak_cons (ak_ok_le 2 (by decide) (mgo4 hP)) (ak_cons (ak_ok_le 2 (by decide) (mgo9 hP)) ak_nil))) mgk13
theorem mgo14 {Psi : List va_E → Prop} (hP : ∀ (h : List va_E) (a : Nat) (e : va_E), a ∉ ai_pc → Psi h → Psi (h.set a e)) : ak_ok Psi (sm_Ex 200 sm_ML sm_B 1) mgc14 := ai_ok (d := 0) rfl rfl rfl hP ak_nil mgk14
theorem mgo15 {Psi : List va_E → Prop} (hP : ∀ (h : List va_E) (a : Nat) (e : va_E), a ∉ ai_pc → Psi h → Psi (h.set a e)) : ak_ok Psi (sm_Ex 200 sm_ML sm_B 2) mgc15 := ai_ok (d := 1) rfl rfl rfl hP (ak_cons (ak_ok_le 1 (by decide) (mgo14 hP)) ak_nil) mgk15
theorem mgo16 {Psi : List va_E → Prop} (hP : ∀ (h : List va_E) (a : Nat) (e : va_E), a ∉ ai_pc → Psi h → Psi (h.set a e)) : ak_ok Psi (sm_Ex 200 sm_ML sm_B 3) mgc16 := ai_ok2 (d := 2) rfl rfl rfl hP (ak_cons (ak_ok_le 2 (by decide) (mgo15 hP)) (ak_cons (ak_ok_le 2 (by decide) (mgo4 hP)) ak_nil)) mgk16
theorem mgo17 {Psi : List va_E → Prop} (hP : ∀ (h : List va_E) (a : Nat) (e : va_E), a ∉ ai_pc → Psi h → Psi (h.set a e)) : ak_ok Psi (sm_Ex 200 sm_ML sm_B 1) mgc17 := ai_ok (d := 0) rfl rfl rfl hP ak_nil mgk17
theorem mgo18 {Psi : List va_E → Prop} (hP : ∀ (h : List va_E) (a : Nat) (e : va_E), a ∉ ai_pc → Psi h → Psi (h.set a e)) : ak_ok Psi (sm_Ex 200 sm_ML sm_B 3) mgc18 := ai_ok (d := 2) rfl rfl rfl hP (ak_cons (ak_ok_le 2 (by decide) (mgo15 hP)) (ak_cons (ak_ok_le 2 (by decide) (mgo4 hP)) (ak_cons (ak_ok_le 2 (by decide) (mgo17 hP)) ak_nil))) mgk18
