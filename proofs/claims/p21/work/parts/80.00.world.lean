/-! The worlds of both sides; a public method that keeps its contract leaves them as they are. -/
def kw : aw_H := [(0, .inl (2, [.inl 1, .inl 2, .inl 9, .inl 10, .inl 15, .inl 24, .inl 33, .inl 42, .inl 46, .inl 59, .inl 80, .inr (false, ar_t32), .inr (false, ar_t32), .inr (true, ar_t64), .inr (true, ar_t64)])),
  (1, .inr (.inl (0, 6, [(0, 5, [(-1, 40)])], []))),
  (2, .inr (.inr (.inl (2, [3, 4, 5, 6, 7, 8])))),
  (3, .inr (.inl (0, 40, [], []))),
  (4, .inr (.inl (0, 40, [], []))),
  (5, .inr (.inl (0, 40, [], []))),
  (6, .inr (.inl (0, 40, [], []))),
  (7, .inr (.inl (0, 40, [], []))),
  (8, .inr (.inl (0, 40, [], []))),
  (9, .inr (.inl (0, 4, [(0, 3, [(-1, 60)])], []))),
  (10, .inr (.inr (.inl (3, [11, 12, 13, 14])))),
  (11, .inr (.inl (1, 60, [], []))),
  (12, .inr (.inl (1, 60, [], []))),
  (13, .inr (.inl (1, 60, [], []))),
  (14, .inr (.inl (1, 60, [], []))),
  (15, .inl (1, [.inr (false, [(0, 8)]), .inr (false, [(0, 4)]), .inr (false, ar_t32), .inr (false, ar_t32), .inr (false, ar_t32), .inl 16, .inl 17, .inl 18, .inl 19, .inl 20, .inl 21, .inl 22, .inl 23])),
  (16, .inr (.inl (0, 8, [], []))),
  (17, .inr (.inl (0, 8, [], []))),
  (18, .inr (.inl (0, 8, [], []))),
  (19, .inr (.inl (0, 8, [], []))),
  (20, .inr (.inl (0, 4, [], []))),
  (21, .inr (.inl (0, 4, [], []))),
  (22, .inr (.inl (0, 4, [(0, 3, [(0, 7)])], []))),
  (23, .inr (.inl (0, 4, [(0, 3, [(0, 7)])], []))),
  (24, .inl (1, [.inr (false, [(0, 8)]), .inr (false, [(0, 4)]), .inr (false, ar_t32), .inr (false, ar_t32), .inr (false, ar_t32), .inl 25, .inl 26, .inl 27, .inl 28, .inl 29, .inl 30, .inl 31, .inl 32])),
  (25, .inr (.inl (0, 8, [], []))),
  (26, .inr (.inl (0, 8, [], []))),
  (27, .inr (.inl (0, 8, [], []))),
  (28, .inr (.inl (0, 8, [], []))),
  (29, .inr (.inl (0, 4, [], []))),
  (30, .inr (.inl (0, 4, [], []))),
  (31, .inr (.inl (0, 4, [(0, 3, [(0, 7)])], []))),
  (32, .inr (.inl (0, 4, [(0, 3, [(0, 7)])], []))),
  (33, .inl (1, [.inr (false, [(0, 8)]), .inr (false, [(0, 4)]), .inr (false, ar_t32), .inr (false, ar_t32), .inr (false, ar_t32), .inl 34, .inl 35, .inl 36, .inl 37, .inl 38, .inl 39, .inl 40, .inl 41])),
  (34, .inr (.inl (0, 8, [], []))),
  (35, .inr (.inl (0, 8, [], []))),
  (36, .inr (.inl (0, 8, [], []))),
  (37, .inr (.inl (0, 8, [], []))),
  (38, .inr (.inl (0, 4, [], []))),
  (39, .inr (.inl (0, 4, [], []))),
  (40, .inr (.inl (0, 4, [(0, 3, [(0, 7)])], []))),
  (41, .inr (.inl (0, 4, [(0, 3, [(0, 7)])], []))),
  (42, .inl (0, [.inr (false, [(0, 40)]), .inl 43, .inl 44, .inl 45])),
  (43, .inr (.inr (.inr ()))),
  (44, .inr (.inr (.inr ()))),
  (45, .inr (.inr (.inr ()))),
  (46, .inr (.inr (.inl (4, [47, 51, 55])))),
  (47, .inl (0, [.inr (false, [(-1, 40)]), .inl 48, .inl 49, .inl 50])),
  (48, .inr (.inr (.inr ()))),
  (49, .inr (.inr (.inr ()))),
  (50, .inr (.inr (.inr ()))),
  (51, .inl (0, [.inr (false, [(-1, 40)]), .inl 52, .inl 53, .inl 54])),
  (52, .inr (.inr (.inr ()))),
  (53, .inr (.inr (.inr ()))),
  (54, .inr (.inr (.inr ()))),
  (55, .inl (0, [.inr (false, [(-1, 40)]), .inl 56, .inl 57, .inl 58])),
  (56, .inr (.inr (.inr ()))),
  (57, .inr (.inr (.inr ()))),
  (58, .inr (.inr (.inr ()))),
  (59, .inr (.inr (.inl (2, [60, 61, 62, 63, 64, 65, 66, 67, 68, 69, 70, 71, 72, 73, 74, 75, 76, 77, 78, 79])))),
  (60, .inr (.inl (0, 8, [], []))),
  (61, .inr (.inl (0, 8, [], []))),
  (62, .inr (.inl (0, 8, [], []))),
  (63, .inr (.inl (0, 8, [], []))),
  (64, .inr (.inl (0, 8, [], []))),
  (65, .inr (.inl (0, 8, [], []))),
  (66, .inr (.inl (0, 8, [], []))),
  (67, .inr (.inl (0, 8, [], []))),
  (68, .inr (.inl (0, 8, [], []))),
  (69, .inr (.inl (0, 8, [], []))),
  (70, .inr (.inl (0, 8, [], []))),
  (71, .inr (.inl (0, 8, [], []))),
  (72, .inr (.inl (0, 8, [], []))),
  (73, .inr (.inl (0, 8, [], []))),
  (74, .inr (.inl (0, 8, [], []))),
  (75, .inr (.inl (0, 8, [], []))),
  (76, .inr (.inl (0, 8, [], []))),
  (77, .inr (.inl (0, 8, [], []))),
  (78, .inr (.inl (0, 8, [], []))),
  (79, .inr (.inl (0, 8, [], []))),
  (80, .inr (.inl (0, 6, [], [])))]
def mw (li mi : ar_R) (te : List (Nat × Nat × ar_R)) : aw_H := [(81, ms_o li mi ar_t32 ar_t32 [(0, 180)] [(0, 60)] [(-1, 60)] [(0, 8)] [(0, 4)]),
  (82, ms_r [(0, [(-1, 40)])]),
  (83, .inr (.inl (0, 8, [], []))),
  (84, .inr (.inl (0, 8, [], []))),
  (85, .inr (.inl (0, 4, [], []))),
  (86, .inr (.inl (0, 4, te, []))),
  (87, .inr (.inl (0, 6, [(0, 5, [(-1, 40)])], []))),
  (88, .inr (.inl (0, 240, [], []))),
  (89, .inr (.inl (0, 4, [(0, 3, [(-1, 60)])], []))),
  (90, .inr (.inl (0, 240, [], []))),
  (91, .inr (.inl (0, 6, [], []))),
  (92, .inr (.inl (0, 8, [], []))),
  (93, .inr (.inl (0, 8, [], []))),
  (94, .inr (.inl (0, 12, [(1, 1, [(0, 7)]), (4, 4, [(0, 7)]), (7, 7, [(0, 7)]), (10, 10, [(0, 7)])], [(2, ar_t32), (5, ar_t32), (8, ar_t32), (11, ar_t32)]))),
  (95, .inr (.inl (0, 168, [], []))),
  (96, .inr (.inl (0, 4, [(0, 3, [(0, 9)])], []))),
  (97, .inr (.inl (0, 5, [], [])))]
def mw_li (m : Nat) : ar_R := match m with
  | 0 => [(0, 8)]
  | _ + 1 => [(1, 8)]
def mw_te (m : Nat) : List (Nat × Nat × ar_R) := match m with
  | 0 => []
  | m + 1 => [(0, m, [(1, 9)])]
def mwG : aw_H := mw [(0, 8)] [(0, 4)] []
def mwm (m : Nat) : aw_H := mw (mw_li m) [((m : Int), (m : Int))] (mw_te m)
theorem mw_v (li mi a b c d e f g : ar_R) : ms_v li mi a b c d e f g = ((ms_v [(0, 8)] [(0, 4)] a b c d e f g).set 1 (.inr (false, li))).set 4 (.inr (false, mi)) := rfl
/-- lines, mice and teeth as they were: all as it was -/
theorem mw_keep {li mi : ar_R} {te : List (Nat × Nat × ar_R)} {h h' : List va_E} (hI : aw_h (mw li mi te) h) (hG : aw_h mwG h') (h86 : h'[86]? = h[86]?) (hf : fz_R h h') : aw_h (mw li mi te) h' := by
  have g81 : ∃ e, h'[81]? = some e ∧ aw_c (ms_o li mi ar_t32 ar_t32 [(0, 180)] [(0, 60)] [(-1, 60)] [(0, 8)] [(0, 4)]) e := by
    obtain ⟨e, he, fs, rfl, hl, hv⟩ := hI _ (List.mem_cons_self)
    obtain ⟨e', he', fs', rfl, hl', hv'⟩ := hG _ (List.mem_cons_self)
    obtain ⟨fs1, x1, x2, x3⟩ := hf fs he
    rw [he'] at x1
    cases x1
    refine ⟨_, he', fs', rfl, hl', fun k v w hk hw => ?_⟩
    rw [mw_v] at hk hv
    by_cases k4 : k = 4
    · subst k4
      exact hv 4 v w hk (by rw [← x3]; exact hw)
    · rw [List.getElem?_set_ne (fun z => k4 z.symm)] at hk
      by_cases k1 : k = 1
      · subst k1
        exact hv 1 v w (by rw [List.getElem?_set_ne (by decide)]; exact hk) (by rw [← x2]; exact hw)
      · rw [List.getElem?_set_ne (fun z => k1 z.symm)] at hk
        exact hv' k v w hk hw
  have g86 : ∃ e, h'[86]? = some e ∧ aw_c (.inr (.inl (0, 4, te, []))) e := by
    rw [h86]
    exact hI (86, .inr (.inl (0, 4, te, []))) (by unfold mw; simp)
  intro q hq
  unfold mw at hq
  rcases List.mem_cons.mp hq with rfl | hq
  · exact g81
  rcases List.mem_cons.mp hq with rfl | hq
  · exact hG _ (by unfold mwG mw; exact List.mem_cons_of_mem _ List.mem_cons_self)
  rcases List.mem_cons.mp hq with rfl | hq
  · exact hG _ (by unfold mwG mw; iterate 2 apply List.mem_cons_of_mem
                   exact List.mem_cons_self)
  rcases List.mem_cons.mp hq with rfl | hq
  · exact hG _ (by unfold mwG mw; iterate 3 apply List.mem_cons_of_mem
                   exact List.mem_cons_self)
  rcases List.mem_cons.mp hq with rfl | hq
  · exact hG _ (by unfold mwG mw; iterate 4 apply List.mem_cons_of_mem
                   exact List.mem_cons_self)
  rcases List.mem_cons.mp hq with rfl | hq
  · exact g86
  exact hG q (by unfold mwG mw; iterate 6 apply List.mem_cons_of_mem
                 exact hq)
/-- what is to be seen of a contract of the reference -/
def mg_b (W : aw_H) (c : ak_C) : Bool := ah_sub W c.2.2.1 && ((c.2.2.2.1.all fun a => Nat.ble 81 a && !(Nat.beq a 86)) && c.2.2.2.2.all fun q => ah_sub (ak_hp c.2.2.2.1 q.2.2 W) mwG)
/-- of a contract of the class -/
def kg_b (c : ak_C) : Bool := ah_sub kw c.2.2.1 && ((c.2.2.2.1.all fun a => Nat.blt a 81) && c.2.2.2.2.all fun q => ah_sub (ak_hp c.2.2.2.1 q.2.2 kw) kw)
/-- cells that are the same fit the same -/
theorem aw_same {H : aw_H} {h h' : List va_E} (hH : aw_h H h) (hs : ∀ q ∈ H, h'[q.1]? = h[q.1]?) : aw_h H h' := by
  intro q hq
  obtain ⟨e, he, hc⟩ := hH q hq
  exact ⟨e, by rw [hs q hq]; exact he, hc⟩
theorem kw_lt : (kw.all fun q => Nat.blt q.1 81) = true := by decide +kernel
theorem mw_ge (li mi : ar_R) (te : List (Nat × Nat × ar_R)) : ((mw li mi te).all fun q => Nat.ble 81 q.1) = true := rfl
theorem kw_same {h h' : List va_E} (hH : aw_h kw h) (hs : ∀ a, a < 81 → h'[a]? = h[a]?) : aw_h kw h' := aw_same hH (fun q hq => hs _ (Nat.le_of_ble_eq_true (List.all_eq_true.mp kw_lt q hq)))
theorem mw_same {li mi : ar_R} {te : List (Nat × Nat × ar_R)} {h h' : List va_E} (hH : aw_h (mw li mi te) h) (hs : ∀ a, 81 ≤ a → h'[a]? = h[a]?) : aw_h (mw li mi te) h' := aw_same hH (fun q hq => hs _ (Nat.le_of_ble_eq_true (List.all_eq_true.mp (mw_ge li mi te) q hq)))
/-- both sides' world: mice and teeth as the last register laid them -/
def lw_I (h : List va_E) : Prop := ps_h h ∧ aw_h kw h ∧ ∃ m : Nat, m < 5 ∧ aw_h (mwm m) h

