/-! The constructors: their instructions, printed by a program of mine out of the claim; their contracts. -/
def si_t0 : List (Nat × List (Nat × Instr × Nat)) := [(18, [(0, .aload_n 0, 1), (1, .invokespecial 3, 3), (4, .aload_n 0, 1), (5, .iconst 0, 1), (6, .putfield 9, 3), (9, .aload_n 0, 1), (10, .bipush 40, 2), (12, .newarray .int, 2), (14, .putfield 15, 3), (17, .aload_n 0, 1)]),
  (34, [(18, .bipush 40, 2), (20, .newarray .int, 2), (22, .putfield 19, 3), (25, .aload_n 0, 1), (26, .bipush 40, 2), (28, .newarray .int, 2), (30, .putfield 22, 3), (33, .return_, 1)])]
theorem si_d0 : ∀ u ∈ si_t0, ∀ q ∈ u.2, decode prog_2_method_1_code q.1 = .ok q.2 := by decide +kernel
def si_t1 : List (Nat × List (Nat × Instr × Nat)) := [(16, [(0, .aload_n 0, 1), (1, .invokespecial 3, 3), (4, .aload_n 0, 1), (5, .iconst 0, 1), (6, .putfield 9, 3), (9, .aload_n 0, 1), (10, .iconst 0, 1), (11, .putfield 15, 3), (14, .aload_n 0, 1), (15, .iconst 0, 1)]),
  (34, [(16, .putfield 18, 3), (19, .aload_n 0, 1), (20, .bipush (-9), 2), (22, .putfield 21, 3), (25, .aload_n 0, 1), (26, .iconst 0, 1), (27, .putfield 24, 3), (30, .aload_n 0, 1), (31, .bipush 8, 2), (33, .newarray .int, 2)]),
  (55, [(35, .putfield 27, 3), (38, .aload_n 0, 1), (39, .bipush 8, 2), (41, .newarray .int, 2), (43, .putfield 31, 3), (46, .aload_n 0, 1), (47, .bipush 8, 2), (49, .newarray .int, 2), (51, .putfield 34, 3), (54, .aload_n 0, 1)]),
  (72, [(55, .bipush 8, 2), (57, .newarray .int, 2), (59, .putfield 37, 3), (62, .aload_n 0, 1), (63, .iconst 4, 1), (64, .newarray .int, 2), (66, .putfield 40, 3), (69, .aload_n 0, 1), (70, .iconst 4, 1), (71, .newarray .int, 2)]),
  (91, [(73, .putfield 43, 3), (76, .aload_n 0, 1), (77, .iconst 4, 1), (78, .newarray .int, 2), (80, .putfield 46, 3), (83, .aload_n 0, 1), (84, .iconst 4, 1), (85, .newarray .int, 2), (87, .putfield 49, 3), (90, .return_, 1)])]
theorem si_d1 : ∀ u ∈ si_t1, ∀ q ∈ u.2, decode prog_3_method_1_code q.1 = .ok q.2 := by decide +kernel
