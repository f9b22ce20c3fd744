/-! Contracts over ranges of the reference, and their checks; printed by a program of mine. -/
theorem mgk6327_762 : ai_go [mgc29, mgc6042, mgc6045] mgc6327 mgb6327 [81, 92, 93, 94] 0 [42, 46, 86] [] [mgn6327_769, mgn6327_777, mgn6327_786, mgn6327_763] 2000 true mgn6327_762.1 mgn6327_762.2 = true := by decide +kernel
theorem mgk6327_763 : ai_go [mgc6290] mgc6327 mgb6327 [81, 92, 93, 94] 0 [42, 46, 86] [] [mgn6327_809, mgn6327_804, mgn6327_805, mgn6327_795, mgn6327_797, mgn6327_788, mgn6327_772, mgn6327_764] 2000 true mgn6327_763.1 mgn6327_763.2 = true := by decide +kernel
theorem mgk6327_764 : ai_go [mgc26, mgc6179, mgc6182] mgc6327 mgb6327 [81, 92, 93, 94] 0 [42, 46, 86] [] [mgn6327_768, mgn6327_776, mgn6327_792, mgn6327_765] 2000 true mgn6327_764.1 mgn6327_764.2 = true := by decide +kernel
theorem mgk6327_765 : ai_go [mgc6306] mgc6327 mgb6327 [81, 92, 93, 94] 0 [42, 46, 86] [] [mgn6327_803, mgn6327_801, mgn6327_790, mgn6327_774, mgn6327_766] 2000 true mgn6327_765.1 mgn6327_765.2 = true := by decide +kernel
theorem mgk6327_766 : ai_go [mgc23, mgc6244, mgc6245] mgc6327 mgb6327 [81, 92, 93, 94] 0 [42, 46, 86] [] [mgn6327_767] 2000 true mgn6327_766.1 mgn6327_766.2 = true := by decide +kernel
theorem mgk6327_767 : ai_go [] mgc6327 mgb6327 [81, 92, 93, 94] 0 [42, 46, 86] [] [] 2000 true mgn6327_767.1 mgn6327_767.2 = true := by decide +kernel
theorem mgk6327_768 : ai_go [] mgc6327 mgb6327 [81, 92, 93, 94] 0 [42, 46, 86] [] [] 2000 true mgn6327_768.1 mgn6327_768.2 = true := by decide +kernel
theorem mgk6327_769 : ai_go [] mgc6327 mgb6327 [81, 92, 93, 94] 0 [42, 46, 86] [] [] 2000 true mgn6327_769.1 mgn6327_769.2 = true := by decide +kernel
theorem mgk6327_770 : ai_go [mgc28, mgc6046, mgc6049] mgc6327 mgb6327 [81, 92, 93, 94] 0 [42, 46, 86] [] [mgn6327_777, mgn6327_786, mgn6327_811, mgn6327_771] 2000 true mgn6327_770.1 mgn6327_770.2 = true := by decide +kernel
theorem mgk6327_771 : ai_go [mgc6295] mgc6327 mgb6327 [81, 92, 93, 94] 0 [42, 46, 86] [] [mgn6327_809, mgn6327_804, mgn6327_805, mgn6327_795, mgn6327_797, mgn6327_788, mgn6327_772] 2000 true mgn6327_771.1 mgn6327_771.2 = true := by decide +kernel
theorem mgk6327_772 : ai_go [mgc25, mgc6183, mgc6186] mgc6327 mgb6327 [81, 92, 93, 94] 0 [42, 46, 86] [] [mgn6327_776, mgn6327_792, mgn6327_799, mgn6327_773] 2000 true mgn6327_772.1 mgn6327_772.2 = true := by decide +kernel
theorem mgk6327_773 : ai_go [mgc6311] mgc6327 mgb6327 [81, 92, 93, 94] 0 [42, 46, 86] [] [mgn6327_803, mgn6327_801, mgn6327_790, mgn6327_774] 2000 true mgn6327_773.1 mgn6327_773.2 = true := by decide +kernel
theorem mgk6327_774 : ai_go [mgc22, mgc6246, mgc6247] mgc6327 mgb6327 [81, 92, 93, 94] 0 [42, 46, 86] [] [mgn6327_775] 2000 true mgn6327_774.1 mgn6327_774.2 = true := by decide +kernel
theorem mgk6327_775 : ai_go [] mgc6327 mgb6327 [81, 92, 93, 94] 0 [42, 46, 86] [] [] 2000 true mgn6327_775.1 mgn6327_775.2 = true := by decide +kernel
theorem mgk6327_776 : ai_go [] mgc6327 mgb6327 [81, 92, 93, 94] 0 [42, 46, 86] [] [] 2000 true mgn6327_776.1 mgn6327_776.2 = true := by decide +kernel
theorem mgk6327_777 : ai_go [] mgc6327 mgb6327 [81, 92, 93, 94] 0 [42, 46, 86] [] [] 2000 true mgn6327_777.1 mgn6327_777.2 = true := by decide +kernel
theorem mgk6327_778 : ai_go [mgc20, mgc6078, mgc6080] mgc6327 mgb6327 [81, 92, 93, 94] 0 [42, 46, 86] [] [mgn6327_782, mgn6327_779] 2000 true mgn6327_778.1 mgn6327_778.2 = true := by decide +kernel
theorem mgk6327_779 : ai_go [] mgc6327 mgb6327 [81, 92, 93, 94] 0 [42, 46, 86] [] [] 2000 true mgn6327_779.1 mgn6327_779.2 = true := by decide +kernel
theorem mgk6327_780 : ai_go [mgc22, mgc6070, mgc6073] mgc6327 mgb6327 [81, 92, 93, 94] 0 [42, 46, 86] [] [mgn6327_781, mgn6327_784, mgn6327_782, mgn6327_783] 2000 true mgn6327_780.1 mgn6327_780.2 = true := by decide +kernel
theorem mgk6327_781 : ai_go [] mgc6327 mgb6327 [81, 92, 93, 94] 0 [42, 46, 86] [] [] 2000 true mgn6327_781.1 mgn6327_781.2 = true := by decide +kernel
theorem mgk6327_782 : ai_go [] mgc6327 mgb6327 [81, 92, 93, 94] 0 [42, 46, 86] [] [] 2000 true mgn6327_782.1 mgn6327_782.2 = true := by decide +kernel
theorem mgk6327_783 : ai_go [mgc6325] mgc6327 mgb6327 [81, 92, 93, 94] 0 [42, 46, 86] [] [mgn6327_809] 2000 true mgn6327_783.1 mgn6327_783.2 = true := by decide +kernel
theorem mgk6327_784 : ai_go [] mgc6327 mgb6327 [81, 92, 93, 94] 0 [42, 46, 86] [] [] 2000 true mgn6327_784.1 mgn6327_784.2 = true := by decide +kernel
theorem mgk6327_785 : ai_go [mgc27, mgc6050, mgc6053] mgc6327 mgb6327 [81, 92, 93, 94] 0 [42, 46, 86] [] [mgn6327_786, mgn6327_811, mgn6327_810, mgn6327_787] 2000 true mgn6327_785.1 mgn6327_785.2 = true := by decide +kernel
theorem mgk6327_786 : ai_go [] mgc6327 mgb6327 [81, 92, 93, 94] 0 [42, 46, 86] [] [] 2000 true mgn6327_786.1 mgn6327_786.2 = true := by decide +kernel
theorem mgk6327_787 : ai_go [mgc6300] mgc6327 mgb6327 [81, 92, 93, 94] 0 [42, 46, 86] [] [mgn6327_809, mgn6327_804, mgn6327_805, mgn6327_795, mgn6327_797, mgn6327_788] 2000 true mgn6327_787.1 mgn6327_787.2 = true := by decide +kernel
theorem mgk6327_788 : ai_go [mgc24, mgc6187, mgc6190] mgc6327 mgb6327 [81, 92, 93, 94] 0 [42, 46, 86] [] [mgn6327_792, mgn6327_799, mgn6327_798, mgn6327_789] 2000 true mgn6327_788.1 mgn6327_788.2 = true := by decide +kernel
theorem mgk6327_789 : ai_go [mgc6316] mgc6327 mgb6327 [81, 92, 93, 94] 0 [42, 46, 86] [] [mgn6327_803, mgn6327_801, mgn6327_790] 2000 true mgn6327_789.1 mgn6327_789.2 = true := by decide +kernel
theorem mgk6327_790 : ai_go [mgc21, mgc6248, mgc6249] mgc6327 mgb6327 [81, 92, 93, 94] 0 [42, 46, 86] [] [mgn6327_791] 2000 true mgn6327_790.1 mgn6327_790.2 = true := by decide +kernel
theorem mgk6327_791 : ai_go [] mgc6327 mgb6327 [81, 92, 93, 94] 0 [42, 46, 86] [] [] 2000 true mgn6327_791.1 mgn6327_791.2 = true := by decide +kernel
theorem mgk6327_792 : ai_go [] mgc6327 mgb6327 [81, 92, 93, 94] 0 [42, 46, 86] [] [] 2000 true mgn6327_792.1 mgn6327_792.2 = true := by decide +kernel
theorem mgk6327_793 : ai_go [mgc26, mgc6054, mgc6057] mgc6327 mgb6327 [81, 92, 93, 94] 0 [42, 46, 86] [] [mgn6327_811, mgn6327_810, mgn6327_812, mgn6327_794] 2000 true mgn6327_793.1 mgn6327_793.2 = true := by decide +kernel
theorem mgk6327_794 : ai_go [mgc6305] mgc6327 mgb6327 [81, 92, 93, 94] 0 [42, 46, 86] [] [mgn6327_809, mgn6327_804, mgn6327_805, mgn6327_795, mgn6327_797] 2000 true mgn6327_794.1 mgn6327_794.2 = true := by decide +kernel
theorem mgk6327_795 : ai_go [mgc22, mgc6195, mgc6198] mgc6327 mgb6327 [81, 92, 93, 94] 0 [42, 46, 86] [] [mgn6327_798, mgn6327_807, mgn6327_808, mgn6327_796] 2000 true mgn6327_795.1 mgn6327_795.2 = true := by decide +kernel
theorem mgk6327_796 : ai_go [mgc6326] mgc6327 mgb6327 [81, 92, 93, 94] 0 [42, 46, 86] [] [mgn6327_803] 2000 true mgn6327_796.1 mgn6327_796.2 = true := by decide +kernel
theorem mgk6327_797 : ai_go [mgc23, mgc6191, mgc6194] mgc6327 mgb6327 [81, 92, 93, 94] 0 [42, 46, 86] [] [mgn6327_799, mgn6327_798, mgn6327_807, mgn6327_800] 2000 true mgn6327_797.1 mgn6327_797.2 = true := by decide +kernel
theorem mgk6327_798 : ai_go [] mgc6327 mgb6327 [81, 92, 93, 94] 0 [42, 46, 86] [] [] 2000 true mgn6327_798.1 mgn6327_798.2 = true := by decide +kernel
theorem mgk6327_799 : ai_go [] mgc6327 mgb6327 [81, 92, 93, 94] 0 [42, 46, 86] [] [] 2000 true mgn6327_799.1 mgn6327_799.2 = true := by decide +kernel
theorem mgk6327_800 : ai_go [mgc6321] mgc6327 mgb6327 [81, 92, 93, 94] 0 [42, 46, 86] [] [mgn6327_803, mgn6327_801] 2000 true mgn6327_800.1 mgn6327_800.2 = true := by decide +kernel
theorem mgk6327_801 : ai_go [mgc20, mgc6250, mgc6251] mgc6327 mgb6327 [81, 92, 93, 94] 0 [42, 46, 86] [] [mgn6327_802] 2000 true mgn6327_801.1 mgn6327_801.2 = true := by decide +kernel
theorem mgk6327_802 : ai_go [] mgc6327 mgb6327 [81, 92, 93, 94] 0 [42, 46, 86] [] [] 2000 true mgn6327_802.1 mgn6327_802.2 = true := by decide +kernel
theorem mgk6327_803 : ai_go [] mgc6327 mgb6327 [81, 92, 93, 94] 0 [42, 46, 86] [] [] 2000 true mgn6327_803.1 mgn6327_803.2 = true := by decide +kernel
theorem mgk6327_804 : ai_go [mgc20, mgc6203, mgc6205] mgc6327 mgb6327 [81, 92, 93, 94] 0 [42, 46, 86] [] [mgn6327_808, mgn6327_806] 2000 true mgn6327_804.1 mgn6327_804.2 = true := by decide +kernel
theorem mgk6327_805 : ai_go [mgc21, mgc6199, mgc6202] mgc6327 mgb6327 [81, 92, 93, 94] 0 [42, 46, 86] [] [mgn6327_807, mgn6327_808, mgn6327_806] 2000 true mgn6327_805.1 mgn6327_805.2 = true := by decide +kernel
theorem mgk6327_806 : ai_go [] mgc6327 mgb6327 [81, 92, 93, 94] 0 [42, 46, 86] [] [] 2000 true mgn6327_806.1 mgn6327_806.2 = true := by decide +kernel
theorem mgk6327_807 : ai_go [] mgc6327 mgb6327 [81, 92, 93, 94] 0 [42, 46, 86] [] [] 2000 true mgn6327_807.1 mgn6327_807.2 = true := by decide +kernel
theorem mgk6327_808 : ai_go [] mgc6327 mgb6327 [81, 92, 93, 94] 0 [42, 46, 86] [] [] 2000 true mgn6327_808.1 mgn6327_808.2 = true := by decide +kernel
theorem mgk6327_809 : ai_go [] mgc6327 mgb6327 [81, 92, 93, 94] 0 [42, 46, 86] [] [] 2000 true mgn6327_809.1 mgn6327_809.2 = true := by decide +kernel
theorem mgk6327_810 : ai_go [] mgc6327 mgb6327 [81, 92, 93, 94] 0 [42, 46, 86] [] [] 2000 true mgn6327_810.1 mgn6327_810.2 = true := by decide +kernel
theorem mgk6327_811 : ai_go [] mgc6327 mgb6327 [81, 92, 93, 94] 0 [42, 46, 86] [] [] 2000 true mgn6327_811.1 mgn6327_811.2 = true := by decide +kernel
theorem mgk6327_812 : ai_go [] mgc6327 mgb6327 [81, 92, 93, 94] 0 [42, 46, 86] [] [] 2000 true mgn6327_812.1 mgn6327_812.2 = true := by decide +kernel
theorem mgk6327_813 : ai_go [] mgc6327 mgb6327 [81, 92, 93, 94] 0 [42, 46, 86] [] [] 2000 true mgn6327_813.1 mgn6327_813.2 = true := by decide +kernel
theorem mgk6327_814 : ai_go [] mgc6327 mgb6327 [81, 92, 93, 94] 0 [42, 46, 86] [] [] 2000 true mgn6327_814.1 mgn6327_814.2 = true := by decide +kernel
theorem mgk6327_815 : ai_go [] mgc6327 mgb6327 [81, 92, 93, 94] 0 [42, 46, 86] [] [] 2000 true mgn6327_815.1 mgn6327_815.2 = true := by decide +kernel
theorem mgk6327_816 : ai_go [] mgc6327 mgb6327 [81, 92, 93, 94] 0 [42, 46, 86] [] [] 2000 true mgn6327_816.1 mgn6327_816.2 = true := by decide +kernel
theorem mgk6327_817 : ai_go [] mgc6327 mgb6327 [81, 92, 93, 94] 0 [42, 46, 86] [] [] 2000 true mgn6327_817.1 mgn6327_817.2 = true := by decide +kernel
theorem mgk6327_818 : ai_go [] mgc6327 mgb6327 [81, 92, 93, 94] 0 [42, 46, 86] [] [] 2000 true mgn6327_818.1 mgn6327_818.2 = true := by decide +kernel
theorem mgw6327 : ([81, 92, 93, 94] : List Nat).all (fun a => decide (a ∈ mgc6327.2.2.2.1) && !decide (a ∈ ai_pc)) = true := by decide
