/-! The law's instructions, printed by a program of mine out of the claim. -/
def la_t0 : List (Nat × List (Nat × Instr × Nat)) := [(18, [(0, .new 7, 3), (3, .dup, 1), (4, .invokespecial 9, 3), (7, .astore_n 1, 1), (8, .new 10, 3), (11, .dup, 1), (12, .invokespecial 12, 3), (15, .astore_n 2, 1), (16, .iconst 0, 1), (17, .istore_n 3, 1)]),
  (31, [(18, .iload_n 3, 1), (19, .aload_n 0, 1), (20, .arraylength, 1), (21, .bipush 6, 2), (23, .isub, 1), (24, .if_icmp .gt 1374, 3), (27, .aload_n 0, 1), (28, .iload_n 3, 1), (29, .iaload, 1), (30, .bipush 63, 2)]),
  (224, [(32, .iand, 1), (33, .tableswitch 1359 0 41 #[183, 216, 259, 292, 315, 378, 401, 434, 477, 500, 523, 556, 589, 622, 635, 668, 691, 714, 737, 760, 783, 836, 869, 892, 915, 948, 971, 1004, 1037, 1070, 1093, 1116, 1159, 1192, 1215, 1248, 1261, 1274, 1287, 1310, 1323, 1346], 183), (216, .aload_n 1, 1), (217, .aload_n 0, 1), (218, .iload_n 3, 1), (219, .iconst 1, 1), (220, .iadd, 1), (221, .iaload, 1), (222, .aload_n 0, 1), (223, .iload_n 3, 1)]),
  (236, [(224, .iconst 2, 1), (225, .iadd, 1), (226, .iaload, 1), (227, .invokevirtual 13, 3), (230, .pop, 1), (231, .aload_n 2, 1), (232, .aload_n 0, 1), (233, .iload_n 3, 1), (234, .iconst 1, 1), (235, .iadd, 1)]),
  (250, [(236, .iaload, 1), (237, .aload_n 0, 1), (238, .iload_n 3, 1), (239, .iconst 2, 1), (240, .iadd, 1), (241, .iaload, 1), (242, .invokevirtual 17, 3), (245, .pop, 1), (246, .goto 1146, 3), (249, .aload_n 1, 1)]),
  (260, [(250, .aload_n 0, 1), (251, .iload_n 3, 1), (252, .iconst 1, 1), (253, .iadd, 1), (254, .iaload, 1), (255, .aload_n 0, 1), (256, .iload_n 3, 1), (257, .iconst 2, 1), (258, .iadd, 1), (259, .iaload, 1)]),
  (272, [(260, .aload_n 0, 1), (261, .iload_n 3, 1), (262, .iconst 3, 1), (263, .iadd, 1), (264, .iaload, 1), (265, .invokevirtual 18, 3), (268, .pop, 1), (269, .aload_n 2, 1), (270, .aload_n 0, 1), (271, .iload_n 3, 1)]),
  (282, [(272, .iconst 1, 1), (273, .iadd, 1), (274, .iaload, 1), (275, .aload_n 0, 1), (276, .iload_n 3, 1), (277, .iconst 2, 1), (278, .iadd, 1), (279, .iaload, 1), (280, .aload_n 0, 1), (281, .iload_n 3, 1)]),
  (296, [(282, .iconst 3, 1), (283, .iadd, 1), (284, .iaload, 1), (285, .invokevirtual 22, 3), (288, .pop, 1), (289, .goto 1103, 3), (292, .aload_n 1, 1), (293, .aload_n 0, 1), (294, .iload_n 3, 1), (295, .iconst 1, 1)]),
  (308, [(296, .iadd, 1), (297, .iaload, 1), (298, .aload_n 0, 1), (299, .iload_n 3, 1), (300, .iconst 2, 1), (301, .iadd, 1), (302, .iaload, 1), (303, .invokevirtual 23, 3), (306, .pop, 1), (307, .aload_n 2, 1)])]
theorem la_d0 : ∀ u ∈ la_t0, ∀ q ∈ u.2, decode code q.1 = .ok q.2 := dk_use 0 (by decide +kernel)
def la_t1 : List (Nat × List (Nat × Instr × Nat)) := [(318, [(308, .aload_n 0, 1), (309, .iload_n 3, 1), (310, .iconst 1, 1), (311, .iadd, 1), (312, .iaload, 1), (313, .aload_n 0, 1), (314, .iload_n 3, 1), (315, .iconst 2, 1), (316, .iadd, 1), (317, .iaload, 1)]),
  (332, [(318, .invokevirtual 26, 3), (321, .pop, 1), (322, .goto 1070, 3), (325, .aload_n 1, 1), (326, .aload_n 0, 1), (327, .iload_n 3, 1), (328, .iconst 1, 1), (329, .iadd, 1), (330, .iaload, 1), (331, .invokevirtual 27, 3)]),
  (346, [(334, .pop, 1), (335, .aload_n 2, 1), (336, .aload_n 0, 1), (337, .iload_n 3, 1), (338, .iconst 1, 1), (339, .iadd, 1), (340, .iaload, 1), (341, .invokevirtual 31, 3), (344, .pop, 1), (345, .goto 1047, 3)]),
  (358, [(348, .aload_n 1, 1), (349, .aload_n 0, 1), (350, .iload_n 3, 1), (351, .iconst 1, 1), (352, .iadd, 1), (353, .iaload, 1), (354, .aload_n 0, 1), (355, .iload_n 3, 1), (356, .iconst 2, 1), (357, .iadd, 1)]),
  (368, [(358, .iaload, 1), (359, .aload_n 0, 1), (360, .iload_n 3, 1), (361, .iconst 3, 1), (362, .iadd, 1), (363, .iaload, 1), (364, .aload_n 0, 1), (365, .iload_n 3, 1), (366, .iconst 4, 1), (367, .iadd, 1)]),
  (380, [(368, .iaload, 1), (369, .aload_n 0, 1), (370, .iload_n 3, 1), (371, .iconst 5, 1), (372, .iadd, 1), (373, .iaload, 1), (374, .invokevirtual 32, 3), (377, .pop, 1), (378, .aload_n 2, 1), (379, .aload_n 0, 1)]),
  (390, [(380, .iload_n 3, 1), (381, .iconst 1, 1), (382, .iadd, 1), (383, .iaload, 1), (384, .aload_n 0, 1), (385, .iload_n 3, 1), (386, .iconst 2, 1), (387, .iadd, 1), (388, .iaload, 1), (389, .aload_n 0, 1)]),
  (400, [(390, .iload_n 3, 1), (391, .iconst 3, 1), (392, .iadd, 1), (393, .iaload, 1), (394, .aload_n 0, 1), (395, .iload_n 3, 1), (396, .iconst 4, 1), (397, .iadd, 1), (398, .iaload, 1), (399, .aload_n 0, 1)]),
  (414, [(400, .iload_n 3, 1), (401, .iconst 5, 1), (402, .iadd, 1), (403, .iaload, 1), (404, .invokevirtual 36, 3), (407, .pop, 1), (408, .goto 984, 3), (411, .aload_n 1, 1), (412, .aload_n 0, 1), (413, .iload_n 3, 1)]),
  (426, [(414, .iconst 1, 1), (415, .iadd, 1), (416, .iaload, 1), (417, .invokevirtual 37, 3), (420, .pop, 1), (421, .aload_n 2, 1), (422, .aload_n 0, 1), (423, .iload_n 3, 1), (424, .iconst 1, 1), (425, .iadd, 1)])]
theorem la_d1 : ∀ u ∈ la_t1, ∀ q ∈ u.2, decode code q.1 = .ok q.2 := dk_use 308 (by decide +kernel)
def la_t2 : List (Nat × List (Nat × Instr × Nat)) := [(440, [(426, .iaload, 1), (427, .invokevirtual 40, 3), (430, .pop, 1), (431, .goto 961, 3), (434, .aload_n 1, 1), (435, .aload_n 0, 1), (436, .iload_n 3, 1), (437, .iconst 1, 1), (438, .iadd, 1), (439, .iaload, 1)]),
  (452, [(440, .aload_n 0, 1), (441, .iload_n 3, 1), (442, .iconst 2, 1), (443, .iadd, 1), (444, .iaload, 1), (445, .invokevirtual 41, 3), (448, .pop, 1), (449, .aload_n 2, 1), (450, .aload_n 0, 1), (451, .iload_n 3, 1)]),
  (464, [(452, .iconst 1, 1), (453, .iadd, 1), (454, .iaload, 1), (455, .aload_n 0, 1), (456, .iload_n 3, 1), (457, .iconst 2, 1), (458, .iadd, 1), (459, .iaload, 1), (460, .invokevirtual 44, 3), (463, .pop, 1)]),
  (476, [(464, .goto 928, 3), (467, .aload_n 1, 1), (468, .aload_n 0, 1), (469, .iload_n 3, 1), (470, .iconst 1, 1), (471, .iadd, 1), (472, .iaload, 1), (473, .aload_n 0, 1), (474, .iload_n 3, 1), (475, .iconst 2, 1)]),
  (488, [(476, .iadd, 1), (477, .iaload, 1), (478, .aload_n 0, 1), (479, .iload_n 3, 1), (480, .iconst 3, 1), (481, .iadd, 1), (482, .iaload, 1), (483, .invokevirtual 45, 3), (486, .pop, 1), (487, .aload_n 2, 1)]),
  (498, [(488, .aload_n 0, 1), (489, .iload_n 3, 1), (490, .iconst 1, 1), (491, .iadd, 1), (492, .iaload, 1), (493, .aload_n 0, 1), (494, .iload_n 3, 1), (495, .iconst 2, 1), (496, .iadd, 1), (497, .iaload, 1)]),
  (512, [(498, .aload_n 0, 1), (499, .iload_n 3, 1), (500, .iconst 3, 1), (501, .iadd, 1), (502, .iaload, 1), (503, .invokevirtual 48, 3), (506, .pop, 1), (507, .goto 885, 3), (510, .aload_n 1, 1), (511, .aload_n 0, 1)]),
  (524, [(512, .iload_n 3, 1), (513, .iconst 1, 1), (514, .iadd, 1), (515, .iaload, 1), (516, .invokevirtual 49, 3), (519, .pop, 1), (520, .aload_n 2, 1), (521, .aload_n 0, 1), (522, .iload_n 3, 1), (523, .iconst 1, 1)]),
  (538, [(524, .iadd, 1), (525, .iaload, 1), (526, .invokevirtual 52, 3), (529, .pop, 1), (530, .goto 862, 3), (533, .aload_n 1, 1), (534, .aload_n 0, 1), (535, .iload_n 3, 1), (536, .iconst 1, 1), (537, .iadd, 1)]),
  (550, [(538, .iaload, 1), (539, .invokevirtual 53, 3), (542, .pop, 1), (543, .aload_n 2, 1), (544, .aload_n 0, 1), (545, .iload_n 3, 1), (546, .iconst 1, 1), (547, .iadd, 1), (548, .iaload, 1), (549, .invokevirtual 56, 3)])]
theorem la_d2 : ∀ u ∈ la_t2, ∀ q ∈ u.2, decode code q.1 = .ok q.2 := dk_use 426 (by decide +kernel)
def la_t3 : List (Nat × List (Nat × Instr × Nat)) := [(564, [(552, .pop, 1), (553, .goto 839, 3), (556, .aload_n 1, 1), (557, .aload_n 0, 1), (558, .iload_n 3, 1), (559, .iconst 1, 1), (560, .iadd, 1), (561, .iaload, 1), (562, .aload_n 0, 1), (563, .iload_n 3, 1)]),
  (576, [(564, .iconst 2, 1), (565, .iadd, 1), (566, .iaload, 1), (567, .invokevirtual 57, 3), (570, .pop, 1), (571, .aload_n 2, 1), (572, .aload_n 0, 1), (573, .iload_n 3, 1), (574, .iconst 1, 1), (575, .iadd, 1)]),
  (590, [(576, .iaload, 1), (577, .aload_n 0, 1), (578, .iload_n 3, 1), (579, .iconst 2, 1), (580, .iadd, 1), (581, .iaload, 1), (582, .invokevirtual 60, 3), (585, .pop, 1), (586, .goto 806, 3), (589, .aload_n 1, 1)]),
  (600, [(590, .aload_n 0, 1), (591, .iload_n 3, 1), (592, .iconst 1, 1), (593, .iadd, 1), (594, .iaload, 1), (595, .aload_n 0, 1), (596, .iload_n 3, 1), (597, .iconst 2, 1), (598, .iadd, 1), (599, .iaload, 1)]),
  (612, [(600, .invokevirtual 61, 3), (603, .pop, 1), (604, .aload_n 2, 1), (605, .aload_n 0, 1), (606, .iload_n 3, 1), (607, .iconst 1, 1), (608, .iadd, 1), (609, .iaload, 1), (610, .aload_n 0, 1), (611, .iload_n 3, 1)]),
  (626, [(612, .iconst 2, 1), (613, .iadd, 1), (614, .iaload, 1), (615, .invokevirtual 64, 3), (618, .pop, 1), (619, .goto 773, 3), (622, .aload_n 1, 1), (623, .aload_n 0, 1), (624, .iload_n 3, 1), (625, .iconst 1, 1)]),
  (638, [(626, .iadd, 1), (627, .iaload, 1), (628, .aload_n 0, 1), (629, .iload_n 3, 1), (630, .iconst 2, 1), (631, .iadd, 1), (632, .iaload, 1), (633, .invokevirtual 65, 3), (636, .pop, 1), (637, .aload_n 2, 1)]),
  (648, [(638, .aload_n 0, 1), (639, .iload_n 3, 1), (640, .iconst 1, 1), (641, .iadd, 1), (642, .iaload, 1), (643, .aload_n 0, 1), (644, .iload_n 3, 1), (645, .iconst 2, 1), (646, .iadd, 1), (647, .iaload, 1)]),
  (666, [(648, .invokevirtual 68, 3), (651, .pop, 1), (652, .goto 740, 3), (655, .aload_n 1, 1), (656, .invokevirtual 69, 3), (659, .pop, 1), (660, .aload_n 2, 1), (661, .invokevirtual 73, 3), (664, .pop, 1), (665, .goto 727, 3)]),
  (678, [(668, .aload_n 1, 1), (669, .aload_n 0, 1), (670, .iload_n 3, 1), (671, .iconst 1, 1), (672, .iadd, 1), (673, .iaload, 1), (674, .aload_n 0, 1), (675, .iload_n 3, 1), (676, .iconst 2, 1), (677, .iadd, 1)])]
theorem la_d3 : ∀ u ∈ la_t3, ∀ q ∈ u.2, decode code q.1 = .ok q.2 := dk_use 552 (by decide +kernel)
def la_t4 : List (Nat × List (Nat × Instr × Nat)) := [(690, [(678, .iaload, 1), (679, .invokevirtual 74, 3), (682, .pop, 1), (683, .aload_n 2, 1), (684, .aload_n 0, 1), (685, .iload_n 3, 1), (686, .iconst 1, 1), (687, .iadd, 1), (688, .iaload, 1), (689, .aload_n 0, 1)]),
  (704, [(690, .iload_n 3, 1), (691, .iconst 2, 1), (692, .iadd, 1), (693, .iaload, 1), (694, .invokevirtual 77, 3), (697, .pop, 1), (698, .goto 694, 3), (701, .aload_n 1, 1), (702, .aload_n 0, 1), (703, .iload_n 3, 1)]),
  (716, [(704, .iconst 1, 1), (705, .iadd, 1), (706, .iaload, 1), (707, .invokevirtual 78, 3), (710, .pop, 1), (711, .aload_n 2, 1), (712, .aload_n 0, 1), (713, .iload_n 3, 1), (714, .iconst 1, 1), (715, .iadd, 1)]),
  (730, [(716, .iaload, 1), (717, .invokevirtual 81, 3), (720, .pop, 1), (721, .goto 671, 3), (724, .aload_n 1, 1), (725, .aload_n 0, 1), (726, .iload_n 3, 1), (727, .iconst 1, 1), (728, .iadd, 1), (729, .iaload, 1)]),
  (744, [(730, .invokevirtual 82, 3), (733, .pop, 1), (734, .aload_n 2, 1), (735, .aload_n 0, 1), (736, .iload_n 3, 1), (737, .iconst 1, 1), (738, .iadd, 1), (739, .iaload, 1), (740, .invokevirtual 85, 3), (743, .pop, 1)]),
  (758, [(744, .goto 648, 3), (747, .aload_n 1, 1), (748, .aload_n 0, 1), (749, .iload_n 3, 1), (750, .iconst 1, 1), (751, .iadd, 1), (752, .iaload, 1), (753, .invokevirtual 86, 3), (756, .pop, 1), (757, .aload_n 2, 1)]),
  (772, [(758, .aload_n 0, 1), (759, .iload_n 3, 1), (760, .iconst 1, 1), (761, .iadd, 1), (762, .iaload, 1), (763, .invokevirtual 89, 3), (766, .pop, 1), (767, .goto 625, 3), (770, .aload_n 1, 1), (771, .aload_n 0, 1)]),
  (784, [(772, .iload_n 3, 1), (773, .iconst 1, 1), (774, .iadd, 1), (775, .iaload, 1), (776, .invokevirtual 90, 3), (779, .pop, 1), (780, .aload_n 2, 1), (781, .aload_n 0, 1), (782, .iload_n 3, 1), (783, .iconst 1, 1)]),
  (798, [(784, .iadd, 1), (785, .iaload, 1), (786, .invokevirtual 93, 3), (789, .pop, 1), (790, .goto 602, 3), (793, .aload_n 1, 1), (794, .aload_n 0, 1), (795, .iload_n 3, 1), (796, .iconst 1, 1), (797, .iadd, 1)]),
  (810, [(798, .iaload, 1), (799, .invokevirtual 94, 3), (802, .pop, 1), (803, .aload_n 2, 1), (804, .aload_n 0, 1), (805, .iload_n 3, 1), (806, .iconst 1, 1), (807, .iadd, 1), (808, .iaload, 1), (809, .invokevirtual 97, 3)])]
theorem la_d4 : ∀ u ∈ la_t4, ∀ q ∈ u.2, decode code q.1 = .ok q.2 := dk_use 678 (by decide +kernel)
def la_t5 : List (Nat × List (Nat × Instr × Nat)) := [(824, [(812, .pop, 1), (813, .goto 579, 3), (816, .aload_n 1, 1), (817, .aload_n 0, 1), (818, .iload_n 3, 1), (819, .iconst 1, 1), (820, .iadd, 1), (821, .iaload, 1), (822, .aload_n 0, 1), (823, .iload_n 3, 1)]),
  (834, [(824, .iconst 2, 1), (825, .iadd, 1), (826, .iaload, 1), (827, .aload_n 0, 1), (828, .iload_n 3, 1), (829, .iconst 3, 1), (830, .iadd, 1), (831, .iaload, 1), (832, .aload_n 0, 1), (833, .iload_n 3, 1)]),
  (846, [(834, .iconst 4, 1), (835, .iadd, 1), (836, .iaload, 1), (837, .invokevirtual 98, 3), (840, .pop, 1), (841, .aload_n 2, 1), (842, .aload_n 0, 1), (843, .iload_n 3, 1), (844, .iconst 1, 1), (845, .iadd, 1)]),
  (856, [(846, .iaload, 1), (847, .aload_n 0, 1), (848, .iload_n 3, 1), (849, .iconst 2, 1), (850, .iadd, 1), (851, .iaload, 1), (852, .aload_n 0, 1), (853, .iload_n 3, 1), (854, .iconst 3, 1), (855, .iadd, 1)]),
  (870, [(856, .iaload, 1), (857, .aload_n 0, 1), (858, .iload_n 3, 1), (859, .iconst 4, 1), (860, .iadd, 1), (861, .iaload, 1), (862, .invokevirtual 102, 3), (865, .pop, 1), (866, .goto 526, 3), (869, .aload_n 1, 1)]),
  (880, [(870, .aload_n 0, 1), (871, .iload_n 3, 1), (872, .iconst 1, 1), (873, .iadd, 1), (874, .iaload, 1), (875, .aload_n 0, 1), (876, .iload_n 3, 1), (877, .iconst 2, 1), (878, .iadd, 1), (879, .iaload, 1)]),
  (892, [(880, .invokevirtual 103, 3), (883, .pop, 1), (884, .aload_n 2, 1), (885, .aload_n 0, 1), (886, .iload_n 3, 1), (887, .iconst 1, 1), (888, .iadd, 1), (889, .iaload, 1), (890, .aload_n 0, 1), (891, .iload_n 3, 1)]),
  (906, [(892, .iconst 2, 1), (893, .iadd, 1), (894, .iaload, 1), (895, .invokevirtual 106, 3), (898, .pop, 1), (899, .goto 493, 3), (902, .aload_n 1, 1), (903, .aload_n 0, 1), (904, .iload_n 3, 1), (905, .iconst 1, 1)]),
  (918, [(906, .iadd, 1), (907, .iaload, 1), (908, .invokevirtual 107, 3), (911, .pop, 1), (912, .aload_n 2, 1), (913, .aload_n 0, 1), (914, .iload_n 3, 1), (915, .iconst 1, 1), (916, .iadd, 1), (917, .iaload, 1)]),
  (932, [(918, .invokevirtual 110, 3), (921, .pop, 1), (922, .goto 470, 3), (925, .aload_n 1, 1), (926, .aload_n 0, 1), (927, .iload_n 3, 1), (928, .iconst 1, 1), (929, .iadd, 1), (930, .iaload, 1), (931, .invokevirtual 111, 3)])]
theorem la_d5 : ∀ u ∈ la_t5, ∀ q ∈ u.2, decode code q.1 = .ok q.2 := dk_use 812 (by decide +kernel)
def la_t6 : List (Nat × List (Nat × Instr × Nat)) := [(946, [(934, .pop, 1), (935, .aload_n 2, 1), (936, .aload_n 0, 1), (937, .iload_n 3, 1), (938, .iconst 1, 1), (939, .iadd, 1), (940, .iaload, 1), (941, .invokevirtual 114, 3), (944, .pop, 1), (945, .goto 447, 3)]),
  (958, [(948, .aload_n 1, 1), (949, .aload_n 0, 1), (950, .iload_n 3, 1), (951, .iconst 1, 1), (952, .iadd, 1), (953, .iaload, 1), (954, .aload_n 0, 1), (955, .iload_n 3, 1), (956, .iconst 2, 1), (957, .iadd, 1)]),
  (970, [(958, .iaload, 1), (959, .invokevirtual 115, 3), (962, .pop, 1), (963, .aload_n 2, 1), (964, .aload_n 0, 1), (965, .iload_n 3, 1), (966, .iconst 1, 1), (967, .iadd, 1), (968, .iaload, 1), (969, .aload_n 0, 1)]),
  (984, [(970, .iload_n 3, 1), (971, .iconst 2, 1), (972, .iadd, 1), (973, .iaload, 1), (974, .invokevirtual 118, 3), (977, .pop, 1), (978, .goto 414, 3), (981, .aload_n 1, 1), (982, .aload_n 0, 1), (983, .iload_n 3, 1)]),
  (996, [(984, .iconst 1, 1), (985, .iadd, 1), (986, .iaload, 1), (987, .invokevirtual 119, 3), (990, .pop, 1), (991, .aload_n 2, 1), (992, .aload_n 0, 1), (993, .iload_n 3, 1), (994, .iconst 1, 1), (995, .iadd, 1)]),
  (1010, [(996, .iaload, 1), (997, .invokevirtual 122, 3), (1000, .pop, 1), (1001, .goto 391, 3), (1004, .aload_n 1, 1), (1005, .aload_n 0, 1), (1006, .iload_n 3, 1), (1007, .iconst 1, 1), (1008, .iadd, 1), (1009, .iaload, 1)]),
  (1022, [(1010, .aload_n 0, 1), (1011, .iload_n 3, 1), (1012, .iconst 2, 1), (1013, .iadd, 1), (1014, .iaload, 1), (1015, .invokevirtual 123, 3), (1018, .aload_n 2, 1), (1019, .aload_n 0, 1), (1020, .iload_n 3, 1), (1021, .iconst 1, 1)]),
  (1036, [(1022, .iadd, 1), (1023, .iaload, 1), (1024, .aload_n 0, 1), (1025, .iload_n 3, 1), (1026, .iconst 2, 1), (1027, .iadd, 1), (1028, .iaload, 1), (1029, .invokevirtual 126, 3), (1032, .if_icmp .eq 360, 3), (1035, .iconst 0, 1)]),
  (1046, [(1036, .ireturn, 1), (1037, .aload_n 1, 1), (1038, .aload_n 0, 1), (1039, .iload_n 3, 1), (1040, .iconst 1, 1), (1041, .iadd, 1), (1042, .iaload, 1), (1043, .aload_n 0, 1), (1044, .iload_n 3, 1), (1045, .iconst 2, 1)]),
  (1058, [(1046, .iadd, 1), (1047, .iaload, 1), (1048, .invokevirtual 127, 3), (1051, .pop, 1), (1052, .aload_n 2, 1), (1053, .aload_n 0, 1), (1054, .iload_n 3, 1), (1055, .iconst 1, 1), (1056, .iadd, 1), (1057, .iaload, 1)])]
theorem la_d6 : ∀ u ∈ la_t6, ∀ q ∈ u.2, decode code q.1 = .ok q.2 := dk_use 934 (by decide +kernel)
def la_t7 : List (Nat × List (Nat × Instr × Nat)) := [(1072, [(1058, .aload_n 0, 1), (1059, .iload_n 3, 1), (1060, .iconst 2, 1), (1061, .iadd, 1), (1062, .iaload, 1), (1063, .invokevirtual 130, 3), (1066, .pop, 1), (1067, .goto 325, 3), (1070, .aload_n 1, 1), (1071, .aload_n 0, 1)]),
  (1082, [(1072, .iload_n 3, 1), (1073, .iconst 1, 1), (1074, .iadd, 1), (1075, .iaload, 1), (1076, .aload_n 0, 1), (1077, .iload_n 3, 1), (1078, .iconst 2, 1), (1079, .iadd, 1), (1080, .iaload, 1), (1081, .invokevirtual 131, 3)]),
  (1094, [(1084, .pop, 1), (1085, .aload_n 2, 1), (1086, .aload_n 0, 1), (1087, .iload_n 3, 1), (1088, .iconst 1, 1), (1089, .iadd, 1), (1090, .iaload, 1), (1091, .aload_n 0, 1), (1092, .iload_n 3, 1), (1093, .iconst 2, 1)]),
  (1108, [(1094, .iadd, 1), (1095, .iaload, 1), (1096, .invokevirtual 134, 3), (1099, .pop, 1), (1100, .goto 292, 3), (1103, .aload_n 1, 1), (1104, .aload_n 0, 1), (1105, .iload_n 3, 1), (1106, .iconst 1, 1), (1107, .iadd, 1)]),
  (1120, [(1108, .iaload, 1), (1109, .invokevirtual 135, 3), (1112, .pop, 1), (1113, .aload_n 2, 1), (1114, .aload_n 0, 1), (1115, .iload_n 3, 1), (1116, .iconst 1, 1), (1117, .iadd, 1), (1118, .iaload, 1), (1119, .invokevirtual 138, 3)]),
  (1136, [(1122, .pop, 1), (1123, .goto 269, 3), (1126, .aload_n 1, 1), (1127, .aload_n 0, 1), (1128, .iload_n 3, 1), (1129, .iconst 1, 1), (1130, .iadd, 1), (1131, .iaload, 1), (1132, .invokevirtual 139, 3), (1135, .pop, 1)]),
  (1150, [(1136, .aload_n 2, 1), (1137, .aload_n 0, 1), (1138, .iload_n 3, 1), (1139, .iconst 1, 1), (1140, .iadd, 1), (1141, .iaload, 1), (1142, .invokevirtual 142, 3), (1145, .pop, 1), (1146, .goto 246, 3), (1149, .aload_n 1, 1)]),
  (1160, [(1150, .aload_n 0, 1), (1151, .iload_n 3, 1), (1152, .iconst 1, 1), (1153, .iadd, 1), (1154, .iaload, 1), (1155, .aload_n 0, 1), (1156, .iload_n 3, 1), (1157, .iconst 2, 1), (1158, .iadd, 1), (1159, .iaload, 1)]),
  (1172, [(1160, .aload_n 0, 1), (1161, .iload_n 3, 1), (1162, .iconst 3, 1), (1163, .iadd, 1), (1164, .iaload, 1), (1165, .invokevirtual 143, 3), (1168, .pop, 1), (1169, .aload_n 2, 1), (1170, .aload_n 0, 1), (1171, .iload_n 3, 1)]),
  (1182, [(1172, .iconst 1, 1), (1173, .iadd, 1), (1174, .iaload, 1), (1175, .aload_n 0, 1), (1176, .iload_n 3, 1), (1177, .iconst 2, 1), (1178, .iadd, 1), (1179, .iaload, 1), (1180, .aload_n 0, 1), (1181, .iload_n 3, 1)])]
theorem la_d7 : ∀ u ∈ la_t7, ∀ q ∈ u.2, decode code q.1 = .ok q.2 := dk_use 1058 (by decide +kernel)
def la_t8 : List (Nat × List (Nat × Instr × Nat)) := [(1196, [(1182, .iconst 3, 1), (1183, .iadd, 1), (1184, .iaload, 1), (1185, .invokevirtual 146, 3), (1188, .pop, 1), (1189, .goto 203, 3), (1192, .aload_n 1, 1), (1193, .aload_n 0, 1), (1194, .iload_n 3, 1), (1195, .iconst 1, 1)]),
  (1208, [(1196, .iadd, 1), (1197, .iaload, 1), (1198, .aload_n 0, 1), (1199, .iload_n 3, 1), (1200, .iconst 2, 1), (1201, .iadd, 1), (1202, .iaload, 1), (1203, .invokevirtual 147, 3), (1206, .pop, 1), (1207, .aload_n 2, 1)]),
  (1218, [(1208, .aload_n 0, 1), (1209, .iload_n 3, 1), (1210, .iconst 1, 1), (1211, .iadd, 1), (1212, .iaload, 1), (1213, .aload_n 0, 1), (1214, .iload_n 3, 1), (1215, .iconst 2, 1), (1216, .iadd, 1), (1217, .iaload, 1)]),
  (1232, [(1218, .invokevirtual 150, 3), (1221, .pop, 1), (1222, .goto 170, 3), (1225, .aload_n 1, 1), (1226, .aload_n 0, 1), (1227, .iload_n 3, 1), (1228, .iconst 1, 1), (1229, .iadd, 1), (1230, .iaload, 1), (1231, .invokevirtual 151, 3)]),
  (1246, [(1234, .pop, 1), (1235, .aload_n 2, 1), (1236, .aload_n 0, 1), (1237, .iload_n 3, 1), (1238, .iconst 1, 1), (1239, .iadd, 1), (1240, .iaload, 1), (1241, .invokevirtual 154, 3), (1244, .pop, 1), (1245, .goto 147, 3)]),
  (1258, [(1248, .aload_n 1, 1), (1249, .aload_n 0, 1), (1250, .iload_n 3, 1), (1251, .iconst 1, 1), (1252, .iadd, 1), (1253, .iaload, 1), (1254, .aload_n 0, 1), (1255, .iload_n 3, 1), (1256, .iconst 2, 1), (1257, .iadd, 1)]),
  (1270, [(1258, .iaload, 1), (1259, .invokevirtual 155, 3), (1262, .pop, 1), (1263, .aload_n 2, 1), (1264, .aload_n 0, 1), (1265, .iload_n 3, 1), (1266, .iconst 1, 1), (1267, .iadd, 1), (1268, .iaload, 1), (1269, .aload_n 0, 1)]),
  (1286, [(1270, .iload_n 3, 1), (1271, .iconst 2, 1), (1272, .iadd, 1), (1273, .iaload, 1), (1274, .invokevirtual 158, 3), (1277, .pop, 1), (1278, .goto 114, 3), (1281, .aload_n 1, 1), (1282, .invokevirtual 159, 3), (1285, .pop, 1)]),
  (1304, [(1286, .aload_n 2, 1), (1287, .invokevirtual 162, 3), (1290, .pop, 1), (1291, .goto 101, 3), (1294, .aload_n 1, 1), (1295, .invokevirtual 163, 3), (1298, .pop2, 1), (1299, .aload_n 2, 1), (1300, .invokevirtual 167, 3), (1303, .pop2, 1)]),
  (1322, [(1304, .goto 88, 3), (1307, .aload_n 1, 1), (1308, .invokevirtual 168, 3), (1311, .pop2, 1), (1312, .aload_n 2, 1), (1313, .invokevirtual 171, 3), (1316, .pop2, 1), (1317, .goto 75, 3), (1320, .aload_n 1, 1), (1321, .aload_n 0, 1)])]
theorem la_d8 : ∀ u ∈ la_t8, ∀ q ∈ u.2, decode code q.1 = .ok q.2 := dk_use 1182 (by decide +kernel)
def la_t9 : List (Nat × List (Nat × Instr × Nat)) := [(1334, [(1322, .iload_n 3, 1), (1323, .iconst 1, 1), (1324, .iadd, 1), (1325, .iaload, 1), (1326, .invokevirtual 172, 3), (1329, .pop, 1), (1330, .aload_n 2, 1), (1331, .aload_n 0, 1), (1332, .iload_n 3, 1), (1333, .iconst 1, 1)]),
  (1350, [(1334, .iadd, 1), (1335, .iaload, 1), (1336, .invokevirtual 175, 3), (1339, .pop, 1), (1340, .goto 52, 3), (1343, .aload_n 1, 1), (1344, .invokevirtual 176, 3), (1347, .pop, 1), (1348, .aload_n 2, 1), (1349, .invokevirtual 179, 3)]),
  (1366, [(1352, .pop, 1), (1353, .goto 39, 3), (1356, .aload_n 1, 1), (1357, .aload_n 0, 1), (1358, .iload_n 3, 1), (1359, .iconst 1, 1), (1360, .iadd, 1), (1361, .iaload, 1), (1362, .invokevirtual 180, 3), (1365, .pop, 1)]),
  (1380, [(1366, .aload_n 2, 1), (1367, .aload_n 0, 1), (1368, .iload_n 3, 1), (1369, .iconst 1, 1), (1370, .iadd, 1), (1371, .iaload, 1), (1372, .invokevirtual 183, 3), (1375, .pop, 1), (1376, .goto 16, 3), (1379, .aload_n 1, 1)]),
  (1400, [(1380, .invokevirtual 184, 3), (1383, .pop2, 1), (1384, .aload_n 2, 1), (1385, .invokevirtual 187, 3), (1388, .pop2, 1), (1389, .goto 3, 3), (1392, .iinc 3 6, 3), (1395, .goto (-1377), 3), (1398, .iconst 1, 1), (1399, .ireturn, 1)])]
theorem la_d9 : ∀ u ∈ la_t9, ∀ q ∈ u.2, decode code q.1 = .ok q.2 := dk_use 1322 (by decide +kernel)
def la_tb (pc : Nat) : Option (Instr × Nat) := if Nat.blt pc 308 then sm_ch la_t0 pc else if Nat.blt pc 426 then sm_ch la_t1 pc else if Nat.blt pc 550 then sm_ch la_t2 pc else if Nat.blt pc 678 then sm_ch la_t3 pc else if Nat.blt pc 810 then sm_ch la_t4 pc else if Nat.blt pc 932 then sm_ch la_t5 pc else if Nat.blt pc 1058 then sm_ch la_t6 pc else if Nat.blt pc 1182 then sm_ch la_t7 pc else if Nat.blt pc 1322 then sm_ch la_t8 pc else if Nat.blt pc 1400 then sm_ch la_t9 pc else none
theorem la_dec (pc : Nat) (i : Instr) (n : Nat) (h : la_tb pc = some (i, n)) : decode code pc = .ok (i, n) := by
  unfold la_tb at h
  split at h
  · obtain ⟨u, hu, hm⟩ := sm_ch_s h
    exact la_d0 u hu (pc, i, n) hm
  split at h
  · obtain ⟨u, hu, hm⟩ := sm_ch_s h
    exact la_d1 u hu (pc, i, n) hm
  split at h
  · obtain ⟨u, hu, hm⟩ := sm_ch_s h
    exact la_d2 u hu (pc, i, n) hm
  split at h
  · obtain ⟨u, hu, hm⟩ := sm_ch_s h
    exact la_d3 u hu (pc, i, n) hm
  split at h
  · obtain ⟨u, hu, hm⟩ := sm_ch_s h
    exact la_d4 u hu (pc, i, n) hm
  split at h
  · obtain ⟨u, hu, hm⟩ := sm_ch_s h
    exact la_d5 u hu (pc, i, n) hm
  split at h
  · obtain ⟨u, hu, hm⟩ := sm_ch_s h
    exact la_d6 u hu (pc, i, n) hm
  split at h
  · obtain ⟨u, hu, hm⟩ := sm_ch_s h
    exact la_d7 u hu (pc, i, n) hm
  split at h
  · obtain ⟨u, hu, hm⟩ := sm_ch_s h
    exact la_d8 u hu (pc, i, n) hm
  split at h
  · obtain ⟨u, hu, hm⟩ := sm_ch_s h
    exact la_d9 u hu (pc, i, n) hm
  cases h
