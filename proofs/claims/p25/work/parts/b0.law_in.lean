set_option maxRecDepth 20000 in
theorem in_wsL_law_r1 : ∀ w ∈ wsL_law_r1, w ∈ lw_tbl := in_seg wsL_law_r1 [(57, 2), (47, 1), (744, 2), (56, 1), (59, 7), (320, 2), (67, 2), (48, 1), (322, 2), (325, 1), (327, 3)] rfl
set_option maxRecDepth 20000 in
theorem in_wsL_law_r2 : ∀ w ∈ wsL_law_r2, w ∈ lw_tbl := in_seg wsL_law_r2 [(106, 1), (330, 1), (107, 2), (49, 1), (331, 1), (333, 5), (130, 1), (50, 1), (213, 2), (52, 1), (324, 1), (315, 1), (220, 1), (53, 1), (326, 1), (332, 1), (70, 2)] rfl
set_option maxRecDepth 20000 in
theorem in_wsL_law_r3 : ∀ w ∈ wsL_law_r3, w ∈ lw_tbl := in_seg wsL_law_r3 [(72, 2), (75, 1), (77, 1), (80, 1), (82, 1), (85, 1), (88, 1), (110, 3), (114, 1), (117, 1), (113, 1), (120, 1), (131, 4), (172, 1), (176, 1), (178, 1), (180, 1), (182, 1)] rfl
set_option maxRecDepth 20000 in
theorem in_wsL_law_r4 : ∀ w ∈ wsL_law_r4, w ∈ lw_tbl := in_seg wsL_law_r4 [(185, 1), (135, 1), (187, 1), (137, 1), (190, 1), (192, 1), (139, 1), (51, 1), (141, 4), (146, 1), (148, 1), (150, 2), (171, 1), (152, 1), (155, 1), (215, 4), (298, 1)] rfl
set_option maxRecDepth 20000 in
theorem in_wsL_law_r5 : ∀ w ∈ wsL_law_r5, w ∈ lw_tbl := in_seg wsL_law_r5 [(299, 3), (219, 1), (295, 1), (297, 1), (221, 4), (244, 1), (247, 1), (249, 1), (252, 1), (255, 1), (225, 1), (256, 1), (258, 1), (227, 2), (54, 1), (229, 1), (257, 1), (292, 1)] rfl
set_option maxRecDepth 20000 in
theorem in_wsL_law_r6 : ∀ w ∈ wsL_law_r6, w ∈ lw_tbl := in_seg wsL_law_r6 [(230, 1), (293, 1), (231, 1), (233, 1), (236, 1), (238, 1), (240, 1), (294, 1), (242, 2), (316, 3), (55, 1), (319, 1), (746, 4), (753, 5)] rfl
set_option maxRecDepth 20000 in
theorem in_wsL_law_r7 : ∀ w ∈ wsL_law_r7, w ∈ lw_tbl := in_seg wsL_law_r7 [(758, 6), (765, 3), (770, 4), (775, 3), (782, 8)] rfl
set_option maxRecDepth 20000 in
theorem in_wsL_law_r8 : ∀ w ∈ wsL_law_r8, w ∈ lw_tbl := in_seg wsL_law_r8 [(790, 8), (799, 9), (810, 4), (816, 3)] rfl
set_option maxRecDepth 20000 in
theorem in_wsL_law_r9 : ∀ w ∈ wsL_law_r9, w ∈ lw_tbl := in_seg wsL_law_r9 [(819, 10), (375, 4), (988, 4), (750, 1), (752, 1), (379, 4)] rfl
set_option maxRecDepth 20000 in
theorem in_wsL_law_r10 : ∀ w ∈ wsL_law_r10, w ∈ lw_tbl := in_seg wsL_law_r10 [(174, 1), (383, 1), (385, 1), (0, 1), (386, 9), (396, 1), (1, 1), (397, 1), (992, 5), (998, 1), (19, 1), (999, 1)] rfl
set_option maxRecDepth 20000 in
theorem in_wsL_law_r11 : ∀ w ∈ wsL_law_r11, w ∈ lw_tbl := in_seg wsL_law_r11 [(1000, 4), (1005, 1), (20, 1), (1006, 1), (764, 1), (398, 4), (410, 2), (402, 8), (412, 1), (414, 1)] rfl
set_option maxRecDepth 20000 in
theorem in_wsL_law_r12 : ∀ w ∈ wsL_law_r12, w ∈ lw_tbl := in_seg wsL_law_r12 [(2, 1), (415, 7), (423, 1), (3, 1), (424, 1), (1007, 4), (751, 1), (1015, 2), (1022, 1), (1011, 1), (1013, 1), (21, 1), (1014, 1), (1017, 1)] rfl
set_option maxRecDepth 20000 in
theorem in_wsL_law_r13 : ∀ w ∈ wsL_law_r13, w ∈ lw_tbl := in_seg wsL_law_r13 [(1019, 1), (22, 1), (1020, 2), (425, 4), (177, 1), (429, 7), (145, 1), (147, 1), (1023, 4), (436, 2)] rfl
set_option maxRecDepth 20000 in
theorem in_wsL_law_r14 : ∀ w ∈ wsL_law_r14, w ∈ lw_tbl := in_seg wsL_law_r14 [(438, 2), (191, 1), (153, 1), (440, 9), (149, 1), (449, 4), (1027, 5), (1033, 1)] rfl
set_option maxRecDepth 20000 in
theorem in_wsL_law_r15 : ∀ w ∈ wsL_law_r15, w ∈ lw_tbl := in_seg wsL_law_r15 [(23, 1), (1034, 2), (1037, 1), (24, 1), (1038, 1), (453, 8), (1039, 4), (461, 4), (74, 1), (465, 1)] rfl
set_option maxRecDepth 20000 in
theorem in_wsL_law_r16 : ∀ w ∈ wsL_law_r16, w ∈ lw_tbl := in_seg wsL_law_r16 [(466, 4), (1043, 4), (470, 4), (79, 1), (1047, 4), (474, 4), (76, 1), (81, 1), (1051, 1)] rfl
set_option maxRecDepth 20000 in
theorem in_wsL_law_r17 : ∀ w ∈ wsL_law_r17, w ∈ lw_tbl := in_seg wsL_law_r17 [(1052, 3), (768, 1), (478, 4), (1055, 4), (482, 4), (1059, 4), (769, 1), (486, 3)] rfl
set_option maxRecDepth 20000 in
theorem in_wsL_law_r18 : ∀ w ∈ wsL_law_r18, w ∈ lw_tbl := in_seg wsL_law_r18 [(489, 5), (83, 1), (234, 1), (494, 10), (173, 1), (188, 1), (504, 5)] rfl
set_option maxRecDepth 20000 in
theorem in_wsL_law_r19 : ∀ w ∈ wsL_law_r19, w ∈ lw_tbl := in_seg wsL_law_r19 [(509, 3), (527, 1), (512, 1), (514, 1), (4, 1), (515, 5), (521, 1), (5, 1), (522, 2), (525, 1), (6, 1), (526, 1), (528, 1), (530, 1), (7, 1), (531, 2)] rfl
set_option maxRecDepth 20000 in
theorem in_wsL_law_r20 : ∀ w ∈ wsL_law_r20, w ∈ lw_tbl := in_seg wsL_law_r20 [(533, 3), (537, 1), (8, 1), (538, 2), (541, 1), (9, 1), (542, 2), (545, 1), (10, 1), (546, 6), (553, 1), (11, 1), (554, 3)] rfl
set_option maxRecDepth 20000 in
theorem in_wsL_law_r21 : ∀ w ∈ wsL_law_r21, w ∈ lw_tbl := in_seg wsL_law_r21 [(557, 7), (154, 1), (564, 1), (566, 1), (12, 1), (567, 1), (121, 1), (115, 1), (118, 1), (568, 4), (78, 1), (572, 4)] rfl
set_option maxRecDepth 20000 in
theorem in_wsL_law_r22 : ∀ w ∈ wsL_law_r22, w ∈ lw_tbl := in_seg wsL_law_r22 [(576, 2), (54, 1), (578, 2), (581, 1), (13, 1), (582, 1), (250, 1), (253, 1), (86, 1), (239, 1), (583, 5), (589, 1), (14, 1), (590, 1), (89, 1), (591, 3)] rfl
set_option maxRecDepth 20000 in
theorem in_wsL_law_r23 : ∀ w ∈ wsL_law_r23, w ∈ lw_tbl := in_seg wsL_law_r23 [(594, 1), (599, 1), (183, 1), (595, 4), (175, 1), (600, 8), (611, 1), (608, 3), (612, 1), (614, 1), (15, 1), (615, 1)] rfl
set_option maxRecDepth 20000 in
theorem in_wsL_law_r24 : ∀ w ∈ wsL_law_r24, w ∈ lw_tbl := in_seg wsL_law_r24 [(616, 9), (626, 1), (16, 1), (627, 3), (631, 1), (17, 1), (632, 1), (193, 1), (181, 1), (296, 1), (633, 4)] rfl
set_option maxRecDepth 20000 in
theorem in_wsL_law_r25 : ∀ w ∈ wsL_law_r25, w ∈ lw_tbl := in_seg wsL_law_r25 [(245, 1), (637, 6), (1063, 4), (774, 1), (778, 2), (1067, 1), (1069, 1), (25, 1), (1070, 1), (780, 2), (1071, 1), (1073, 1), (26, 1), (1074, 1)] rfl
set_option maxRecDepth 20000 in
theorem in_wsL_law_r26 : ∀ w ∈ wsL_law_r26, w ∈ lw_tbl := in_seg wsL_law_r26 [(814, 2), (1075, 1), (1077, 1), (27, 1), (1078, 2), (1081, 1), (28, 1), (1082, 2), (1085, 1), (29, 1), (1086, 2), (1089, 1), (30, 1), (1090, 2), (1093, 1), (31, 1), (1094, 2), (1097, 1)] rfl
set_option maxRecDepth 20000 in
theorem in_wsL_law_r27 : ∀ w ∈ wsL_law_r27, w ∈ lw_tbl := in_seg wsL_law_r27 [(32, 1), (1098, 2), (1101, 1), (33, 1), (1102, 2), (1105, 1), (34, 1), (1106, 2), (1109, 1), (35, 1), (1110, 2), (1113, 1), (36, 1), (1114, 2), (1117, 1), (37, 1), (1118, 1), (798, 1), (1119, 1)] rfl
set_option maxRecDepth 20000 in
theorem in_wsL_law_r28 : ∀ w ∈ wsL_law_r28, w ∈ lw_tbl := in_seg wsL_law_r28 [(1121, 1), (38, 1), (1122, 2), (1125, 1), (39, 1), (1126, 2), (1129, 1), (40, 1), (1130, 2), (1133, 1), (41, 1), (1134, 2), (1137, 1), (42, 1), (1138, 2), (1141, 1), (43, 1), (1142, 2)] rfl
set_option maxRecDepth 20000 in
theorem in_wsL_law_r29 : ∀ w ∈ wsL_law_r29, w ∈ lw_tbl := in_seg wsL_law_r29 [(1145, 1), (44, 1), (1146, 1), (643, 4), (1147, 4), (647, 4), (1151, 4), (651, 4), (1155, 1)] rfl
set_option maxRecDepth 20000 in
theorem in_wsL_law_r30 : ∀ w ∈ wsL_law_r30, w ∈ lw_tbl := in_seg wsL_law_r30 [(1156, 3), (655, 4), (254, 1), (246, 1), (232, 1), (241, 1), (659, 6), (1159, 4), (665, 3)] rfl
set_option maxRecDepth 20000 in
theorem in_wsL_law_r31 : ∀ w ∈ wsL_law_r31, w ∈ lw_tbl := in_seg wsL_law_r31 [(668, 1), (235, 1), (237, 1), (669, 4), (1163, 4), (673, 4), (84, 1), (87, 1), (90, 1), (1167, 4), (677, 2)] rfl
set_option maxRecDepth 20000 in
theorem in_wsL_law_r32 : ∀ w ∈ wsL_law_r32, w ∈ lw_tbl := in_seg wsL_law_r32 [(679, 2), (179, 1), (1171, 4), (808, 2), (681, 4), (1175, 4), (685, 4), (184, 1), (116, 1), (122, 1)] rfl
set_option maxRecDepth 20000 in
theorem in_wsL_law_r33 : ∀ w ∈ wsL_law_r33, w ∈ lw_tbl := in_seg wsL_law_r33 [(119, 1), (689, 10), (1179, 4), (699, 5), (710, 1), (704, 3)] rfl
set_option maxRecDepth 20000 in
theorem in_wsL_law_r34 : ∀ w ∈ wsL_law_r34, w ∈ lw_tbl := in_seg wsL_law_r34 [(707, 3), (1183, 5), (1198, 1), (1188, 1), (1190, 1), (45, 1), (1191, 7), (711, 4), (1199, 1)] rfl
set_option maxRecDepth 20000 in
theorem in_wsL_law_r35 : ∀ w ∈ wsL_law_r35, w ∈ lw_tbl := in_seg wsL_law_r35 [(1200, 3), (715, 6), (722, 1), (18, 1), (723, 1), (1203, 4), (724, 4), (248, 1), (251, 1), (1207, 2)] rfl
set_option maxRecDepth 20000 in
theorem in_wsL_law_r36 : ∀ w ∈ wsL_law_r36, w ∈ lw_tbl := in_seg wsL_law_r36 [(1209, 2), (728, 4), (186, 1), (732, 4), (1211, 4), (736, 4), (189, 1), (1215, 4)] rfl
set_option maxRecDepth 20000 in
theorem in_wsL_law_r37 : ∀ w ∈ wsL_law_r37, w ∈ lw_tbl := in_seg wsL_law_r37 [(740, 4), (1219, 4)] rfl
set_option maxRecDepth 20000 in
theorem in_wsX60 : ∀ w ∈ wsX60, w ∈ lw_tbl := in_seg wsX60 [(338, 1), (340, 1), (342, 1), (344, 1), (346, 1), (348, 1), (350, 1), (352, 1), (354, 1), (356, 1), (358, 1), (360, 1), (362, 1), (364, 1), (366, 1), (368, 1), (370, 1), (372, 1)] rfl
set_option maxRecDepth 20000 in
theorem in_wsX70 : ∀ w ∈ wsX70, w ∈ lw_tbl := in_seg wsX70 [(829, 1), (831, 1), (833, 1), (835, 1), (837, 1), (839, 1), (841, 1), (843, 1), (845, 1), (847, 1), (849, 1), (851, 1), (853, 1), (855, 1), (857, 1), (859, 1), (861, 1), (863, 1), (865, 1), (867, 1), (869, 1), (871, 1), (873, 1), (875, 1), (877, 1), (879, 1), (881, 1), (883, 1), (885, 1), (887, 1), (889, 1), (891, 1), (893, 1), (895, 1), (897, 1), (899, 1), (901, 1), (903, 1), (905, 1), (907, 1), (909, 1), (911, 1), (913, 1), (915, 1), (917, 1), (919, 1), (921, 1), (923, 1), (925, 1), (927, 1), (929, 1), (931, 1), (933, 1), (935, 1), (937, 1), (939, 1), (941, 1), (943, 1), (945, 1), (947, 1), (949, 1), (951, 1), (953, 1), (955, 1), (957, 1), (959, 1), (961, 1), (963, 1), (965, 1), (967, 1), (969, 1), (971, 1), (973, 1), (975, 1), (977, 1), (979, 1), (981, 1), (983, 1), (985, 1)] rfl
set_option maxRecDepth 20000 in
theorem in_wsX40 : ∀ w ∈ wsX40, w ∈ lw_tbl := in_seg wsX40 [(91, 1), (93, 1), (95, 1), (97, 1), (99, 1), (101, 1), (103, 1)] rfl
set_option maxRecDepth 20000 in
theorem in_wsX00 : ∀ w ∈ wsX00, w ∈ lw_tbl := in_seg wsX00 [(123, 1), (125, 1), (127, 1)] rfl
set_option maxRecDepth 20000 in
theorem in_wsX10 : ∀ w ∈ wsX10, w ∈ lw_tbl := in_seg wsX10 [(194, 1), (196, 1), (198, 1), (200, 1), (202, 1), (204, 1), (206, 1), (208, 1), (210, 1)] rfl
set_option maxRecDepth 20000 in
theorem in_wsX30 : ∀ w ∈ wsX30, w ∈ lw_tbl := in_seg wsX30 [(302, 1), (304, 1), (306, 1), (308, 1), (310, 1), (312, 1)] rfl
set_option maxRecDepth 20000 in
theorem in_wsX50 : ∀ w ∈ wsX50, w ∈ lw_tbl := in_seg wsX50 [(259, 1), (261, 1), (263, 1), (265, 1), (267, 1), (269, 1), (271, 1), (273, 1), (275, 1), (277, 1), (279, 1), (281, 1), (283, 1), (285, 1), (287, 1), (289, 1)] rfl
set_option maxRecDepth 20000 in
theorem in_wsX20 : ∀ w ∈ wsX20, w ∈ lw_tbl := in_seg wsX20 [(156, 1), (158, 1), (160, 1), (162, 1), (164, 1), (166, 1), (168, 1)] rfl






theorem wsL_law_in : ∀ w ∈ wsL_law, w ∈ lw_tbl := by
  unfold wsL_law
  exact List.forall_mem_append.mpr ⟨List.forall_mem_append.mpr ⟨List.forall_mem_append.mpr ⟨List.forall_mem_append.mpr ⟨List.forall_mem_append.mpr ⟨List.forall_mem_append.mpr ⟨List.forall_mem_append.mpr ⟨List.forall_mem_append.mpr ⟨List.forall_mem_append.mpr ⟨List.forall_mem_append.mpr ⟨in_wsL_law_r1, List.forall_mem_append.mpr ⟨in_wsL_law_r2, List.forall_mem_append.mpr ⟨in_wsL_law_r3, List.forall_mem_append.mpr ⟨in_wsL_law_r4, List.forall_mem_append.mpr ⟨in_wsL_law_r5, List.forall_mem_append.mpr ⟨in_wsL_law_r6, List.forall_mem_append.mpr ⟨in_wsL_law_r7, List.forall_mem_append.mpr ⟨in_wsL_law_r8, List.forall_mem_append.mpr ⟨in_wsL_law_r9, List.forall_mem_append.mpr ⟨in_wsL_law_r10, List.forall_mem_append.mpr ⟨in_wsL_law_r11, List.forall_mem_append.mpr ⟨in_wsL_law_r12, List.forall_mem_append.mpr ⟨in_wsL_law_r13, List.forall_mem_append.mpr ⟨in_wsL_law_r14, List.forall_mem_append.mpr ⟨in_wsL_law_r15, List.forall_mem_append.mpr ⟨in_wsL_law_r16, List.forall_mem_append.mpr ⟨in_wsL_law_r17, List.forall_mem_append.mpr ⟨in_wsL_law_r18, List.forall_mem_append.mpr ⟨in_wsL_law_r19, List.forall_mem_append.mpr ⟨in_wsL_law_r20, List.forall_mem_append.mpr ⟨in_wsL_law_r21, List.forall_mem_append.mpr ⟨in_wsL_law_r22, List.forall_mem_append.mpr ⟨in_wsL_law_r23, List.forall_mem_append.mpr ⟨in_wsL_law_r24, List.forall_mem_append.mpr ⟨in_wsL_law_r25, List.forall_mem_append.mpr ⟨in_wsL_law_r26, List.forall_mem_append.mpr ⟨in_wsL_law_r27, List.forall_mem_append.mpr ⟨in_wsL_law_r28, List.forall_mem_append.mpr ⟨in_wsL_law_r29, List.forall_mem_append.mpr ⟨in_wsL_law_r30, List.forall_mem_append.mpr ⟨in_wsL_law_r31, List.forall_mem_append.mpr ⟨in_wsL_law_r32, List.forall_mem_append.mpr ⟨in_wsL_law_r33, List.forall_mem_append.mpr ⟨in_wsL_law_r34, List.forall_mem_append.mpr ⟨in_wsL_law_r35, List.forall_mem_append.mpr ⟨in_wsL_law_r36, in_wsL_law_r37⟩⟩⟩⟩⟩⟩⟩⟩⟩⟩⟩⟩⟩⟩⟩⟩⟩⟩⟩⟩⟩⟩⟩⟩⟩⟩⟩⟩⟩⟩⟩⟩⟩⟩⟩⟩, in_wsX60⟩, in_wsX70⟩, in_wsX40⟩, in_wsX00⟩, in_wsX10⟩, in_wsX30⟩, in_wsX50⟩, in_wsX20⟩, fun _ h => absurd h List.not_mem_nil⟩
theorem inlX0 : ∀ w ∈ wsX00, w ∈ wsL_law := fun _ h => List.mem_append_left _ (List.mem_append_left _ (List.mem_append_left _ (List.mem_append_left _ (List.mem_append_left _ (List.mem_append_right _ h)))))
theorem inX0 : ∀ w ∈ wsX00, w ∈ lw_tbl := fun w h => wsL_law_in w (inlX0 w h)
theorem inlX1 : ∀ w ∈ wsX10, w ∈ wsL_law := fun _ h => List.mem_append_left _ (List.mem_append_left _ (List.mem_append_left _ (List.mem_append_left _ (List.mem_append_right _ h))))
theorem inX1 : ∀ w ∈ wsX10, w ∈ lw_tbl := fun w h => wsL_law_in w (inlX1 w h)
theorem inlX2 : ∀ w ∈ wsX20, w ∈ wsL_law := fun _ h => List.mem_append_left _ (List.mem_append_right _ h)
theorem inX2 : ∀ w ∈ wsX20, w ∈ lw_tbl := fun w h => wsL_law_in w (inlX2 w h)
theorem inlX3 : ∀ w ∈ wsX30, w ∈ wsL_law := fun _ h => List.mem_append_left _ (List.mem_append_left _ (List.mem_append_left _ (List.mem_append_right _ h)))
theorem inX3 : ∀ w ∈ wsX30, w ∈ lw_tbl := fun w h => wsL_law_in w (inlX3 w h)
theorem inlX4 : ∀ w ∈ wsX40, w ∈ wsL_law := fun _ h => List.mem_append_left _ (List.mem_append_left _ (List.mem_append_left _ (List.mem_append_left _ (List.mem_append_left _ (List.mem_append_left _ (List.mem_append_right _ h))))))
theorem inX4 : ∀ w ∈ wsX40, w ∈ lw_tbl := fun w h => wsL_law_in w (inlX4 w h)
theorem inlX5 : ∀ w ∈ wsX50, w ∈ wsL_law := fun _ h => List.mem_append_left _ (List.mem_append_left _ (List.mem_append_right _ h))
theorem inX5 : ∀ w ∈ wsX50, w ∈ lw_tbl := fun w h => wsL_law_in w (inlX5 w h)
theorem inlX6 : ∀ w ∈ wsX60, w ∈ wsL_law := fun _ h => List.mem_append_left _ (List.mem_append_left _ (List.mem_append_left _ (List.mem_append_left _ (List.mem_append_left _ (List.mem_append_left _ (List.mem_append_left _ (List.mem_append_left _ (List.mem_append_right _ h))))))))
theorem inX6 : ∀ w ∈ wsX60, w ∈ lw_tbl := fun w h => wsL_law_in w (inlX6 w h)
theorem inlX7 : ∀ w ∈ wsX70, w ∈ wsL_law := fun _ h => List.mem_append_left _ (List.mem_append_left _ (List.mem_append_left _ (List.mem_append_left _ (List.mem_append_left _ (List.mem_append_left _ (List.mem_append_left _ (List.mem_append_right _ h)))))))
theorem inX7 : ∀ w ∈ wsX70, w ∈ lw_tbl := fun w h => wsL_law_in w (inlX7 w h)

