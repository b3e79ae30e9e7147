/-! the static tables of the abstract machine: methods, links of fields and methods, long constants; written by program out of the names and the statement's words -/
def zcnL : List String := [RX0, RX1, RX2, RX3, RX4, RX5, RX6, RX7, RX8, RX9, RX10, RX11, RJ9, RJ7]
def zcn (i : Nat) : String := zcnL.getD i ""
abbrev zMt : Type := Nat × MethodName × ByteArray × Nat × Option FieldType
def zmt_0 : List (zMt) := [(0, yX0_read, cX0_read, 3, some .int), (0, yX0_readCommand, cX0_readCommand, 5, some .boolean), (0, yX0_readSign, cX0_readSign, 3, some .boolean), (0, yX0_readNumber, cX0_readNumber, 3, some .int), (0, yX0_isDigit, cX0_isDigit, 1, some .boolean), (1, yX1_renew, cX1_renew, 2, none), (1, yX1_isFormed, cX1_isFormed, 2, some .boolean), (1, yX1_listFollowers, cX1_listFollowers, 3, none), (1, yX1_listOpenSlots, cX1_listOpenSlots, 4, none), (1, yX1_placeFrom, cX1_placeFrom, 5, some .int), (1, yX1_priceChoices, cX1_priceChoices, 8, none), (1, yX1_give, cX1_give, 3, none), (1, yX1_sumBySlots, cX1_sumBySlots, 3, some .int), (1, yX1_takeSlotIn, cX1_takeSlotIn, 6, none), (2, yX2_solve, cX2_solve, 4, none), (2, yX2_seat, cX2_seat, 5, none), (2, yX2_reachNext, cX2_reachNext, 10, some .int), (3, yX3_keep, cX3_keep, 2, none), (3, yX3_takeLatest, cX3_takeLatest, 1, some (.object "SwarmPlanner$World")), (3, yX3_forget, cX3_forget, 1, none)]
def zmt_1 : List (zMt) := [(4, yX4_copyFrom, cX4_copyFrom, 2, none), (4, yX4_empty, cX4_empty, 1, none), (4, yX4_takeSlot, cX4_takeSlot, 3, some .boolean), (4, yX4_takeAnchor, cX4_takeAnchor, 4, some .boolean), (4, yX4_columnsFromAnchor, cX4_columnsFromAnchor, 2, some .int), (4, yX4_rowsFromAnchor, cX4_rowsFromAnchor, 2, some .int), (4, yX4_lowestWay, cX4_lowestWay, 3, some .int), (4, yX4_isMade, cX4_isMade, 4, some .boolean), (4, yX4_isMadeFrom, cX4_isMadeFrom, 8, some .boolean), (4, yX4_mirroredColumn, cX4_mirroredColumn, 3, some .int), (4, yX4_turnedColumn, cX4_turnedColumn, 3, some .int), (4, yX4_turnedRow, cX4_turnedRow, 3, some .int), (5, yX5_read, cX5_read, 3, some .int), (5, yX5_takes, cX5_takes, 2, some .boolean), (5, yX5_takesRowEnd, cX5_takesRowEnd, 1, some .boolean), (5, yX5_takesSlot, cX5_takesSlot, 2, some .boolean), (6, yX6_append, cX6_append, 2, none), (6, yX6_empty, cX6_empty, 1, none), (6, yX6_at, cX6_at, 2, some .int), (7, yX7_makeRound, cX7_makeRound, 3, none)]
def zmt_2 : List (zMt) := [(7, yX7_countRound, cX7_countRound, 2, none), (7, yX7_moveLeader, cX7_moveLeader, 5, none), (7, yX7_firstNearer, cX7_firstNearer, 5, some .int), (7, yX7_lineUp, cX7_lineUp, 3, none), (7, yX7_lineUpMember, cX7_lineUpMember, 3, none), (7, yX7_insert, cX7_insert, 4, none), (7, yX7_act, cX7_act, 7, none), (7, yX7_firstFreeNearer, cX7_firstFreeNearer, 5, some .int), (7, yX7_firstPartner, cX7_firstPartner, 8, some .int), (7, yX7_stayOrStepAside, cX7_stayOrStepAside, 4, none), (7, yX7_firstFree, cX7_firstFree, 4, some .int), (8, yX8_forget, cX8_forget, 2, none), (8, yX8_from, cX8_from, 8, some (.array .int)), (9, yX9_copyFrom, cX9_copyFrom, 3, none), (9, yX9_living, cX9_living, 1, some .int), (9, yX9_hasMember, cX9_hasMember, 2, some .boolean), (9, yX9_leader, cX9_leader, 2, some .int), (9, yX9_presentShape, cX9_presentShape, 1, some (.object "SwarmPlanner$Shape")), (9, yX9_shapeSet, cX9_shapeSet, 3, some .int), (9, yX9_join, cX9_join, 3, some .int)]
def zmt_3 : List (zMt) := [(9, yX9_part, cX9_part, 2, none), (9, yX9_turnWall, cX9_turnWall, 3, none), (9, yX9_step, cX9_step, 4, none), (9, yX9_exchange, cX9_exchange, 4, none), (9, yX9_put, cX9_put, 4, none), (9, yX9_stay, cX9_stay, 3, none), (9, yX9_movedSince, cX9_movedSince, 4, some .int), (10, yX10_add, cX10_add, 4, some .int), (10, yX10_lose, cX10_lose, 2, some .int), (10, yX10_lead, cX10_lead, 3, some .int), (10, yX10_target, cX10_target, 3, some .int), (10, yX10_obstacle, cX10_obstacle, 2, some .int), (10, yX10_feed, cX10_feed, 7, some .int), (10, yX10_shape, cX10_shape, 3, some .int), (10, yX10_choose, cX10_choose, 3, some .int), (10, yX10_rounds, cX10_rounds, 3, some .int), (10, yX10_execute, cX10_execute, 4, some .int), (10, yX10_refusal, cX10_refusal, 2, some .int), (10, yX10_member, cX10_member, 3, some .int), (10, yX10_swarm, cX10_swarm, 2, some .int)]
def zmt_4 : List (zMt) := [(10, yX10_cell, cX10_cell, 3, some .int), (10, yX10_distance, cX10_distance, 3, some .int), (10, yX10_slot, cX10_slot, 4, some .int), (10, yX10_recognized, cX10_recognized, 2, some .int), (10, yX10_healed, cX10_healed, 2, some .int), (10, yX10_healedWithout, cX10_healedWithout, 3, some .int), (10, yX10_again, cX10_again, 1, some .int), (10, yX10_account, cX10_account, 2, some .int), (10, yX10_back, cX10_back, 1, some .int), (10, yX10_image, cX10_image, 1, some .int), (10, yX10_undo, cX10_undo, 1, some .int), (10, yX10_count, cX10_count, 2, some .int), (10, yX10_isCell, cX10_isCell, 1, some .boolean), (10, yX10_isShape, cX10_isShape, 1, some .boolean), (10, yX10_isByte, cX10_isByte, 1, some .boolean), (10, yX10_cellAt, cX10_cellAt, 3, some .int), (10, yX10_neighbor, cX10_neighbor, 2, some .int), (10, yX10_restore, cX10_restore, 2, none), (10, yX10_turnWall, cX10_turnWall, 2, none), (10, yX10_obey, cX10_obey, 5, some .int)]
def zmt_5 : List (zMt) := [(10, yX10_obeyAdding, cX10_obeyAdding, 2, some .int), (10, yX10_obeyWall, cX10_obeyWall, 2, some .int), (10, yX10_obeyTarget, cX10_obeyTarget, 2, some .int), (10, yX10_obeyLeading, cX10_obeyLeading, 2, some .int), (10, yX10_obeyLosing, cX10_obeyLosing, 2, some .int), (10, yX10_numberGiven, cX10_numberGiven, 4, some .int), (10, yX10_numberOfGiving, cX10_numberOfGiving, 2, some .int), (10, yX10_slotWithPlace, cX10_slotWithPlace, 4, some .int), (10, yX10_distanceFromLeader, cX10_distanceFromLeader, 3, some .int), (10, yX10_neighborsWithoutWall, cX10_neighborsWithoutWall, 5, some .int), (10, yX10_triedWithout, cX10_triedWithout, 4, some .int), (10, yX10_roundsToForm, cX10_roundsToForm, 3, some .int), (11, yX11_in, cX11_in, 3, some .boolean), (11, yX11_copies, cX11_copies, 4, none), (11, yX11_keeps, cX11_keeps, 2, none), (11, yX11_of, cX11_of, 3, some .int), (11, yX11_lays, cX11_lays, 4, none), (11, yX11_isMember, cX11_isMember, 2, some .boolean), (11, yX11_isCell, cX11_isCell, 1, some .boolean), (11, yX11_isBlocked, cX11_isBlocked, 2, some .boolean)]
def zmt_6 : List (zMt) := [(11, yX11_members, cX11_members, 3, some .int), (11, yX11_on, cX11_on, 3, some .int), (11, yX11_leader, cX11_leader, 2, some .int), (11, yX11_counts, cX11_counts, 3, none), (11, yX11_beside, cX11_beside, 4, some .int), (11, yX11_floods, cX11_floods, 9, none), (11, yX11_distanceOf, cX11_distanceOf, 3, some .int), (11, yX11_shapeAt, cX11_shapeAt, 1, some .int), (11, yX11_slots, cX11_slots, 2, some .int), (11, yX11_anchor, cX11_anchor, 2, some .int), (11, yX11_column, cX11_column, 3, some .int), (11, yX11_rowOf, cX11_rowOf, 3, some .int), (11, yX11_placeOf, cX11_placeOf, 5, some .int), (11, yX11_reckons, cX11_reckons, 6, none), (11, yX11_gives, cX11_gives, 9, none), (11, yX11_isFormed, cX11_isFormed, 3, some .boolean), (11, yX11_goes, cX11_goes, 3, none), (11, yX11_waits, cX11_waits, 2, none), (11, yX11_leads, cX11_leads, 6, none), (11, yX11_mayExchange, cX11_mayExchange, 4, some .boolean)]
def zmt_7 : List (zMt) := [(11, yX11_steps, cX11_steps, 6, some .boolean), (11, yX11_exchanges, cX11_exchanges, 8, some .boolean), (11, yX11_stepsAside, cX11_stepsAside, 4, some .boolean), (11, yX11_acts, cX11_acts, 4, none), (11, yX11_round, cX11_round, 5, none), (11, yX11_makes, cX11_makes, 4, some .int), (11, yX11_rounds, cX11_rounds, 2, some .int), (11, yX11_opens, cX11_opens, 4, some .int), (11, yX11_goesLost, cX11_goesLost, 2, some .int), (11, yX11_turnsBlocked, cX11_turnsBlocked, 2, some .int), (11, yX11_add, cX11_add, 4, some .int), (11, yX11_lose, cX11_lose, 2, some .int), (11, yX11_lead, cX11_lead, 3, some .int), (11, yX11_target, cX11_target, 3, some .int), (11, yX11_obstacle, cX11_obstacle, 2, some .int), (11, yX11_feed, cX11_feed, 8, some .int), (11, yX11_here, cX11_here, 1, some .int), (11, yX11_readsShape, cX11_readsShape, 5, none), (11, yX11_shape, cX11_shape, 3, some .int), (11, yX11_choose, cX11_choose, 3, some .int)]
def zmt_8 : List (zMt) := [(11, yX11_number, cX11_number, 3, some .int), (11, yX11_order, cX11_order, 3, none), (11, yX11_refusal, cX11_refusal, 5, some .int), (11, yX11_carries, cX11_carries, 6, none), (11, yX11_execute, cX11_execute, 3, some .int), (11, yX11_refusal_, cX11_refusal_, 2, some .int), (11, yX11_member, cX11_member, 4, some .int), (11, yX11_swarm, cX11_swarm, 5, some .int), (11, yX11_slotAt, cX11_slotAt, 3, some .int), (11, yX11_cell, cX11_cell, 5, some .int), (11, yX11_distance, cX11_distance, 4, some .int), (11, yX11_slot, cX11_slot, 4, some .int), (11, yX11_turnsRound, cX11_turnsRound, 6, none), (11, yX11_isLike, cX11_isLike, 9, some .boolean), (11, yX11_recognized, cX11_recognized, 4, some .int), (11, yX11_forms, cX11_forms, 3, some .int), (11, yX11_healed, cX11_healed, 3, some .int), (11, yX11_healedWithout, cX11_healedWithout, 4, some .int), (11, yX11_again, cX11_again, 1, some .int), (11, yX11_account, cX11_account, 4, some .int)]
def zmt_9 : List (zMt) := [(11, yX11_back, cX11_back, 1, some .int), (11, yX11_image, cX11_image, 1, some .int), (11, yX11_undo, cX11_undo, 1, some .int), (11, yX11_count, cX11_count, 4, some .int), (13, yJ7_fill_d0a16, cJ7_fill_d0a16, 5, none), (13, yJ7_fill_53178, cJ7_fill_53178, 4, none)]
def zmt : List (zMt) := zmt_0 ++ (zmt_1 ++ (zmt_2 ++ (zmt_3 ++ (zmt_4 ++ (zmt_5 ++ (zmt_6 ++ (zmt_7 ++ (zmt_8 ++ (zmt_9)))))))))
def zmp_0 : List (Nat × Nat × Nat × Nat × Nat) := [(756, 97, 754, 0, 1), (760, 97, 759, 0, 2), (772, 97, 771, 0, 2), (765, 97, 764, 0, 1), (768, 97, 767, 1, 1), (644, 99, 642, 0, 0), (826, 99, 824, 0, 0), (649, 99, 648, 0, 0), (655, 99, 654, 0, 0), (663, 99, 662, 0, 3), (676, 99, 675, 0, 0), (703, 99, 702, 0, 2), (909, 99, 907, 0, 0), (913, 99, 912, 0, 1), (686, 100, 684, 0, 2), (694, 100, 693, 0, 2), (699, 100, 698, 0, 2), (474, 94, 472, 0, 1), (926, 94, 924, 0, 0), (938, 94, 936, 0, 0)]
def zmp_1 : List (Nat × Nat × Nat × Nat × Nat) := [(485, 93, 483, 0, 1), (567, 93, 565, 0, 0), (587, 93, 585, 0, 2), (591, 93, 589, 0, 2), (667, 93, 665, 0, 1), (671, 93, 669, 0, 1), (862, 93, 860, 0, 1), (867, 93, 866, 0, 2), (872, 93, 871, 0, 3), (880, 93, 879, 0, 2), (876, 93, 875, 0, 2), (884, 93, 883, 0, 2), (563, 96, 561, 0, 1), (575, 96, 574, 0, 1), (579, 96, 578, 0, 0), (583, 96, 582, 0, 1), (552, 95, 550, 0, 1), (596, 95, 594, 0, 0), (571, 95, 569, 0, 1), (610, 101, 608, 0, 0)]
def zmp_2 : List (Nat × Nat × Nat × Nat × Nat) := [(744, 101, 743, 0, 0), (615, 101, 614, 0, 1), (627, 101, 626, 0, 2), (707, 101, 706, 0, 1), (712, 101, 711, 0, 1), (716, 101, 715, 0, 2), (720, 101, 719, 0, 1), (724, 101, 723, 0, 2), (728, 101, 727, 0, 2), (736, 101, 735, 0, 2), (740, 101, 739, 0, 1), (541, 98, 539, 0, 0), (619, 98, 617, 0, 1), (478, 91, 476, 0, 1), (509, 91, 507, 0, 0), (501, 91, 499, 0, 1), (517, 91, 515, 0, 0), (659, 91, 657, 0, 0), (946, 91, 944, 0, 0), (493, 91, 491, 0, 1)]
def zmp_3 : List (Nat × Nat × Nat × Nat × Nat) := [(505, 91, 503, 0, 1), (537, 91, 535, 0, 1), (632, 91, 630, 0, 3), (732, 91, 730, 0, 2), (636, 91, 635, 0, 3), (640, 91, 638, 0, 2), (748, 91, 746, 0, 1), (467, 90, 465, 0, 2), (497, 90, 495, 0, 1), (513, 90, 511, 0, 1), (522, 90, 520, 0, 1), (529, 90, 527, 0, 1), (545, 90, 543, 0, 6), (556, 90, 554, 0, 1), (601, 90, 599, 0, 1), (605, 90, 603, 0, 1), (752, 90, 750, 0, 0), (804, 90, 802, 0, 1), (808, 90, 806, 0, 2), (818, 90, 816, 0, 1)]
def zmp_4 : List (Nat × Nat × Nat × Nat × Nat) := [(830, 90, 828, 0, 2), (848, 90, 846, 0, 2), (852, 90, 850, 0, 2), (858, 90, 856, 0, 1), (889, 90, 887, 0, 1), (901, 90, 899, 0, 2), (905, 90, 903, 0, 0), (918, 90, 916, 0, 1), (922, 90, 920, 0, 0), (930, 90, 928, 0, 0), (934, 90, 932, 0, 0), (942, 90, 940, 0, 1), (525, 90, 524, 1, 1), (559, 90, 558, 1, 1), (548, 90, 547, 1, 1), (470, 90, 469, 1, 2), (623, 90, 622, 1, 2), (800, 90, 799, 0, 1), (533, 90, 532, 0, 1), (776, 90, 775, 0, 3)]
def zmp_5 : List (Nat × Nat × Nat × Nat × Nat) := [(780, 90, 779, 0, 1), (784, 90, 783, 0, 1), (788, 90, 787, 0, 1), (792, 90, 791, 0, 1), (796, 90, 795, 0, 1), (812, 90, 811, 0, 2), (822, 90, 821, 0, 1), (834, 90, 833, 0, 1), (839, 90, 838, 0, 1), (843, 90, 842, 0, 1), (893, 90, 892, 0, 2), (897, 90, 896, 0, 1), (1035, 102, 1034, 1, 3), (1055, 102, 1054, 0, 2), (1051, 102, 1050, 0, 0), (1047, 102, 1046, 0, 2), (1075, 102, 1074, 0, 3), (1043, 102, 1042, 0, 1), (1184, 102, 1183, 1, 1), (1083, 102, 1082, 0, 1)]
def zmp_6 : List (Nat × Nat × Nat × Nat × Nat) := [(1169, 102, 1168, 0, 0), (1090, 102, 1089, 0, 1), (1039, 102, 1038, 0, 0), (1067, 102, 1066, 0, 2), (1086, 102, 1085, 1, 2), (1079, 102, 1078, 0, 2), (1256, 102, 1255, 0, 2), (1109, 102, 1108, 1, 1), (1106, 102, 1105, 0, 1), (1113, 102, 1112, 0, 1), (1121, 102, 1120, 0, 2), (1125, 102, 1124, 0, 2), (1117, 102, 1116, 0, 1), (1129, 102, 1128, 0, 1), (1102, 102, 1101, 0, 0), (1244, 102, 1243, 0, 0), (1098, 102, 1097, 0, 2), (1094, 102, 1093, 0, 1), (1071, 102, 1070, 0, 0), (1145, 102, 1144, 0, 3)]
def zmp_7 : List (Nat × Nat × Nat × Nat × Nat) := [(1137, 102, 1136, 0, 3), (1141, 102, 1140, 0, 3), (1149, 102, 1148, 0, 1), (1133, 102, 1132, 0, 1), (1063, 102, 1062, 0, 0), (1059, 102, 1058, 0, 1), (1032, 102, 1030, 0, 1), (1157, 102, 1156, 0, 1), (1165, 102, 1164, 0, 1), (1188, 102, 1187, 0, 1), (1153, 102, 1151, 0, 2), (1161, 102, 1159, 0, 1), (1173, 102, 1171, 0, 1), (1177, 102, 1175, 0, 1), (1181, 102, 1179, 0, 1), (1192, 102, 1190, 0, 6), (1204, 102, 1203, 0, 0), (1200, 102, 1199, 0, 0), (1196, 102, 1194, 0, 1), (1208, 102, 1206, 0, 1)]
def zmp_8 : List (Nat × Nat × Nat × Nat × Nat) := [(1220, 102, 1219, 0, 0), (1216, 102, 1215, 0, 0), (1224, 102, 1223, 0, 3), (1228, 102, 1227, 0, 3), (1212, 102, 1210, 0, 0), (1232, 102, 1230, 0, 1), (1236, 102, 1234, 0, 2), (1240, 102, 1238, 0, 1), (1252, 102, 1251, 0, 1), (1248, 102, 1246, 0, 2), (1260, 102, 1258, 0, 2), (1264, 102, 1262, 0, 2), (1276, 102, 1275, 0, 3), (1272, 102, 1271, 0, 3), (1268, 102, 1266, 0, 1), (1284, 102, 1283, 0, 1), (1280, 102, 1278, 0, 1), (1288, 102, 1286, 0, 2), (1292, 102, 1290, 0, 0), (1296, 102, 1294, 0, 1)]
def zmp_9 : List (Nat × Nat × Nat × Nat × Nat) := [(1300, 102, 1298, 0, 0), (1304, 102, 1302, 0, 0), (1308, 102, 1306, 0, 0), (1312, 102, 1310, 0, 1), (690, 92, 689, 1, 2), (123, 92, 122, 1, 2)]
def zmp : List (Nat × Nat × Nat × Nat × Nat) := zmp_0 ++ (zmp_1 ++ (zmp_2 ++ (zmp_3 ++ (zmp_4 ++ (zmp_5 ++ (zmp_6 ++ (zmp_7 ++ (zmp_8 ++ (zmp_9)))))))))
def zflL_0 : List (Nat × Nat × Nat × Nat × Nat × Nat) := [(9, 0, 0, 271, 0, 9), (15, 0, 1, 273, 0, 15), (18, 0, 2, 275, 0, 18), (21, 0, 3, 277, 0, 21), (25, 0, 4, 279, 0, 25), (32, 6, 0, 238, 0, 32), (1009, 1, 0, 352, 1, 9), (1015, 1, 1, 354, 1, 15), (1018, 1, 2, 357, 1, 18), (1021, 1, 3, 359, 1, 21), (1025, 1, 4, 361, 1, 25), (1028, 1, 5, 363, 1, 28), (1034, 1, 8, 367, 1, 34), (1038, 1, 9, 368, 1, 38), (1041, 1, 10, 369, 1, 41), (1044, 1, 11, 370, 1, 44), (1047, 1, 12, 371, 1, 47), (1050, 1, 6, 365, 1, 50), (1054, 1, 7, 366, 1, 54), (1077, 2, 1, 330, 1, 77)]
def zflL_1 : List (Nat × Nat × Nat × Nat × Nat × Nat) := [(1089, 4, 2, 132, 1, 89), (1102, 9, 1, 157, 1, 102), (1109, 4, 3, 137, 1, 109), (1123, 9, 0, 153, 1, 123), (1132, 2, 0, 328, 1, 132), (2011, 2, 0, 327, 2, 11), (2014, 2, 1, 329, 2, 14), (2018, 2, 2, 331, 2, 18), (2022, 2, 3, 332, 2, 22), (2025, 2, 4, 333, 2, 25), (2028, 2, 5, 334, 2, 28), (2031, 2, 6, 335, 2, 31), (3009, 3, 0, 219, 3, 9), (3017, 3, 1, 221, 3, 17), (3021, 3, 2, 222, 3, 21), (4009, 4, 0, 129, 4, 9), (4015, 4, 1, 130, 4, 15), (4018, 4, 2, 131, 4, 18), (4022, 4, 3, 135, 4, 22), (4049, 9, 1, 158, 4, 49)]
def zflL_2 : List (Nat × Nat × Nat × Nat × Nat × Nat) := [(4066, 9, 0, 154, 4, 66), (5012, 5, 0, 254, 5, 12), (5018, 5, 1, 256, 5, 18), (5022, 5, 2, 257, 5, 22), (5028, 6, 0, 237, 5, 28), (5041, 4, 3, 136, 5, 41), (6009, 6, 0, 236, 6, 9), (6015, 6, 1, 240, 6, 15), (7009, 7, 3, 408, 7, 9), (7015, 7, 4, 409, 7, 15), (7018, 7, 5, 410, 7, 18), (7022, 7, 0, 405, 7, 22), (7026, 7, 1, 406, 7, 26), (7030, 7, 2, 407, 7, 30), (7058, 9, 7, 175, 7, 58), (7065, 9, 6, 171, 7, 65), (7068, 9, 1, 156, 7, 68), (7071, 9, 10, 181, 7, 71), (7074, 9, 2, 161, 7, 74), (7087, 9, 0, 152, 7, 87)]
def zflL_3 : List (Nat × Nat × Nat × Nat × Nat × Nat) := [(7105, 1, 1, 355, 7, 105), (7123, 9, 3, 164, 7, 123), (8011, 8, 1, 300, 8, 11), (8016, 8, 2, 301, 8, 16), (8020, 8, 3, 302, 8, 20), (8024, 8, 0, 299, 8, 24), (8034, 9, 0, 151, 8, 34), (9009, 9, 0, 149, 9, 9), (9015, 9, 1, 155, 9, 15), (9018, 9, 2, 160, 9, 18), (9021, 9, 3, 163, 9, 21), (9024, 9, 4, 166, 9, 24), (9027, 9, 5, 168, 9, 27), (9030, 9, 6, 170, 9, 30), (9033, 9, 7, 173, 9, 33), (9038, 9, 8, 176, 9, 38), (9042, 9, 9, 178, 9, 42), (9046, 9, 10, 180, 9, 46), (9049, 9, 11, 183, 9, 49), (9073, 4, 2, 133, 9, 73)]
def zflL_4 : List (Nat × Nat × Nat × Nat × Nat × Nat) := [(10010, 10, 0, 424, 10, 10), (10016, 10, 1, 425, 10, 16), (10019, 10, 2, 426, 10, 19), (10022, 10, 3, 427, 10, 22), (10029, 10, 4, 428, 10, 29), (10036, 10, 5, 429, 10, 36), (10043, 10, 6, 430, 10, 43), (10050, 10, 7, 431, 10, 50), (10059, 10, 8, 432, 10, 59), (10068, 10, 9, 433, 10, 68), (10077, 10, 10, 434, 10, 77), (10081, 10, 11, 435, 10, 81), (10085, 10, 12, 436, 10, 85), (10092, 9, 0, 150, 10, 92), (10096, 9, 7, 174, 10, 96), (10121, 9, 9, 179, 10, 121), (10127, 9, 10, 182, 10, 127), (10136, 6, 0, 239, 10, 136), (10152, 9, 8, 177, 10, 152), (10156, 5, 0, 255, 10, 156)]
def zflL_5 : List (Nat × Nat × Nat × Nat × Nat × Nat) := [(10166, 4, 2, 134, 10, 166), (10169, 9, 11, 184, 10, 169), (10182, 0, 3, 278, 10, 182), (10183, 0, 0, 272, 10, 183), (10186, 0, 1, 274, 10, 186), (10189, 0, 2, 276, 10, 189), (10199, 9, 1, 159, 10, 199), (10205, 9, 2, 162, 10, 205), (10208, 9, 3, 165, 10, 208), (10211, 9, 4, 167, 10, 211), (10214, 9, 5, 169, 10, 214), (10217, 9, 6, 172, 10, 217), (10236, 4, 3, 138, 10, 236), (10254, 3, 0, 220, 10, 254), (10285, 1, 1, 356, 10, 285), (10288, 1, 0, 353, 10, 288), (10291, 1, 4, 362, 10, 291), (10294, 1, 5, 364, 10, 294), (10301, 1, 3, 360, 10, 301), (10308, 1, 2, 358, 10, 308)]
def zflL_6 : List (Nat × Nat × Nat × Nat × Nat × Nat) := [(11009, 11, 0, 953, 11, 9), (11013, 11, 3, 956, 11, 13), (11016, 11, 4, 957, 11, 16), (11019, 11, 5, 958, 11, 19), (11022, 11, 6, 959, 11, 22), (11025, 11, 7, 960, 11, 25), (11028, 11, 10, 963, 11, 28), (11031, 11, 11, 964, 11, 31), (11034, 11, 12, 965, 11, 34), (11037, 11, 13, 966, 11, 37), (11040, 11, 14, 967, 11, 40), (11043, 11, 18, 971, 11, 43), (11046, 11, 19, 972, 11, 46), (11049, 11, 1, 954, 11, 49), (11095, 11, 8, 961, 11, 95), (11098, 11, 9, 962, 11, 98), (11172, 11, 15, 968, 11, 172), (11175, 11, 16, 969, 11, 175), (11178, 11, 17, 970, 11, 178), (11187, 11, 20, 973, 11, 187)]
def zflL_7 : List (Nat × Nat × Nat × Nat × Nat × Nat) := [(11200, 11, 21, 974, 11, 200), (11203, 11, 22, 975, 11, 203), (11219, 11, 23, 976, 11, 219), (11222, 11, 24, 977, 11, 222), (11234, 11, 2, 955, 11, 234)]
def zflL : List (Nat × Nat × Nat × Nat × Nat × Nat) := zflL_0 ++ (zflL_1 ++ (zflL_2 ++ (zflL_3 ++ (zflL_4 ++ (zflL_5 ++ (zflL_6 ++ (zflL_7)))))))
def zfl (own idx : Nat) : Option (Nat × Nat) := if 1000 ≤ idx then none else (zflL.find? (fun e => e.1 == 1000 * own + idx)).map (fun e => (e.2.1, e.2.2.1))
def zmlL_0 : List (Nat × Nat × Nat × Nat × Nat × Nat × Nat × Nat × Nat) := [(28, 0, 1, 2, 0, 757, 23, 0, 28), (37, 0, 2, 2, 0, 769, 25, 0, 37), (40, 0, 38, 1, 6, 761, 570, 0, 40), (43, 0, 3, 1, 0, 762, 24, 0, 43), (47, 1, 4, 1, 0, 766, 0, 0, 47), (1058, 1, 185, 2, 13, 645, 0, 1, 58), (1064, 0, 7, 0, 1, 646, 7, 1, 64), (1067, 0, 8, 0, 1, 652, 8, 1, 67), (1070, 0, 10, 0, 1, 673, 10, 1, 70), (1073, 0, 14, 2, 2, 683, 685, 1, 73), (1080, 0, 11, 2, 1, 700, 13, 1, 80), (1083, 0, 57, 0, 9, 656, 658, 1, 83), (1094, 0, 56, 0, 9, 650, 516, 1, 94), (1098, 0, 55, 1, 9, 651, 500, 1, 98), (1105, 0, 9, 3, 1, 660, 9, 1, 105), (1112, 0, 24, 1, 4, 664, 666, 1, 112), (1116, 0, 25, 1, 4, 668, 670, 1, 116), (1119, 2, 95, 2, 10, 672, 0, 1, 119), (1126, 0, 52, 1, 8, 677, 618, 1, 126), (1146, 0, 13, 1, 1, 910, 45, 1, 146)]
def zmlL_1 : List (Nat × Nat × Nat × Nat × Nat × Nat × Nat × Nat × Nat) := [(1150, 4, 0, 2, 0, 914, 0, 1, 150), (2035, 1, 185, 2, 13, 687, 0, 2, 35), (2041, 1, 184, 2, 13, 688, 0, 2, 41), (2044, 0, 15, 2, 2, 691, 11, 2, 44), (2050, 0, 16, 2, 2, 696, 12, 2, 50), (3025, 0, 53, 1, 9, 475, 477, 3, 25), (3029, 4, 0, 2, 0, 487, 0, 3, 29), (4025, 3, 0, 5, 0, 486, 0, 4, 25), (4031, 0, 22, 2, 4, 592, 586, 4, 31), (4035, 0, 54, 0, 9, 863, 508, 4, 35), (4041, 0, 27, 2, 4, 864, 38, 4, 41), (4045, 0, 55, 1, 9, 868, 500, 4, 45), (4052, 0, 28, 3, 4, 869, 39, 4, 52), (4056, 0, 30, 2, 4, 873, 40, 4, 56), (4060, 0, 31, 2, 4, 881, 42, 4, 60), (4063, 2, 95, 2, 10, 885, 0, 4, 63), (4069, 0, 29, 2, 4, 877, 41, 4, 69), (5025, 0, 21, 0, 4, 564, 566, 5, 25), (5033, 0, 38, 1, 6, 568, 570, 5, 33), (5037, 0, 33, 1, 5, 572, 1, 5, 37)]
def zmlL_2 : List (Nat × Nat × Nat × Nat × Nat × Nat × Nat × Nat × Nat) := [(5044, 0, 34, 0, 5, 576, 2, 5, 44), (5048, 0, 35, 1, 5, 580, 3, 5, 48), (5051, 0, 22, 2, 4, 584, 586, 5, 51), (5055, 0, 23, 2, 4, 588, 590, 5, 55), (7034, 0, 56, 0, 9, 611, 516, 7, 34), (7040, 0, 41, 1, 7, 612, 4, 7, 40), (7044, 0, 5, 0, 1, 641, 643, 7, 44), (7049, 0, 43, 1, 7, 704, 14, 7, 49), (7052, 0, 46, 1, 7, 717, 17, 7, 52), (7055, 0, 40, 0, 7, 741, 22, 7, 55), (7061, 0, 55, 1, 9, 708, 500, 7, 61), (7077, 0, 52, 1, 8, 616, 618, 7, 77), (7083, 0, 42, 2, 7, 624, 5, 7, 83), (7090, 0, 62, 3, 9, 629, 631, 7, 90), (7094, 0, 65, 2, 9, 637, 639, 7, 94), (7098, 2, 96, 2, 10, 628, 0, 7, 98), (7102, 0, 44, 1, 7, 709, 15, 7, 102), (7108, 0, 45, 2, 7, 713, 16, 7, 108), (7111, 0, 47, 2, 7, 721, 18, 7, 111), (7114, 0, 48, 2, 7, 725, 19, 7, 114)]
def zmlL_3 : List (Nat × Nat × Nat × Nat × Nat × Nat × Nat × Nat × Nat) := [(7117, 0, 63, 2, 9, 729, 731, 7, 117), (7120, 0, 49, 2, 7, 733, 20, 7, 120), (7126, 0, 50, 1, 7, 737, 21, 7, 126), (8028, 1, 185, 2, 13, 620, 0, 8, 28), (8039, 2, 96, 2, 10, 621, 0, 8, 39), (9052, 1, 185, 2, 13, 121, 0, 9, 52), (9059, 3, 0, 5, 0, 479, 0, 9, 59), (9065, 0, 20, 1, 4, 482, 484, 9, 65), (9069, 0, 55, 1, 9, 518, 500, 9, 69), (9076, 0, 64, 3, 9, 633, 6, 9, 76), (10088, 1, 95, 2, 10, 468, 0, 10, 88), (10099, 0, 17, 1, 3, 471, 473, 10, 99), (10102, 0, 59, 1, 9, 490, 492, 10, 102), (10106, 0, 55, 1, 9, 498, 500, 10, 106), (10110, 0, 60, 1, 9, 502, 504, 10, 110), (10114, 0, 54, 0, 9, 506, 508, 10, 114), (10118, 0, 56, 0, 9, 514, 516, 10, 118), (10124, 1, 92, 1, 10, 523, 0, 10, 124), (10130, 0, 98, 1, 10, 530, 0, 10, 130), (10133, 1, 94, 1, 10, 546, 0, 10, 133)]
def zmlL_4 : List (Nat × Nat × Nat × Nat × Nat × Nat × Nat × Nat × Nat) := [(10139, 0, 36, 1, 6, 549, 551, 10, 139), (10142, 1, 93, 1, 10, 557, 0, 10, 142), (10145, 0, 32, 1, 5, 560, 562, 10, 145), (10149, 0, 37, 0, 6, 593, 595, 10, 149), (10160, 0, 20, 1, 4, 597, 484, 10, 160), (10172, 0, 53, 1, 9, 606, 477, 10, 172), (10174, 0, 39, 0, 7, 607, 609, 10, 174), (10177, 0, 66, 1, 9, 745, 747, 10, 177), (10181, 0, 0, 1, 0, 753, 755, 10, 181), (10192, 0, 99, 3, 10, 773, 26, 10, 192), (10196, 0, 97, 1, 10, 797, 32, 10, 196), (10202, 0, 105, 2, 10, 809, 33, 10, 202), (10220, 0, 106, 1, 10, 819, 34, 10, 220), (10223, 0, 107, 1, 10, 831, 35, 10, 223), (10226, 0, 108, 1, 10, 836, 36, 10, 226), (10229, 0, 109, 1, 10, 840, 37, 10, 229), (10232, 0, 52, 1, 8, 814, 618, 10, 232), (10239, 0, 24, 1, 4, 853, 666, 10, 239), (10242, 0, 25, 1, 4, 854, 670, 10, 242), (10245, 0, 26, 1, 4, 859, 861, 10, 245)]
def zmlL_5 : List (Nat × Nat × Nat × Nat × Nat × Nat × Nat × Nat × Nat) := [(10248, 0, 110, 2, 10, 890, 43, 10, 248), (10251, 0, 12, 0, 1, 906, 908, 10, 251), (10255, 0, 18, 0, 3, 923, 925, 10, 255), (10259, 0, 19, 0, 3, 935, 937, 10, 259), (10262, 0, 58, 0, 9, 943, 945, 10, 262), (10265, 0, 51, 0, 8, 538, 540, 10, 265), (10266, 0, 61, 1, 9, 534, 536, 10, 266), (10267, 0, 100, 1, 10, 777, 27, 10, 267), (10270, 0, 101, 1, 10, 781, 28, 10, 270), (10273, 0, 102, 1, 10, 785, 29, 10, 273), (10276, 0, 103, 1, 10, 789, 30, 10, 276), (10279, 0, 104, 1, 10, 793, 31, 10, 279), (10282, 0, 5, 0, 1, 813, 643, 10, 282), (10297, 0, 6, 0, 1, 823, 825, 10, 297), (10304, 0, 57, 0, 9, 835, 658, 10, 304), (10311, 1, 96, 2, 10, 844, 0, 10, 311), (10314, 0, 111, 1, 10, 894, 44, 10, 314), (11053, 0, 113, 2, 11, 1052, 50, 11, 53), (11057, 1, 112, 3, 11, 1033, 0, 11, 57), (11061, 0, 115, 2, 11, 1044, 48, 11, 61)]
def zmlL_6 : List (Nat × Nat × Nat × Nat × Nat × Nat × Nat × Nat × Nat) := [(11065, 0, 117, 1, 11, 1040, 47, 11, 65), (11069, 0, 119, 1, 11, 1080, 57, 11, 69), (11072, 1, 124, 2, 11, 1084, 0, 11, 72), (11075, 0, 125, 2, 11, 1076, 56, 11, 75), (11078, 1, 127, 1, 11, 1107, 0, 11, 78), (11082, 0, 129, 1, 11, 1110, 63, 11, 82), (11085, 0, 122, 0, 11, 1036, 46, 11, 85), (11089, 0, 130, 2, 11, 1118, 65, 11, 89), (11092, 0, 131, 2, 11, 1122, 66, 11, 92), (11101, 0, 128, 1, 11, 1103, 62, 11, 101), (11104, 0, 132, 1, 11, 1114, 64, 11, 104), (11107, 0, 133, 1, 11, 1126, 67, 11, 107), (11111, 0, 134, 0, 11, 1099, 61, 11, 111), (11114, 0, 116, 3, 11, 1072, 55, 11, 114), (11118, 0, 123, 2, 11, 1064, 53, 11, 118), (11121, 0, 121, 1, 11, 1087, 58, 11, 121), (11124, 0, 137, 1, 11, 1091, 59, 11, 124), (11127, 0, 136, 2, 11, 1095, 60, 11, 127), (11130, 0, 139, 3, 11, 1142, 71, 11, 130), (11133, 0, 140, 3, 11, 1134, 69, 11, 133)]
def zmlL_7 : List (Nat × Nat × Nat × Nat × Nat × Nat × Nat × Nat × Nat) := [(11136, 0, 141, 3, 11, 1138, 70, 11, 136), (11139, 0, 142, 1, 11, 1146, 72, 11, 139), (11142, 0, 138, 0, 11, 1068, 54, 11, 142), (11145, 0, 143, 1, 11, 1130, 68, 11, 145), (11148, 0, 144, 0, 11, 1060, 52, 11, 148), (11151, 0, 114, 0, 11, 1048, 49, 11, 151), (11154, 0, 145, 1, 11, 1056, 51, 11, 154), (11157, 0, 120, 0, 11, 1166, 75, 11, 157), (11160, 0, 147, 1, 11, 1154, 73, 11, 160), (11163, 0, 148, 1, 11, 1162, 74, 11, 163), (11166, 1, 118, 1, 11, 1182, 0, 11, 166), (11169, 0, 149, 1, 11, 1185, 76, 11, 169), (11181, 0, 156, 0, 11, 1201, 78, 11, 181), (11184, 0, 157, 0, 11, 1197, 77, 11, 184), (11190, 0, 160, 0, 11, 1217, 80, 11, 190), (11193, 0, 161, 0, 11, 1213, 79, 11, 193), (11196, 0, 162, 3, 11, 1221, 81, 11, 196), (11206, 0, 163, 3, 11, 1225, 82, 11, 206), (11209, 0, 135, 0, 11, 1241, 83, 11, 209), (11213, 0, 168, 1, 11, 1249, 84, 11, 213)]
def zmlL_8 : List (Nat × Nat × Nat × Nat × Nat × Nat × Nat × Nat × Nat) := [(11216, 0, 126, 2, 11, 1253, 85, 11, 216), (11225, 0, 172, 3, 11, 1273, 87, 11, 225), (11228, 0, 173, 3, 11, 1269, 86, 11, 228), (11231, 0, 175, 1, 11, 1281, 88, 11, 231)]
def zmlL : List (Nat × Nat × Nat × Nat × Nat × Nat × Nat × Nat × Nat) := zmlL_0 ++ (zmlL_1 ++ (zmlL_2 ++ (zmlL_3 ++ (zmlL_4 ++ (zmlL_5 ++ (zmlL_6 ++ (zmlL_7 ++ (zmlL_8))))))))
def zml (own idx : Nat) : Option (Nat × Nat × Nat × Nat) := if 1000 ≤ idx then none else (zmlL.find? (fun e => e.1 == 1000 * own + idx)).map (fun e => (e.2.1, e.2.2.1, e.2.2.2.1, e.2.2.2.2.1))
def zlcL : List (Nat × Int × Nat × Nat × Nat) := [(1136, 1125899906842624, 678, 1, 136), (1138, 2357947691, 679, 1, 138), (1140, 2593742460100, 680, 1, 140), (1142, 10, 681, 1, 142), (1144, 11, 682, 1, 144), (2048, 1152921504606846976, 695, 2, 48)]
def zlc (own idx : Nat) : Option Int := if 1000 ≤ idx then none else (zlcL.find? (fun e => e.1 == 1000 * own + idx)).map (fun e => e.2.1)
/-- a method's row: its code, its class's being initialized, its being static or not are words of the tables -/
def zmOk (q : zMt) (p : Nat × Nat × Nat × Nat × Nat) : Bool :=
  decide (lw_tbl[p.2.1]? = some (Cond.initialized q.2.1.cls)) &&
  (if p.2.2.2.1 = 1 then decide (lw_tbl[p.2.2.1]? = some (Cond.static q.2.1)) else decide (lw_tbl[p.2.2.1]? = some (Cond.instanceMethod q.2.1))) &&
  decide (zcn q.1 = q.2.1.cls) && plainName q.2.1.cls && decide (q.2.1.cls ≠ "java/lang/invoke/MethodHandle" ∧ q.2.1.cls ≠ "java/lang/invoke/VarHandle") &&
  decide ((parseMethodDescriptor q.2.1.desc).map (fun d => d.parameters.length) = some p.2.2.2.2) && decide (q.2.2.2.1 ≤ 12)
set_option maxRecDepth 100000 in
theorem zm_all : (zmt.zip zmp).all (fun x => zmOk x.1 x.2) = true := by decide +kernel
theorem zm_len : zmt.length = zmp.length := by decide +kernel
def zfOk (e : Nat × Nat × Nat × Nat × Nat × Nat) : Bool := match vwCl[e.2.1]? with
  | some q => decide (lw_tbl[e.2.2.2.1]? = some (Cond.fieldLink (zcn e.2.2.2.2.1) e.2.2.2.2.2 (q.2.1 e.2.2.1).1 (q.2.1 e.2.2.1).2.1 (q.2.1 e.2.2.1).2.2.1)) && decide (e.2.2.1 < q.2.2) && decide (e.1 = 1000 * e.2.2.2.2.1 + e.2.2.2.2.2) && decide (e.2.2.2.2.2 < 1000)
  | none => false
set_option maxRecDepth 100000 in
theorem zf_all : zflL.all zfOk = true := by decide +kernel
def zlOk (e : Nat × Nat × Nat × Nat × Nat × Nat × Nat × Nat × Nat) : Bool :=
  decide (e.1 = 1000 * e.2.2.2.2.2.2.2.1 + e.2.2.2.2.2.2.2.2) && decide (e.2.2.2.2.2.2.2.2 < 1000) &&
  (if e.2.1 = 3 then decide (lw_tbl[e.2.2.2.2.2.1]? = some (Cond.methodLink (zcn e.2.2.2.2.2.2.2.1) e.2.2.2.2.2.2.2.2 arraycopyName))
   else if e.2.1 = 4 then decide (lw_tbl[e.2.2.2.2.2.1]? = some (Cond.methodLink (zcn e.2.2.2.2.2.2.2.1) e.2.2.2.2.2.2.2.2 ⟨"java/lang/Math", "min", "(II)I"⟩))
   else match zmt[e.2.2.1]?, zmp[e.2.2.1]? with
    | some q, some p => decide (p.2.2.2.2 = e.2.2.2.1) && (
        if e.2.1 = 0 then decide (p.2.2.2.1 = 0) && decide (lw_tbl[e.2.2.2.2.2.1]? = some (Cond.methodLink (zcn e.2.2.2.2.2.2.2.1) e.2.2.2.2.2.2.2.2 q.2.1)) && decide (lw_tbl[e.2.2.2.2.2.2.1]? = some (Cond.selects q.2.1.cls q.2.1 q.2.1)) && (match vwCl[e.2.2.2.2.1]? with | some r => decide (r.1 = q.2.1.cls) | none => false)
        else if e.2.1 = 1 then decide (p.2.2.2.1 = 1) && decide (lw_tbl[e.2.2.2.2.2.1]? = some (Cond.methodLink (zcn e.2.2.2.2.2.2.2.1) e.2.2.2.2.2.2.2.2 q.2.1))
        else if e.2.1 = 2 then decide (p.2.2.2.1 = 1) && decide (lw_tbl[e.2.2.2.2.2.1]? = some (Cond.methodLinkNest (zcn e.2.2.2.2.2.2.2.1) e.2.2.2.2.2.2.2.2 q.2.1 "SwarmPlanner"))
        else false)
    | _, _ => false)
set_option maxRecDepth 100000 in
theorem zl_all : zmlL.all zlOk = true := by decide +kernel
def zcOk (e : Nat × Int × Nat × Nat × Nat) : Bool := decide (lw_tbl[e.2.2.1]? = some (Cond.constantLong (zcn e.2.2.2.1) e.2.2.2.2 (Int64.ofInt e.2.1))) && decide (e.1 = 1000 * e.2.2.2.1 + e.2.2.2.2) && decide (e.2.2.2.2 < 1000)
set_option maxRecDepth 100000 in
theorem zc_all : zlcL.all zcOk = true := by decide +kernel
theorem zac_nat : Cond.native arraycopyName ∈ lw_tbl := List.mem_of_getElem? (i := 481) (by decide +kernel)
theorem zac_stat : Cond.static arraycopyName ∈ lw_tbl := List.mem_of_getElem? (i := 480) (by decide +kernel)
theorem zac_ini : Cond.initialized "java/lang/System" ∈ lw_tbl := List.mem_of_getElem? (i := 103) (by decide +kernel)
set_option maxRecDepth 100000 in
theorem zw_0 : Cond.code yX0_read cX0_read 3 (some .int) ∈ lw_tbl := List.mem_of_getElem? (i := 756) rfl
set_option maxRecDepth 100000 in
theorem zw_1 : Cond.code yX0_readCommand cX0_readCommand 5 (some .boolean) ∈ lw_tbl := List.mem_of_getElem? (i := 760) rfl
set_option maxRecDepth 100000 in
theorem zw_2 : Cond.code yX0_readSign cX0_readSign 3 (some .boolean) ∈ lw_tbl := List.mem_of_getElem? (i := 772) rfl
set_option maxRecDepth 100000 in
theorem zw_3 : Cond.code yX0_readNumber cX0_readNumber 3 (some .int) ∈ lw_tbl := List.mem_of_getElem? (i := 765) rfl
set_option maxRecDepth 100000 in
theorem zw_4 : Cond.code yX0_isDigit cX0_isDigit 1 (some .boolean) ∈ lw_tbl := List.mem_of_getElem? (i := 768) rfl
set_option maxRecDepth 100000 in
theorem zw_5 : Cond.code yX1_renew cX1_renew 2 none ∈ lw_tbl := List.mem_of_getElem? (i := 644) rfl
set_option maxRecDepth 100000 in
theorem zw_6 : Cond.code yX1_isFormed cX1_isFormed 2 (some .boolean) ∈ lw_tbl := List.mem_of_getElem? (i := 826) rfl
set_option maxRecDepth 100000 in
theorem zw_7 : Cond.code yX1_listFollowers cX1_listFollowers 3 none ∈ lw_tbl := List.mem_of_getElem? (i := 649) rfl
set_option maxRecDepth 100000 in
theorem zw_8 : Cond.code yX1_listOpenSlots cX1_listOpenSlots 4 none ∈ lw_tbl := List.mem_of_getElem? (i := 655) rfl
set_option maxRecDepth 100000 in
theorem zw_9 : Cond.code yX1_placeFrom cX1_placeFrom 5 (some .int) ∈ lw_tbl := List.mem_of_getElem? (i := 663) rfl
set_option maxRecDepth 100000 in
theorem zw_10 : Cond.code yX1_priceChoices cX1_priceChoices 8 none ∈ lw_tbl := List.mem_of_getElem? (i := 676) rfl
set_option maxRecDepth 100000 in
theorem zw_11 : Cond.code yX1_give cX1_give 3 none ∈ lw_tbl := List.mem_of_getElem? (i := 703) rfl
set_option maxRecDepth 100000 in
theorem zw_12 : Cond.code yX1_sumBySlots cX1_sumBySlots 3 (some .int) ∈ lw_tbl := List.mem_of_getElem? (i := 909) rfl
set_option maxRecDepth 100000 in
theorem zw_13 : Cond.code yX1_takeSlotIn cX1_takeSlotIn 6 none ∈ lw_tbl := List.mem_of_getElem? (i := 913) rfl
set_option maxRecDepth 100000 in
theorem zw_14 : Cond.code yX2_solve cX2_solve 4 none ∈ lw_tbl := List.mem_of_getElem? (i := 686) rfl
set_option maxRecDepth 100000 in
theorem zw_15 : Cond.code yX2_seat cX2_seat 5 none ∈ lw_tbl := List.mem_of_getElem? (i := 694) rfl
set_option maxRecDepth 100000 in
theorem zw_16 : Cond.code yX2_reachNext cX2_reachNext 10 (some .int) ∈ lw_tbl := List.mem_of_getElem? (i := 699) rfl
set_option maxRecDepth 100000 in
theorem zw_17 : Cond.code yX3_keep cX3_keep 2 none ∈ lw_tbl := List.mem_of_getElem? (i := 474) rfl
set_option maxRecDepth 100000 in
theorem zw_18 : Cond.code yX3_takeLatest cX3_takeLatest 1 (some (.object "SwarmPlanner$World")) ∈ lw_tbl := List.mem_of_getElem? (i := 926) rfl
set_option maxRecDepth 100000 in
theorem zw_19 : Cond.code yX3_forget cX3_forget 1 none ∈ lw_tbl := List.mem_of_getElem? (i := 938) rfl
set_option maxRecDepth 100000 in
theorem zw_20 : Cond.code yX4_copyFrom cX4_copyFrom 2 none ∈ lw_tbl := List.mem_of_getElem? (i := 485) rfl
set_option maxRecDepth 100000 in
theorem zw_21 : Cond.code yX4_empty cX4_empty 1 none ∈ lw_tbl := List.mem_of_getElem? (i := 567) rfl
set_option maxRecDepth 100000 in
theorem zw_22 : Cond.code yX4_takeSlot cX4_takeSlot 3 (some .boolean) ∈ lw_tbl := List.mem_of_getElem? (i := 587) rfl
set_option maxRecDepth 100000 in
theorem zw_23 : Cond.code yX4_takeAnchor cX4_takeAnchor 4 (some .boolean) ∈ lw_tbl := List.mem_of_getElem? (i := 591) rfl
set_option maxRecDepth 100000 in
theorem zw_24 : Cond.code yX4_columnsFromAnchor cX4_columnsFromAnchor 2 (some .int) ∈ lw_tbl := List.mem_of_getElem? (i := 667) rfl
set_option maxRecDepth 100000 in
theorem zw_25 : Cond.code yX4_rowsFromAnchor cX4_rowsFromAnchor 2 (some .int) ∈ lw_tbl := List.mem_of_getElem? (i := 671) rfl
set_option maxRecDepth 100000 in
theorem zw_26 : Cond.code yX4_lowestWay cX4_lowestWay 3 (some .int) ∈ lw_tbl := List.mem_of_getElem? (i := 862) rfl
set_option maxRecDepth 100000 in
theorem zw_27 : Cond.code yX4_isMade cX4_isMade 4 (some .boolean) ∈ lw_tbl := List.mem_of_getElem? (i := 867) rfl
set_option maxRecDepth 100000 in
theorem zw_28 : Cond.code yX4_isMadeFrom cX4_isMadeFrom 8 (some .boolean) ∈ lw_tbl := List.mem_of_getElem? (i := 872) rfl
set_option maxRecDepth 100000 in
theorem zw_29 : Cond.code yX4_mirroredColumn cX4_mirroredColumn 3 (some .int) ∈ lw_tbl := List.mem_of_getElem? (i := 880) rfl
set_option maxRecDepth 100000 in
theorem zw_30 : Cond.code yX4_turnedColumn cX4_turnedColumn 3 (some .int) ∈ lw_tbl := List.mem_of_getElem? (i := 876) rfl
set_option maxRecDepth 100000 in
theorem zw_31 : Cond.code yX4_turnedRow cX4_turnedRow 3 (some .int) ∈ lw_tbl := List.mem_of_getElem? (i := 884) rfl
set_option maxRecDepth 100000 in
theorem zw_32 : Cond.code yX5_read cX5_read 3 (some .int) ∈ lw_tbl := List.mem_of_getElem? (i := 563) rfl
set_option maxRecDepth 100000 in
theorem zw_33 : Cond.code yX5_takes cX5_takes 2 (some .boolean) ∈ lw_tbl := List.mem_of_getElem? (i := 575) rfl
set_option maxRecDepth 100000 in
theorem zw_34 : Cond.code yX5_takesRowEnd cX5_takesRowEnd 1 (some .boolean) ∈ lw_tbl := List.mem_of_getElem? (i := 579) rfl
set_option maxRecDepth 100000 in
theorem zw_35 : Cond.code yX5_takesSlot cX5_takesSlot 2 (some .boolean) ∈ lw_tbl := List.mem_of_getElem? (i := 583) rfl
set_option maxRecDepth 100000 in
theorem zw_36 : Cond.code yX6_append cX6_append 2 none ∈ lw_tbl := List.mem_of_getElem? (i := 552) rfl
set_option maxRecDepth 100000 in
theorem zw_37 : Cond.code yX6_empty cX6_empty 1 none ∈ lw_tbl := List.mem_of_getElem? (i := 596) rfl
set_option maxRecDepth 100000 in
theorem zw_38 : Cond.code yX6_at cX6_at 2 (some .int) ∈ lw_tbl := List.mem_of_getElem? (i := 571) rfl
set_option maxRecDepth 100000 in
theorem zw_39 : Cond.code yX7_makeRound cX7_makeRound 3 none ∈ lw_tbl := List.mem_of_getElem? (i := 610) rfl
set_option maxRecDepth 100000 in
theorem zw_40 : Cond.code yX7_countRound cX7_countRound 2 none ∈ lw_tbl := List.mem_of_getElem? (i := 744) rfl
set_option maxRecDepth 100000 in
theorem zw_41 : Cond.code yX7_moveLeader cX7_moveLeader 5 none ∈ lw_tbl := List.mem_of_getElem? (i := 615) rfl
set_option maxRecDepth 100000 in
theorem zw_42 : Cond.code yX7_firstNearer cX7_firstNearer 5 (some .int) ∈ lw_tbl := List.mem_of_getElem? (i := 627) rfl
set_option maxRecDepth 100000 in
theorem zw_43 : Cond.code yX7_lineUp cX7_lineUp 3 none ∈ lw_tbl := List.mem_of_getElem? (i := 707) rfl
set_option maxRecDepth 100000 in
theorem zw_44 : Cond.code yX7_lineUpMember cX7_lineUpMember 3 none ∈ lw_tbl := List.mem_of_getElem? (i := 712) rfl
set_option maxRecDepth 100000 in
theorem zw_45 : Cond.code yX7_insert cX7_insert 4 none ∈ lw_tbl := List.mem_of_getElem? (i := 716) rfl
set_option maxRecDepth 100000 in
theorem zw_46 : Cond.code yX7_act cX7_act 7 none ∈ lw_tbl := List.mem_of_getElem? (i := 720) rfl
set_option maxRecDepth 100000 in
theorem zw_47 : Cond.code yX7_firstFreeNearer cX7_firstFreeNearer 5 (some .int) ∈ lw_tbl := List.mem_of_getElem? (i := 724) rfl
set_option maxRecDepth 100000 in
theorem zw_48 : Cond.code yX7_firstPartner cX7_firstPartner 8 (some .int) ∈ lw_tbl := List.mem_of_getElem? (i := 728) rfl
set_option maxRecDepth 100000 in
theorem zw_49 : Cond.code yX7_stayOrStepAside cX7_stayOrStepAside 4 none ∈ lw_tbl := List.mem_of_getElem? (i := 736) rfl
set_option maxRecDepth 100000 in
theorem zw_50 : Cond.code yX7_firstFree cX7_firstFree 4 (some .int) ∈ lw_tbl := List.mem_of_getElem? (i := 740) rfl
set_option maxRecDepth 100000 in
theorem zw_51 : Cond.code yX8_forget cX8_forget 2 none ∈ lw_tbl := List.mem_of_getElem? (i := 541) rfl
set_option maxRecDepth 100000 in
theorem zw_52 : Cond.code yX8_from cX8_from 8 (some (.array .int)) ∈ lw_tbl := List.mem_of_getElem? (i := 619) rfl
set_option maxRecDepth 100000 in
theorem zw_53 : Cond.code yX9_copyFrom cX9_copyFrom 3 none ∈ lw_tbl := List.mem_of_getElem? (i := 478) rfl
set_option maxRecDepth 100000 in
theorem zw_54 : Cond.code yX9_living cX9_living 1 (some .int) ∈ lw_tbl := List.mem_of_getElem? (i := 509) rfl
set_option maxRecDepth 100000 in
theorem zw_55 : Cond.code yX9_hasMember cX9_hasMember 2 (some .boolean) ∈ lw_tbl := List.mem_of_getElem? (i := 501) rfl
set_option maxRecDepth 100000 in
theorem zw_56 : Cond.code yX9_leader cX9_leader 2 (some .int) ∈ lw_tbl := List.mem_of_getElem? (i := 517) rfl
set_option maxRecDepth 100000 in
theorem zw_57 : Cond.code yX9_presentShape cX9_presentShape 1 (some (.object "SwarmPlanner$Shape")) ∈ lw_tbl := List.mem_of_getElem? (i := 659) rfl
set_option maxRecDepth 100000 in
theorem zw_58 : Cond.code yX9_shapeSet cX9_shapeSet 3 (some .int) ∈ lw_tbl := List.mem_of_getElem? (i := 946) rfl
set_option maxRecDepth 100000 in
theorem zw_59 : Cond.code yX9_join cX9_join 3 (some .int) ∈ lw_tbl := List.mem_of_getElem? (i := 493) rfl
set_option maxRecDepth 100000 in
theorem zw_60 : Cond.code yX9_part cX9_part 2 none ∈ lw_tbl := List.mem_of_getElem? (i := 505) rfl
set_option maxRecDepth 100000 in
theorem zw_61 : Cond.code yX9_turnWall cX9_turnWall 3 none ∈ lw_tbl := List.mem_of_getElem? (i := 537) rfl
set_option maxRecDepth 100000 in
theorem zw_62 : Cond.code yX9_step cX9_step 4 none ∈ lw_tbl := List.mem_of_getElem? (i := 632) rfl
set_option maxRecDepth 100000 in
theorem zw_63 : Cond.code yX9_exchange cX9_exchange 4 none ∈ lw_tbl := List.mem_of_getElem? (i := 732) rfl
set_option maxRecDepth 100000 in
theorem zw_64 : Cond.code yX9_put cX9_put 4 none ∈ lw_tbl := List.mem_of_getElem? (i := 636) rfl
set_option maxRecDepth 100000 in
theorem zw_65 : Cond.code yX9_stay cX9_stay 3 none ∈ lw_tbl := List.mem_of_getElem? (i := 640) rfl
set_option maxRecDepth 100000 in
theorem zw_66 : Cond.code yX9_movedSince cX9_movedSince 4 (some .int) ∈ lw_tbl := List.mem_of_getElem? (i := 748) rfl
set_option maxRecDepth 100000 in
theorem zw_67 : Cond.code yX10_add cX10_add 4 (some .int) ∈ lw_tbl := List.mem_of_getElem? (i := 467) rfl
set_option maxRecDepth 100000 in
theorem zw_68 : Cond.code yX10_lose cX10_lose 2 (some .int) ∈ lw_tbl := List.mem_of_getElem? (i := 497) rfl
set_option maxRecDepth 100000 in
theorem zw_69 : Cond.code yX10_lead cX10_lead 3 (some .int) ∈ lw_tbl := List.mem_of_getElem? (i := 513) rfl
set_option maxRecDepth 100000 in
theorem zw_70 : Cond.code yX10_target cX10_target 3 (some .int) ∈ lw_tbl := List.mem_of_getElem? (i := 522) rfl
set_option maxRecDepth 100000 in
theorem zw_71 : Cond.code yX10_obstacle cX10_obstacle 2 (some .int) ∈ lw_tbl := List.mem_of_getElem? (i := 529) rfl
set_option maxRecDepth 100000 in
theorem zw_72 : Cond.code yX10_feed cX10_feed 7 (some .int) ∈ lw_tbl := List.mem_of_getElem? (i := 545) rfl
set_option maxRecDepth 100000 in
theorem zw_73 : Cond.code yX10_shape cX10_shape 3 (some .int) ∈ lw_tbl := List.mem_of_getElem? (i := 556) rfl
set_option maxRecDepth 100000 in
theorem zw_74 : Cond.code yX10_choose cX10_choose 3 (some .int) ∈ lw_tbl := List.mem_of_getElem? (i := 601) rfl
set_option maxRecDepth 100000 in
theorem zw_75 : Cond.code yX10_rounds cX10_rounds 3 (some .int) ∈ lw_tbl := List.mem_of_getElem? (i := 605) rfl
set_option maxRecDepth 100000 in
theorem zw_76 : Cond.code yX10_execute cX10_execute 4 (some .int) ∈ lw_tbl := List.mem_of_getElem? (i := 752) rfl
set_option maxRecDepth 100000 in
theorem zw_77 : Cond.code yX10_refusal cX10_refusal 2 (some .int) ∈ lw_tbl := List.mem_of_getElem? (i := 804) rfl
set_option maxRecDepth 100000 in
theorem zw_78 : Cond.code yX10_member cX10_member 3 (some .int) ∈ lw_tbl := List.mem_of_getElem? (i := 808) rfl
set_option maxRecDepth 100000 in
theorem zw_79 : Cond.code yX10_swarm cX10_swarm 2 (some .int) ∈ lw_tbl := List.mem_of_getElem? (i := 818) rfl
set_option maxRecDepth 100000 in
theorem zw_80 : Cond.code yX10_cell cX10_cell 3 (some .int) ∈ lw_tbl := List.mem_of_getElem? (i := 830) rfl
set_option maxRecDepth 100000 in
theorem zw_81 : Cond.code yX10_distance cX10_distance 3 (some .int) ∈ lw_tbl := List.mem_of_getElem? (i := 848) rfl
set_option maxRecDepth 100000 in
theorem zw_82 : Cond.code yX10_slot cX10_slot 4 (some .int) ∈ lw_tbl := List.mem_of_getElem? (i := 852) rfl
set_option maxRecDepth 100000 in
theorem zw_83 : Cond.code yX10_recognized cX10_recognized 2 (some .int) ∈ lw_tbl := List.mem_of_getElem? (i := 858) rfl
set_option maxRecDepth 100000 in
theorem zw_84 : Cond.code yX10_healed cX10_healed 2 (some .int) ∈ lw_tbl := List.mem_of_getElem? (i := 889) rfl
set_option maxRecDepth 100000 in
theorem zw_85 : Cond.code yX10_healedWithout cX10_healedWithout 3 (some .int) ∈ lw_tbl := List.mem_of_getElem? (i := 901) rfl
set_option maxRecDepth 100000 in
theorem zw_86 : Cond.code yX10_again cX10_again 1 (some .int) ∈ lw_tbl := List.mem_of_getElem? (i := 905) rfl
set_option maxRecDepth 100000 in
theorem zw_87 : Cond.code yX10_account cX10_account 2 (some .int) ∈ lw_tbl := List.mem_of_getElem? (i := 918) rfl
set_option maxRecDepth 100000 in
theorem zw_88 : Cond.code yX10_back cX10_back 1 (some .int) ∈ lw_tbl := List.mem_of_getElem? (i := 922) rfl
set_option maxRecDepth 100000 in
theorem zw_89 : Cond.code yX10_image cX10_image 1 (some .int) ∈ lw_tbl := List.mem_of_getElem? (i := 930) rfl
set_option maxRecDepth 100000 in
theorem zw_90 : Cond.code yX10_undo cX10_undo 1 (some .int) ∈ lw_tbl := List.mem_of_getElem? (i := 934) rfl
set_option maxRecDepth 100000 in
theorem zw_91 : Cond.code yX10_count cX10_count 2 (some .int) ∈ lw_tbl := List.mem_of_getElem? (i := 942) rfl
set_option maxRecDepth 100000 in
theorem zw_92 : Cond.code yX10_isCell cX10_isCell 1 (some .boolean) ∈ lw_tbl := List.mem_of_getElem? (i := 525) rfl
set_option maxRecDepth 100000 in
theorem zw_93 : Cond.code yX10_isShape cX10_isShape 1 (some .boolean) ∈ lw_tbl := List.mem_of_getElem? (i := 559) rfl
set_option maxRecDepth 100000 in
theorem zw_94 : Cond.code yX10_isByte cX10_isByte 1 (some .boolean) ∈ lw_tbl := List.mem_of_getElem? (i := 548) rfl
set_option maxRecDepth 100000 in
theorem zw_95 : Cond.code yX10_cellAt cX10_cellAt 3 (some .int) ∈ lw_tbl := List.mem_of_getElem? (i := 470) rfl
set_option maxRecDepth 100000 in
theorem zw_96 : Cond.code yX10_neighbor cX10_neighbor 2 (some .int) ∈ lw_tbl := List.mem_of_getElem? (i := 623) rfl
set_option maxRecDepth 100000 in
theorem zw_97 : Cond.code yX10_restore cX10_restore 2 none ∈ lw_tbl := List.mem_of_getElem? (i := 800) rfl
set_option maxRecDepth 100000 in
theorem zw_98 : Cond.code yX10_turnWall cX10_turnWall 2 none ∈ lw_tbl := List.mem_of_getElem? (i := 533) rfl
set_option maxRecDepth 100000 in
theorem zw_99 : Cond.code yX10_obey cX10_obey 5 (some .int) ∈ lw_tbl := List.mem_of_getElem? (i := 776) rfl
set_option maxRecDepth 100000 in
theorem zw_100 : Cond.code yX10_obeyAdding cX10_obeyAdding 2 (some .int) ∈ lw_tbl := List.mem_of_getElem? (i := 780) rfl
set_option maxRecDepth 100000 in
theorem zw_101 : Cond.code yX10_obeyWall cX10_obeyWall 2 (some .int) ∈ lw_tbl := List.mem_of_getElem? (i := 784) rfl
set_option maxRecDepth 100000 in
theorem zw_102 : Cond.code yX10_obeyTarget cX10_obeyTarget 2 (some .int) ∈ lw_tbl := List.mem_of_getElem? (i := 788) rfl
set_option maxRecDepth 100000 in
theorem zw_103 : Cond.code yX10_obeyLeading cX10_obeyLeading 2 (some .int) ∈ lw_tbl := List.mem_of_getElem? (i := 792) rfl
set_option maxRecDepth 100000 in
theorem zw_104 : Cond.code yX10_obeyLosing cX10_obeyLosing 2 (some .int) ∈ lw_tbl := List.mem_of_getElem? (i := 796) rfl
set_option maxRecDepth 100000 in
theorem zw_105 : Cond.code yX10_numberGiven cX10_numberGiven 4 (some .int) ∈ lw_tbl := List.mem_of_getElem? (i := 812) rfl
set_option maxRecDepth 100000 in
theorem zw_106 : Cond.code yX10_numberOfGiving cX10_numberOfGiving 2 (some .int) ∈ lw_tbl := List.mem_of_getElem? (i := 822) rfl
set_option maxRecDepth 100000 in
theorem zw_107 : Cond.code yX10_slotWithPlace cX10_slotWithPlace 4 (some .int) ∈ lw_tbl := List.mem_of_getElem? (i := 834) rfl
set_option maxRecDepth 100000 in
theorem zw_108 : Cond.code yX10_distanceFromLeader cX10_distanceFromLeader 3 (some .int) ∈ lw_tbl := List.mem_of_getElem? (i := 839) rfl
set_option maxRecDepth 100000 in
theorem zw_109 : Cond.code yX10_neighborsWithoutWall cX10_neighborsWithoutWall 5 (some .int) ∈ lw_tbl := List.mem_of_getElem? (i := 843) rfl
set_option maxRecDepth 100000 in
theorem zw_110 : Cond.code yX10_triedWithout cX10_triedWithout 4 (some .int) ∈ lw_tbl := List.mem_of_getElem? (i := 893) rfl
set_option maxRecDepth 100000 in
theorem zw_111 : Cond.code yX10_roundsToForm cX10_roundsToForm 3 (some .int) ∈ lw_tbl := List.mem_of_getElem? (i := 897) rfl
set_option maxRecDepth 100000 in
theorem zw_112 : Cond.code yX11_in cX11_in 3 (some .boolean) ∈ lw_tbl := List.mem_of_getElem? (i := 1035) rfl
set_option maxRecDepth 100000 in
theorem zw_113 : Cond.code yX11_copies cX11_copies 4 none ∈ lw_tbl := List.mem_of_getElem? (i := 1055) rfl
set_option maxRecDepth 100000 in
theorem zw_114 : Cond.code yX11_keeps cX11_keeps 2 none ∈ lw_tbl := List.mem_of_getElem? (i := 1051) rfl
set_option maxRecDepth 100000 in
theorem zw_115 : Cond.code yX11_of cX11_of 3 (some .int) ∈ lw_tbl := List.mem_of_getElem? (i := 1047) rfl
set_option maxRecDepth 100000 in
theorem zw_116 : Cond.code yX11_lays cX11_lays 4 none ∈ lw_tbl := List.mem_of_getElem? (i := 1075) rfl
set_option maxRecDepth 100000 in
theorem zw_117 : Cond.code yX11_isMember cX11_isMember 2 (some .boolean) ∈ lw_tbl := List.mem_of_getElem? (i := 1043) rfl
set_option maxRecDepth 100000 in
theorem zw_118 : Cond.code yX11_isCell cX11_isCell 1 (some .boolean) ∈ lw_tbl := List.mem_of_getElem? (i := 1184) rfl
set_option maxRecDepth 100000 in
theorem zw_119 : Cond.code yX11_isBlocked cX11_isBlocked 2 (some .boolean) ∈ lw_tbl := List.mem_of_getElem? (i := 1083) rfl
set_option maxRecDepth 100000 in
theorem zw_120 : Cond.code yX11_members cX11_members 3 (some .int) ∈ lw_tbl := List.mem_of_getElem? (i := 1169) rfl
set_option maxRecDepth 100000 in
theorem zw_121 : Cond.code yX11_on cX11_on 3 (some .int) ∈ lw_tbl := List.mem_of_getElem? (i := 1090) rfl
set_option maxRecDepth 100000 in
theorem zw_122 : Cond.code yX11_leader cX11_leader 2 (some .int) ∈ lw_tbl := List.mem_of_getElem? (i := 1039) rfl
set_option maxRecDepth 100000 in
theorem zw_123 : Cond.code yX11_counts cX11_counts 3 none ∈ lw_tbl := List.mem_of_getElem? (i := 1067) rfl
set_option maxRecDepth 100000 in
theorem zw_124 : Cond.code yX11_beside cX11_beside 4 (some .int) ∈ lw_tbl := List.mem_of_getElem? (i := 1086) rfl
set_option maxRecDepth 100000 in
theorem zw_125 : Cond.code yX11_floods cX11_floods 9 none ∈ lw_tbl := List.mem_of_getElem? (i := 1079) rfl
set_option maxRecDepth 100000 in
theorem zw_126 : Cond.code yX11_distanceOf cX11_distanceOf 3 (some .int) ∈ lw_tbl := List.mem_of_getElem? (i := 1256) rfl
set_option maxRecDepth 100000 in
theorem zw_127 : Cond.code yX11_shapeAt cX11_shapeAt 1 (some .int) ∈ lw_tbl := List.mem_of_getElem? (i := 1109) rfl
set_option maxRecDepth 100000 in
theorem zw_128 : Cond.code yX11_slots cX11_slots 2 (some .int) ∈ lw_tbl := List.mem_of_getElem? (i := 1106) rfl
set_option maxRecDepth 100000 in
theorem zw_129 : Cond.code yX11_anchor cX11_anchor 2 (some .int) ∈ lw_tbl := List.mem_of_getElem? (i := 1113) rfl
set_option maxRecDepth 100000 in
theorem zw_130 : Cond.code yX11_column cX11_column 3 (some .int) ∈ lw_tbl := List.mem_of_getElem? (i := 1121) rfl
set_option maxRecDepth 100000 in
theorem zw_131 : Cond.code yX11_rowOf cX11_rowOf 3 (some .int) ∈ lw_tbl := List.mem_of_getElem? (i := 1125) rfl
set_option maxRecDepth 100000 in
theorem zw_132 : Cond.code yX11_placeOf cX11_placeOf 5 (some .int) ∈ lw_tbl := List.mem_of_getElem? (i := 1117) rfl
set_option maxRecDepth 100000 in
theorem zw_133 : Cond.code yX11_reckons cX11_reckons 6 none ∈ lw_tbl := List.mem_of_getElem? (i := 1129) rfl
set_option maxRecDepth 100000 in
theorem zw_134 : Cond.code yX11_gives cX11_gives 9 none ∈ lw_tbl := List.mem_of_getElem? (i := 1102) rfl
set_option maxRecDepth 100000 in
theorem zw_135 : Cond.code yX11_isFormed cX11_isFormed 3 (some .boolean) ∈ lw_tbl := List.mem_of_getElem? (i := 1244) rfl
set_option maxRecDepth 100000 in
theorem zw_136 : Cond.code yX11_goes cX11_goes 3 none ∈ lw_tbl := List.mem_of_getElem? (i := 1098) rfl
set_option maxRecDepth 100000 in
theorem zw_137 : Cond.code yX11_waits cX11_waits 2 none ∈ lw_tbl := List.mem_of_getElem? (i := 1094) rfl
set_option maxRecDepth 100000 in
theorem zw_138 : Cond.code yX11_leads cX11_leads 6 none ∈ lw_tbl := List.mem_of_getElem? (i := 1071) rfl
set_option maxRecDepth 100000 in
theorem zw_139 : Cond.code yX11_mayExchange cX11_mayExchange 4 (some .boolean) ∈ lw_tbl := List.mem_of_getElem? (i := 1145) rfl
set_option maxRecDepth 100000 in
theorem zw_140 : Cond.code yX11_steps cX11_steps 6 (some .boolean) ∈ lw_tbl := List.mem_of_getElem? (i := 1137) rfl
set_option maxRecDepth 100000 in
theorem zw_141 : Cond.code yX11_exchanges cX11_exchanges 8 (some .boolean) ∈ lw_tbl := List.mem_of_getElem? (i := 1141) rfl
set_option maxRecDepth 100000 in
theorem zw_142 : Cond.code yX11_stepsAside cX11_stepsAside 4 (some .boolean) ∈ lw_tbl := List.mem_of_getElem? (i := 1149) rfl
set_option maxRecDepth 100000 in
theorem zw_143 : Cond.code yX11_acts cX11_acts 4 none ∈ lw_tbl := List.mem_of_getElem? (i := 1133) rfl
set_option maxRecDepth 100000 in
theorem zw_144 : Cond.code yX11_round cX11_round 5 none ∈ lw_tbl := List.mem_of_getElem? (i := 1063) rfl
set_option maxRecDepth 100000 in
theorem zw_145 : Cond.code yX11_makes cX11_makes 4 (some .int) ∈ lw_tbl := List.mem_of_getElem? (i := 1059) rfl
set_option maxRecDepth 100000 in
theorem zw_146 : Cond.code yX11_rounds cX11_rounds 2 (some .int) ∈ lw_tbl := List.mem_of_getElem? (i := 1032) rfl
set_option maxRecDepth 100000 in
theorem zw_147 : Cond.code yX11_opens cX11_opens 4 (some .int) ∈ lw_tbl := List.mem_of_getElem? (i := 1157) rfl
set_option maxRecDepth 100000 in
theorem zw_148 : Cond.code yX11_goesLost cX11_goesLost 2 (some .int) ∈ lw_tbl := List.mem_of_getElem? (i := 1165) rfl
set_option maxRecDepth 100000 in
theorem zw_149 : Cond.code yX11_turnsBlocked cX11_turnsBlocked 2 (some .int) ∈ lw_tbl := List.mem_of_getElem? (i := 1188) rfl
set_option maxRecDepth 100000 in
theorem zw_150 : Cond.code yX11_add cX11_add 4 (some .int) ∈ lw_tbl := List.mem_of_getElem? (i := 1153) rfl
set_option maxRecDepth 100000 in
theorem zw_151 : Cond.code yX11_lose cX11_lose 2 (some .int) ∈ lw_tbl := List.mem_of_getElem? (i := 1161) rfl
set_option maxRecDepth 100000 in
theorem zw_152 : Cond.code yX11_lead cX11_lead 3 (some .int) ∈ lw_tbl := List.mem_of_getElem? (i := 1173) rfl
set_option maxRecDepth 100000 in
theorem zw_153 : Cond.code yX11_target cX11_target 3 (some .int) ∈ lw_tbl := List.mem_of_getElem? (i := 1177) rfl
set_option maxRecDepth 100000 in
theorem zw_154 : Cond.code yX11_obstacle cX11_obstacle 2 (some .int) ∈ lw_tbl := List.mem_of_getElem? (i := 1181) rfl
set_option maxRecDepth 100000 in
theorem zw_155 : Cond.code yX11_feed cX11_feed 8 (some .int) ∈ lw_tbl := List.mem_of_getElem? (i := 1192) rfl
set_option maxRecDepth 100000 in
theorem zw_156 : Cond.code yX11_here cX11_here 1 (some .int) ∈ lw_tbl := List.mem_of_getElem? (i := 1204) rfl
set_option maxRecDepth 100000 in
theorem zw_157 : Cond.code yX11_readsShape cX11_readsShape 5 none ∈ lw_tbl := List.mem_of_getElem? (i := 1200) rfl
set_option maxRecDepth 100000 in
theorem zw_158 : Cond.code yX11_shape cX11_shape 3 (some .int) ∈ lw_tbl := List.mem_of_getElem? (i := 1196) rfl
set_option maxRecDepth 100000 in
theorem zw_159 : Cond.code yX11_choose cX11_choose 3 (some .int) ∈ lw_tbl := List.mem_of_getElem? (i := 1208) rfl
set_option maxRecDepth 100000 in
theorem zw_160 : Cond.code yX11_number cX11_number 3 (some .int) ∈ lw_tbl := List.mem_of_getElem? (i := 1220) rfl
set_option maxRecDepth 100000 in
theorem zw_161 : Cond.code yX11_order cX11_order 3 none ∈ lw_tbl := List.mem_of_getElem? (i := 1216) rfl
set_option maxRecDepth 100000 in
theorem zw_162 : Cond.code yX11_refusal cX11_refusal 5 (some .int) ∈ lw_tbl := List.mem_of_getElem? (i := 1224) rfl
set_option maxRecDepth 100000 in
theorem zw_163 : Cond.code yX11_carries cX11_carries 6 none ∈ lw_tbl := List.mem_of_getElem? (i := 1228) rfl
set_option maxRecDepth 100000 in
theorem zw_164 : Cond.code yX11_execute cX11_execute 3 (some .int) ∈ lw_tbl := List.mem_of_getElem? (i := 1212) rfl
set_option maxRecDepth 100000 in
theorem zw_165 : Cond.code yX11_refusal_ cX11_refusal_ 2 (some .int) ∈ lw_tbl := List.mem_of_getElem? (i := 1232) rfl
set_option maxRecDepth 100000 in
theorem zw_166 : Cond.code yX11_member cX11_member 4 (some .int) ∈ lw_tbl := List.mem_of_getElem? (i := 1236) rfl
set_option maxRecDepth 100000 in
theorem zw_167 : Cond.code yX11_swarm cX11_swarm 5 (some .int) ∈ lw_tbl := List.mem_of_getElem? (i := 1240) rfl
set_option maxRecDepth 100000 in
theorem zw_168 : Cond.code yX11_slotAt cX11_slotAt 3 (some .int) ∈ lw_tbl := List.mem_of_getElem? (i := 1252) rfl
set_option maxRecDepth 100000 in
theorem zw_169 : Cond.code yX11_cell cX11_cell 5 (some .int) ∈ lw_tbl := List.mem_of_getElem? (i := 1248) rfl
set_option maxRecDepth 100000 in
theorem zw_170 : Cond.code yX11_distance cX11_distance 4 (some .int) ∈ lw_tbl := List.mem_of_getElem? (i := 1260) rfl
set_option maxRecDepth 100000 in
theorem zw_171 : Cond.code yX11_slot cX11_slot 4 (some .int) ∈ lw_tbl := List.mem_of_getElem? (i := 1264) rfl
set_option maxRecDepth 100000 in
theorem zw_172 : Cond.code yX11_turnsRound cX11_turnsRound 6 none ∈ lw_tbl := List.mem_of_getElem? (i := 1276) rfl
set_option maxRecDepth 100000 in
theorem zw_173 : Cond.code yX11_isLike cX11_isLike 9 (some .boolean) ∈ lw_tbl := List.mem_of_getElem? (i := 1272) rfl
set_option maxRecDepth 100000 in
theorem zw_174 : Cond.code yX11_recognized cX11_recognized 4 (some .int) ∈ lw_tbl := List.mem_of_getElem? (i := 1268) rfl
set_option maxRecDepth 100000 in
theorem zw_175 : Cond.code yX11_forms cX11_forms 3 (some .int) ∈ lw_tbl := List.mem_of_getElem? (i := 1284) rfl
set_option maxRecDepth 100000 in
theorem zw_176 : Cond.code yX11_healed cX11_healed 3 (some .int) ∈ lw_tbl := List.mem_of_getElem? (i := 1280) rfl
set_option maxRecDepth 100000 in
theorem zw_177 : Cond.code yX11_healedWithout cX11_healedWithout 4 (some .int) ∈ lw_tbl := List.mem_of_getElem? (i := 1288) rfl
set_option maxRecDepth 100000 in
theorem zw_178 : Cond.code yX11_again cX11_again 1 (some .int) ∈ lw_tbl := List.mem_of_getElem? (i := 1292) rfl
set_option maxRecDepth 100000 in
theorem zw_179 : Cond.code yX11_account cX11_account 4 (some .int) ∈ lw_tbl := List.mem_of_getElem? (i := 1296) rfl
set_option maxRecDepth 100000 in
theorem zw_180 : Cond.code yX11_back cX11_back 1 (some .int) ∈ lw_tbl := List.mem_of_getElem? (i := 1300) rfl
set_option maxRecDepth 100000 in
theorem zw_181 : Cond.code yX11_image cX11_image 1 (some .int) ∈ lw_tbl := List.mem_of_getElem? (i := 1304) rfl
set_option maxRecDepth 100000 in
theorem zw_182 : Cond.code yX11_undo cX11_undo 1 (some .int) ∈ lw_tbl := List.mem_of_getElem? (i := 1308) rfl
set_option maxRecDepth 100000 in
theorem zw_183 : Cond.code yX11_count cX11_count 4 (some .int) ∈ lw_tbl := List.mem_of_getElem? (i := 1312) rfl
set_option maxRecDepth 100000 in
theorem zw_184 : Cond.code yJ7_fill_d0a16 cJ7_fill_d0a16 5 none ∈ lw_tbl := List.mem_of_getElem? (i := 690) rfl
set_option maxRecDepth 100000 in
theorem zw_185 : Cond.code yJ7_fill_53178 cJ7_fill_53178 4 none ∈ lw_tbl := List.mem_of_getElem? (i := 123) rfl
theorem zwc_0 : ∀ q ∈ zmt_0, Cond.code q.2.1 q.2.2.1 q.2.2.2.1 q.2.2.2.2 ∈ lw_tbl := List.forall_mem_cons.mpr ⟨zw_0, List.forall_mem_cons.mpr ⟨zw_1, List.forall_mem_cons.mpr ⟨zw_2, List.forall_mem_cons.mpr ⟨zw_3, List.forall_mem_cons.mpr ⟨zw_4, List.forall_mem_cons.mpr ⟨zw_5, List.forall_mem_cons.mpr ⟨zw_6, List.forall_mem_cons.mpr ⟨zw_7, List.forall_mem_cons.mpr ⟨zw_8, List.forall_mem_cons.mpr ⟨zw_9, List.forall_mem_cons.mpr ⟨zw_10, List.forall_mem_cons.mpr ⟨zw_11, List.forall_mem_cons.mpr ⟨zw_12, List.forall_mem_cons.mpr ⟨zw_13, List.forall_mem_cons.mpr ⟨zw_14, List.forall_mem_cons.mpr ⟨zw_15, List.forall_mem_cons.mpr ⟨zw_16, List.forall_mem_cons.mpr ⟨zw_17, List.forall_mem_cons.mpr ⟨zw_18, List.forall_mem_cons.mpr ⟨zw_19, fun _ h => absurd h List.not_mem_nil⟩⟩⟩⟩⟩⟩⟩⟩⟩⟩⟩⟩⟩⟩⟩⟩⟩⟩⟩⟩
theorem zwc_1 : ∀ q ∈ zmt_1, Cond.code q.2.1 q.2.2.1 q.2.2.2.1 q.2.2.2.2 ∈ lw_tbl := List.forall_mem_cons.mpr ⟨zw_20, List.forall_mem_cons.mpr ⟨zw_21, List.forall_mem_cons.mpr ⟨zw_22, List.forall_mem_cons.mpr ⟨zw_23, List.forall_mem_cons.mpr ⟨zw_24, List.forall_mem_cons.mpr ⟨zw_25, List.forall_mem_cons.mpr ⟨zw_26, List.forall_mem_cons.mpr ⟨zw_27, List.forall_mem_cons.mpr ⟨zw_28, List.forall_mem_cons.mpr ⟨zw_29, List.forall_mem_cons.mpr ⟨zw_30, List.forall_mem_cons.mpr ⟨zw_31, List.forall_mem_cons.mpr ⟨zw_32, List.forall_mem_cons.mpr ⟨zw_33, List.forall_mem_cons.mpr ⟨zw_34, List.forall_mem_cons.mpr ⟨zw_35, List.forall_mem_cons.mpr ⟨zw_36, List.forall_mem_cons.mpr ⟨zw_37, List.forall_mem_cons.mpr ⟨zw_38, List.forall_mem_cons.mpr ⟨zw_39, fun _ h => absurd h List.not_mem_nil⟩⟩⟩⟩⟩⟩⟩⟩⟩⟩⟩⟩⟩⟩⟩⟩⟩⟩⟩⟩
theorem zwc_2 : ∀ q ∈ zmt_2, Cond.code q.2.1 q.2.2.1 q.2.2.2.1 q.2.2.2.2 ∈ lw_tbl := List.forall_mem_cons.mpr ⟨zw_40, List.forall_mem_cons.mpr ⟨zw_41, List.forall_mem_cons.mpr ⟨zw_42, List.forall_mem_cons.mpr ⟨zw_43, List.forall_mem_cons.mpr ⟨zw_44, List.forall_mem_cons.mpr ⟨zw_45, List.forall_mem_cons.mpr ⟨zw_46, List.forall_mem_cons.mpr ⟨zw_47, List.forall_mem_cons.mpr ⟨zw_48, List.forall_mem_cons.mpr ⟨zw_49, List.forall_mem_cons.mpr ⟨zw_50, List.forall_mem_cons.mpr ⟨zw_51, List.forall_mem_cons.mpr ⟨zw_52, List.forall_mem_cons.mpr ⟨zw_53, List.forall_mem_cons.mpr ⟨zw_54, List.forall_mem_cons.mpr ⟨zw_55, List.forall_mem_cons.mpr ⟨zw_56, List.forall_mem_cons.mpr ⟨zw_57, List.forall_mem_cons.mpr ⟨zw_58, List.forall_mem_cons.mpr ⟨zw_59, fun _ h => absurd h List.not_mem_nil⟩⟩⟩⟩⟩⟩⟩⟩⟩⟩⟩⟩⟩⟩⟩⟩⟩⟩⟩⟩
theorem zwc_3 : ∀ q ∈ zmt_3, Cond.code q.2.1 q.2.2.1 q.2.2.2.1 q.2.2.2.2 ∈ lw_tbl := List.forall_mem_cons.mpr ⟨zw_60, List.forall_mem_cons.mpr ⟨zw_61, List.forall_mem_cons.mpr ⟨zw_62, List.forall_mem_cons.mpr ⟨zw_63, List.forall_mem_cons.mpr ⟨zw_64, List.forall_mem_cons.mpr ⟨zw_65, List.forall_mem_cons.mpr ⟨zw_66, List.forall_mem_cons.mpr ⟨zw_67, List.forall_mem_cons.mpr ⟨zw_68, List.forall_mem_cons.mpr ⟨zw_69, List.forall_mem_cons.mpr ⟨zw_70, List.forall_mem_cons.mpr ⟨zw_71, List.forall_mem_cons.mpr ⟨zw_72, List.forall_mem_cons.mpr ⟨zw_73, List.forall_mem_cons.mpr ⟨zw_74, List.forall_mem_cons.mpr ⟨zw_75, List.forall_mem_cons.mpr ⟨zw_76, List.forall_mem_cons.mpr ⟨zw_77, List.forall_mem_cons.mpr ⟨zw_78, List.forall_mem_cons.mpr ⟨zw_79, fun _ h => absurd h List.not_mem_nil⟩⟩⟩⟩⟩⟩⟩⟩⟩⟩⟩⟩⟩⟩⟩⟩⟩⟩⟩⟩
theorem zwc_4 : ∀ q ∈ zmt_4, Cond.code q.2.1 q.2.2.1 q.2.2.2.1 q.2.2.2.2 ∈ lw_tbl := List.forall_mem_cons.mpr ⟨zw_80, List.forall_mem_cons.mpr ⟨zw_81, List.forall_mem_cons.mpr ⟨zw_82, List.forall_mem_cons.mpr ⟨zw_83, List.forall_mem_cons.mpr ⟨zw_84, List.forall_mem_cons.mpr ⟨zw_85, List.forall_mem_cons.mpr ⟨zw_86, List.forall_mem_cons.mpr ⟨zw_87, List.forall_mem_cons.mpr ⟨zw_88, List.forall_mem_cons.mpr ⟨zw_89, List.forall_mem_cons.mpr ⟨zw_90, List.forall_mem_cons.mpr ⟨zw_91, List.forall_mem_cons.mpr ⟨zw_92, List.forall_mem_cons.mpr ⟨zw_93, List.forall_mem_cons.mpr ⟨zw_94, List.forall_mem_cons.mpr ⟨zw_95, List.forall_mem_cons.mpr ⟨zw_96, List.forall_mem_cons.mpr ⟨zw_97, List.forall_mem_cons.mpr ⟨zw_98, List.forall_mem_cons.mpr ⟨zw_99, fun _ h => absurd h List.not_mem_nil⟩⟩⟩⟩⟩⟩⟩⟩⟩⟩⟩⟩⟩⟩⟩⟩⟩⟩⟩⟩
theorem zwc_5 : ∀ q ∈ zmt_5, Cond.code q.2.1 q.2.2.1 q.2.2.2.1 q.2.2.2.2 ∈ lw_tbl := List.forall_mem_cons.mpr ⟨zw_100, List.forall_mem_cons.mpr ⟨zw_101, List.forall_mem_cons.mpr ⟨zw_102, List.forall_mem_cons.mpr ⟨zw_103, List.forall_mem_cons.mpr ⟨zw_104, List.forall_mem_cons.mpr ⟨zw_105, List.forall_mem_cons.mpr ⟨zw_106, List.forall_mem_cons.mpr ⟨zw_107, List.forall_mem_cons.mpr ⟨zw_108, List.forall_mem_cons.mpr ⟨zw_109, List.forall_mem_cons.mpr ⟨zw_110, List.forall_mem_cons.mpr ⟨zw_111, List.forall_mem_cons.mpr ⟨zw_112, List.forall_mem_cons.mpr ⟨zw_113, List.forall_mem_cons.mpr ⟨zw_114, List.forall_mem_cons.mpr ⟨zw_115, List.forall_mem_cons.mpr ⟨zw_116, List.forall_mem_cons.mpr ⟨zw_117, List.forall_mem_cons.mpr ⟨zw_118, List.forall_mem_cons.mpr ⟨zw_119, fun _ h => absurd h List.not_mem_nil⟩⟩⟩⟩⟩⟩⟩⟩⟩⟩⟩⟩⟩⟩⟩⟩⟩⟩⟩⟩
theorem zwc_6 : ∀ q ∈ zmt_6, Cond.code q.2.1 q.2.2.1 q.2.2.2.1 q.2.2.2.2 ∈ lw_tbl := List.forall_mem_cons.mpr ⟨zw_120, List.forall_mem_cons.mpr ⟨zw_121, List.forall_mem_cons.mpr ⟨zw_122, List.forall_mem_cons.mpr ⟨zw_123, List.forall_mem_cons.mpr ⟨zw_124, List.forall_mem_cons.mpr ⟨zw_125, List.forall_mem_cons.mpr ⟨zw_126, List.forall_mem_cons.mpr ⟨zw_127, List.forall_mem_cons.mpr ⟨zw_128, List.forall_mem_cons.mpr ⟨zw_129, List.forall_mem_cons.mpr ⟨zw_130, List.forall_mem_cons.mpr ⟨zw_131, List.forall_mem_cons.mpr ⟨zw_132, List.forall_mem_cons.mpr ⟨zw_133, List.forall_mem_cons.mpr ⟨zw_134, List.forall_mem_cons.mpr ⟨zw_135, List.forall_mem_cons.mpr ⟨zw_136, List.forall_mem_cons.mpr ⟨zw_137, List.forall_mem_cons.mpr ⟨zw_138, List.forall_mem_cons.mpr ⟨zw_139, fun _ h => absurd h List.not_mem_nil⟩⟩⟩⟩⟩⟩⟩⟩⟩⟩⟩⟩⟩⟩⟩⟩⟩⟩⟩⟩
theorem zwc_7 : ∀ q ∈ zmt_7, Cond.code q.2.1 q.2.2.1 q.2.2.2.1 q.2.2.2.2 ∈ lw_tbl := List.forall_mem_cons.mpr ⟨zw_140, List.forall_mem_cons.mpr ⟨zw_141, List.forall_mem_cons.mpr ⟨zw_142, List.forall_mem_cons.mpr ⟨zw_143, List.forall_mem_cons.mpr ⟨zw_144, List.forall_mem_cons.mpr ⟨zw_145, List.forall_mem_cons.mpr ⟨zw_146, List.forall_mem_cons.mpr ⟨zw_147, List.forall_mem_cons.mpr ⟨zw_148, List.forall_mem_cons.mpr ⟨zw_149, List.forall_mem_cons.mpr ⟨zw_150, List.forall_mem_cons.mpr ⟨zw_151, List.forall_mem_cons.mpr ⟨zw_152, List.forall_mem_cons.mpr ⟨zw_153, List.forall_mem_cons.mpr ⟨zw_154, List.forall_mem_cons.mpr ⟨zw_155, List.forall_mem_cons.mpr ⟨zw_156, List.forall_mem_cons.mpr ⟨zw_157, List.forall_mem_cons.mpr ⟨zw_158, List.forall_mem_cons.mpr ⟨zw_159, fun _ h => absurd h List.not_mem_nil⟩⟩⟩⟩⟩⟩⟩⟩⟩⟩⟩⟩⟩⟩⟩⟩⟩⟩⟩⟩
theorem zwc_8 : ∀ q ∈ zmt_8, Cond.code q.2.1 q.2.2.1 q.2.2.2.1 q.2.2.2.2 ∈ lw_tbl := List.forall_mem_cons.mpr ⟨zw_160, List.forall_mem_cons.mpr ⟨zw_161, List.forall_mem_cons.mpr ⟨zw_162, List.forall_mem_cons.mpr ⟨zw_163, List.forall_mem_cons.mpr ⟨zw_164, List.forall_mem_cons.mpr ⟨zw_165, List.forall_mem_cons.mpr ⟨zw_166, List.forall_mem_cons.mpr ⟨zw_167, List.forall_mem_cons.mpr ⟨zw_168, List.forall_mem_cons.mpr ⟨zw_169, List.forall_mem_cons.mpr ⟨zw_170, List.forall_mem_cons.mpr ⟨zw_171, List.forall_mem_cons.mpr ⟨zw_172, List.forall_mem_cons.mpr ⟨zw_173, List.forall_mem_cons.mpr ⟨zw_174, List.forall_mem_cons.mpr ⟨zw_175, List.forall_mem_cons.mpr ⟨zw_176, List.forall_mem_cons.mpr ⟨zw_177, List.forall_mem_cons.mpr ⟨zw_178, List.forall_mem_cons.mpr ⟨zw_179, fun _ h => absurd h List.not_mem_nil⟩⟩⟩⟩⟩⟩⟩⟩⟩⟩⟩⟩⟩⟩⟩⟩⟩⟩⟩⟩
theorem zwc_9 : ∀ q ∈ zmt_9, Cond.code q.2.1 q.2.2.1 q.2.2.2.1 q.2.2.2.2 ∈ lw_tbl := List.forall_mem_cons.mpr ⟨zw_180, List.forall_mem_cons.mpr ⟨zw_181, List.forall_mem_cons.mpr ⟨zw_182, List.forall_mem_cons.mpr ⟨zw_183, List.forall_mem_cons.mpr ⟨zw_184, List.forall_mem_cons.mpr ⟨zw_185, fun _ h => absurd h List.not_mem_nil⟩⟩⟩⟩⟩⟩
theorem zwc : ∀ q ∈ zmt, Cond.code q.2.1 q.2.2.1 q.2.2.2.1 q.2.2.2.2 ∈ lw_tbl := List.forall_mem_append.mpr ⟨zwc_0, List.forall_mem_append.mpr ⟨zwc_1, List.forall_mem_append.mpr ⟨zwc_2, List.forall_mem_append.mpr ⟨zwc_3, List.forall_mem_append.mpr ⟨zwc_4, List.forall_mem_append.mpr ⟨zwc_5, List.forall_mem_append.mpr ⟨zwc_6, List.forall_mem_append.mpr ⟨zwc_7, List.forall_mem_append.mpr ⟨zwc_8, zwc_9⟩⟩⟩⟩⟩⟩⟩⟩⟩
/-- the words of the tables that a call may carry over -/
def zT : List Cond := lw_tbl.filter goodWord
theorem zT_in {w : Cond} (h : w ∈ lw_tbl) (g : goodWord w = true) : w ∈ zT := List.mem_filter.mpr ⟨h, g⟩
set_option maxRecDepth 100000 in
theorem zu_0 : (u_ws RX0 TX0 5).all (fun w => decide (w ∈ lw_tbl) && goodWord w) = true := by decide +kernel
set_option maxRecDepth 100000 in
theorem zu_1 : (u_ws RX1 TX1 13).all (fun w => decide (w ∈ lw_tbl) && goodWord w) = true := by decide +kernel
set_option maxRecDepth 100000 in
theorem zu_2 : (u_ws RX2 TX2 7).all (fun w => decide (w ∈ lw_tbl) && goodWord w) = true := by decide +kernel
set_option maxRecDepth 100000 in
theorem zu_3 : (u_ws RX3 TX3 3).all (fun w => decide (w ∈ lw_tbl) && goodWord w) = true := by decide +kernel
set_option maxRecDepth 100000 in
theorem zu_4 : (u_ws RX4 TX4 4).all (fun w => decide (w ∈ lw_tbl) && goodWord w) = true := by decide +kernel
set_option maxRecDepth 100000 in
theorem zu_5 : (u_ws RX5 TX5 3).all (fun w => decide (w ∈ lw_tbl) && goodWord w) = true := by decide +kernel
set_option maxRecDepth 100000 in
theorem zu_6 : (u_ws RX6 TX6 2).all (fun w => decide (w ∈ lw_tbl) && goodWord w) = true := by decide +kernel
set_option maxRecDepth 100000 in
theorem zu_7 : (u_ws RX7 TX7 6).all (fun w => decide (w ∈ lw_tbl) && goodWord w) = true := by decide +kernel
set_option maxRecDepth 100000 in
theorem zu_8 : (u_ws RX8 TX8 4).all (fun w => decide (w ∈ lw_tbl) && goodWord w) = true := by decide +kernel
set_option maxRecDepth 100000 in
theorem zu_9 : (u_ws RX9 TX9 12).all (fun w => decide (w ∈ lw_tbl) && goodWord w) = true := by decide +kernel
set_option maxRecDepth 100000 in
theorem zu_10 : (u_ws RX10 TX10 13).all (fun w => decide (w ∈ lw_tbl) && goodWord w) = true := by decide +kernel
set_option maxRecDepth 100000 in
theorem zu_11 : (u_ws RX11 TX11 25).all (fun w => decide (w ∈ lw_tbl) && goodWord w) = true := by decide +kernel
