/-! the static tables of the abstract machine: methods, links of fields and methods, long constants; written by program out of the names and the statement's words -/
def zcnL : List String := [RX0, RX1, RX2, RX3, RX4, RX5, RX6, RX7, RX8, RX9, RX10, RX11, RJ9, RJ7]
def zcn (i : Nat) : String := zcnL.getD i ""
abbrev zMt : Type := Nat × MethodName × ByteArray × Nat × Option FieldType
def zmt_0 : List (zMt) := [(0, yX0_read, cX0_read, 3, some .int), (0, yX0_readCommand, cX0_readCommand, 5, some .boolean), (0, yX0_readSign, cX0_readSign, 3, some .boolean), (0, yX0_readNumber, cX0_readNumber, 3, some .int), (0, yX0_isDigit, cX0_isDigit, 1, some .boolean), (1, yX1_renew, cX1_renew, 2, none), (1, yX1_isFormed, cX1_isFormed, 2, some .boolean), (1, yX1_listFollowers, cX1_listFollowers, 3, none), (1, yX1_listOpenSlots, cX1_listOpenSlots, 4, none), (1, yX1_placeFrom, cX1_placeFrom, 5, some .int), (1, yX1_priceChoices, cX1_priceChoices, 8, none), (1, yX1_give, cX1_give, 3, none), (1, yX1_sumBySlots, cX1_sumBySlots, 3, some .int), (1, yX1_takeSlotIn, cX1_takeSlotIn, 6, none), (2, yX2_solve, cX2_solve, 4, none), (2, yX2_seat, cX2_seat, 5, none), (2, yX2_reachNext, cX2_reachNext, 10, some .int), (3, yX3_keep, cX3_keep, 2, none), (3, yX3_takeLatest, cX3_takeLatest, 1, some (.object "SwarmPlanner$World")), (3, yX3_forget, cX3_forget, 1, none)]
def zmt_1 : List (zMt) := [(4, yX4_copyFrom, cX4_copyFrom, 2, none), (4, yX4_empty, cX4_empty, 1, none), (4, yX4_takeSlot, cX4_takeSlot, 3, some .boolean), (4, yX4_takeAnchor, cX4_takeAnchor, 4, some .boolean), (4, yX4_columnsFromAnchor, cX4_columnsFromAnchor, 2, some .int), (4, yX4_rowsFromAnchor, cX4_rowsFromAnchor, 2, some .int), (4, yX4_lowestWay, cX4_lowestWay, 3, some .int), (4, yX4_isMade, cX4_isMade, 4, some .boolean), (4, yX4_isMadeFrom, cX4_isMadeFrom, 8, some .boolean), (4, yX4_mirroredColumn, cX4_mirroredColumn, 3, some .int), (4, yX4_turnedColumn, cX4_turnedColumn, 3, some .int), (4, yX4_turnedRow, cX4_turnedRow, 3, some .int), (5, yX5_read, cX5_read, 3, some .int), (5, yX5_takes, cX5_takes, 2, some .boolean), (5, yX5_takesRowEnd, cX5_takesRowEnd, 1, some .boolean), (5, yX5_takesSlot, cX5_takesSlot, 2, some .boolean), (6, yX6_append, cX6_append, 2, none), (6, yX6_empty, cX6_empty, 1, none), (6, yX6_at, cX6_at, 2, some .int), (7, yX7_makeRound, cX7_makeRound, 3, none)]
def zmt_2 : List (zMt) := [(7, yX7_countRound, cX7_countRound, 2, none), (7, yX7_moveLeader, cX7_moveLeader, 5, none), (7, yX7_firstNearer, cX7_firstNearer, 5, some .int), (7, yX7_lineUp, cX7_lineUp, 3, none), (7, yX7_lineUpMember, cX7_lineUpMember, 3, none), (7, yX7_insert, cX7_insert, 4, none), (7, yX7_act, cX7_act, 7, none), (7, yX7_firstFreeNearer, cX7_firstFreeNearer, 5, some .int), (7, yX7_firstPartner, cX7_firstPartner, 8, some .int), (7, yX7_stayOrStepAside, cX7_stayOrStepAside, 4, none), (7, yX7_firstFree, cX7_firstFree, 4, some .int), (8, yX8_forget, cX8_forget, 2, none), (8, yX8_from, cX8_from, 8, some (.array .int)), (9, yX9_copyFrom, cX9_copyFrom, 3, none), (9, yX9_living, cX9_living, 1, some .int), (9, yX9_hasMember, cX9_hasMember, 2, some .boolean), (9, yX9_leader, cX9_leader, 2, some .int), (9, yX9_presentShape, cX9_presentShape, 1, some (.object "SwarmPlanner$Shape")), (9, yX9_shapeSet, cX9_shapeSet, 3, some .int), (9, yX9_join, cX9_join, 3, some .int)]
def zmt_3 : List (zMt) := [(9, yX9_part, cX9_part, 2, none), (9, yX9_turnWall, cX9_turnWall, 3, none), (9, yX9_step, cX9_step, 4, none), (9, yX9_exchange, cX9_exchange, 4, none), (9, yX9_put, cX9_put, 4, none), (9, yX9_stay, cX9_stay, 3, none), (9, yX9_movedSince, cX9_movedSince, 4, some .int), (10, yX10_add, cX10_add, 4, some .int), (10, yX10_lose, cX10_lose, 2, some .int), (10, yX10_lead, cX10_lead, 3, some .int), (10, yX10_target, cX10_target, 3, some .int), (10, yX10_obstacle, cX10_obstacle, 2, some .int), (10, yX10_feed, cX10_feed, 7, some .int), (10, yX10_shape, cX10_shape, 3, some .int), (10, yX10_choose, cX10_choose, 3, some .int), (10, yX10_rounds, cX10_rounds, 3, some .int), (10, yX10_execute, cX10_execute, 4, some .int), (10, yX10_refusal, cX10_refusal, 2, some .int), (10, yX10_member, cX10_member, 3, some .int), (10, yX10_swarm, cX10_swarm, 2, some .int)]
def zmt_4 : List (zMt) := [(10, yX10_cell, cX10_cell, 3, some .int), (10, yX10_distance, cX10_distance, 3, some .int), (10, yX10_slot, cX10_slot, 4, some .int), (10, yX10_recognized, cX10_recognized, 2, some .int), (10, yX10_healed, cX10_healed, 2, some .int), (10, yX10_healedWithout, cX10_healedWithout, 3, some .int), (10, yX10_again, cX10_again, 1, some .int), (10, yX10_account, cX10_account, 2, some .int), (10, yX10_back, cX10_back, 1, some .int), (10, yX10_image, cX10_image, 1, some .int), (10, yX10_undo, cX10_undo, 1, some .int), (10, yX10_count, cX10_count, 2, some .int), (10, yX10_isCell, cX10_isCell, 1, some .boolean), (10, yX10_isShape, cX10_isShape, 1, some .boolean), (10, yX10_isByte, cX10_isByte, 1, some .boolean), (10, yX10_cellAt, cX10_cellAt, 3, some .int), (10, yX10_neighbor, cX10_neighbor, 2, some .int), (10, yX10_restore, cX10_restore, 2, none), (10, yX10_turnWall, cX10_turnWall, 2, none), (10, yX10_obey, cX10_obey, 5, some .int)]
def zmt_5 : List (zMt) := [(10, yX10_obeyAdding, cX10_obeyAdding, 2, some .int), (10, yX10_obeyWall, cX10_obeyWall, 2, some .int), (10, yX10_obeyTarget, cX10_obeyTarget, 2, some .int), (10, yX10_obeyLeading, cX10_obeyLeading, 2, some .int), (10, yX10_obeyLosing, cX10_obeyLosing, 2, some .int), (10, yX10_numberGiven, cX10_numberGiven, 4, some .int), (10, yX10_numberOfGiving, cX10_numberOfGiving, 2, some .int), (10, yX10_slotWithPlace, cX10_slotWithPlace, 4, some .int), (10, yX10_distanceFromLeader, cX10_distanceFromLeader, 3, some .int), (10, yX10_neighborsWithoutWall, cX10_neighborsWithoutWall, 5, some .int), (10, yX10_triedWithout, cX10_triedWithout, 5, some .int), (11, yX11_in, cX11_in, 3, some .boolean), (11, yX11_copies, cX11_copies, 4, none), (11, yX11_keeps, cX11_keeps, 2, none), (11, yX11_of, cX11_of, 3, some .int), (11, yX11_lays, cX11_lays, 4, none), (11, yX11_isMember, cX11_isMember, 2, some .boolean), (11, yX11_isCell, cX11_isCell, 1, some .boolean), (11, yX11_isBlocked, cX11_isBlocked, 2, some .boolean), (11, yX11_members, cX11_members, 3, some .int)]
def zmt_6 : List (zMt) := [(11, yX11_on, cX11_on, 3, some .int), (11, yX11_leader, cX11_leader, 2, some .int), (11, yX11_counts, cX11_counts, 3, none), (11, yX11_beside, cX11_beside, 4, some .int), (11, yX11_floods, cX11_floods, 9, none), (11, yX11_distanceOf, cX11_distanceOf, 3, some .int), (11, yX11_shapeAt, cX11_shapeAt, 1, some .int), (11, yX11_slots, cX11_slots, 2, some .int), (11, yX11_anchor, cX11_anchor, 2, some .int), (11, yX11_column, cX11_column, 3, some .int), (11, yX11_rowOf, cX11_rowOf, 3, some .int), (11, yX11_placeOf, cX11_placeOf, 5, some .int), (11, yX11_reckons, cX11_reckons, 6, none), (11, yX11_gives, cX11_gives, 9, none), (11, yX11_isFormed, cX11_isFormed, 3, some .boolean), (11, yX11_goes, cX11_goes, 3, none), (11, yX11_waits, cX11_waits, 2, none), (11, yX11_leads, cX11_leads, 6, none), (11, yX11_mayExchange, cX11_mayExchange, 4, some .boolean), (11, yX11_steps, cX11_steps, 6, some .boolean)]
def zmt_7 : List (zMt) := [(11, yX11_exchanges, cX11_exchanges, 8, some .boolean), (11, yX11_stepsAside, cX11_stepsAside, 4, some .boolean), (11, yX11_acts, cX11_acts, 4, none), (11, yX11_round, cX11_round, 5, none), (11, yX11_makes, cX11_makes, 4, some .int), (11, yX11_rounds, cX11_rounds, 2, some .int), (11, yX11_opens, cX11_opens, 4, some .int), (11, yX11_goesLost, cX11_goesLost, 2, some .int), (11, yX11_turnsBlocked, cX11_turnsBlocked, 2, some .int), (11, yX11_add, cX11_add, 4, some .int), (11, yX11_lose, cX11_lose, 2, some .int), (11, yX11_lead, cX11_lead, 3, some .int), (11, yX11_target, cX11_target, 3, some .int), (11, yX11_obstacle, cX11_obstacle, 2, some .int), (11, yX11_feed, cX11_feed, 8, some .int), (11, yX11_here, cX11_here, 1, some .int), (11, yX11_readsShape, cX11_readsShape, 5, none), (11, yX11_shape, cX11_shape, 3, some .int), (11, yX11_choose, cX11_choose, 3, some .int), (11, yX11_number, cX11_number, 3, some .int)]
def zmt_8 : List (zMt) := [(11, yX11_order, cX11_order, 3, none), (11, yX11_refusal, cX11_refusal, 5, some .int), (11, yX11_carries, cX11_carries, 6, none), (11, yX11_execute, cX11_execute, 3, some .int), (11, yX11_refusal_, cX11_refusal_, 2, some .int), (11, yX11_member, cX11_member, 4, some .int), (11, yX11_swarm, cX11_swarm, 5, some .int), (11, yX11_slotAt, cX11_slotAt, 3, some .int), (11, yX11_cell, cX11_cell, 5, some .int), (11, yX11_distance, cX11_distance, 4, some .int), (11, yX11_slot, cX11_slot, 4, some .int), (11, yX11_turnsRound, cX11_turnsRound, 6, none), (11, yX11_isLike, cX11_isLike, 9, some .boolean), (11, yX11_recognized, cX11_recognized, 4, some .int), (11, yX11_forms, cX11_forms, 3, some .int), (11, yX11_healed, cX11_healed, 3, some .int), (11, yX11_healedWithout, cX11_healedWithout, 4, some .int), (11, yX11_again, cX11_again, 1, some .int), (11, yX11_account, cX11_account, 4, some .int), (11, yX11_back, cX11_back, 1, some .int)]
def zmt_9 : List (zMt) := [(11, yX11_image, cX11_image, 1, some .int), (11, yX11_undo, cX11_undo, 1, some .int), (11, yX11_count, cX11_count, 4, some .int), (13, yJ7_fill_d0a16, cJ7_fill_d0a16, 5, none), (13, yJ7_fill_53178, cJ7_fill_53178, 4, none)]
def zmt : List (zMt) := zmt_0 ++ (zmt_1 ++ (zmt_2 ++ (zmt_3 ++ (zmt_4 ++ (zmt_5 ++ (zmt_6 ++ (zmt_7 ++ (zmt_8 ++ (zmt_9)))))))))
def zmp_0 : List (Nat × Nat × Nat × Nat × Nat) := [(755, 96, 753, 0, 1), (759, 96, 758, 0, 2), (771, 96, 770, 0, 2), (764, 96, 763, 0, 1), (767, 96, 766, 1, 1), (643, 98, 641, 0, 0), (825, 98, 823, 0, 0), (648, 98, 647, 0, 0), (654, 98, 653, 0, 0), (662, 98, 661, 0, 3), (675, 98, 674, 0, 0), (702, 98, 701, 0, 2), (904, 98, 902, 0, 0), (908, 98, 907, 0, 1), (685, 99, 683, 0, 2), (693, 99, 692, 0, 2), (698, 99, 697, 0, 2), (473, 93, 471, 0, 1), (921, 93, 919, 0, 0), (933, 93, 931, 0, 0)]
def zmp_1 : List (Nat × Nat × Nat × Nat × Nat) := [(484, 92, 482, 0, 1), (566, 92, 564, 0, 0), (586, 92, 584, 0, 2), (590, 92, 588, 0, 2), (666, 92, 664, 0, 1), (670, 92, 668, 0, 1), (861, 92, 859, 0, 1), (866, 92, 865, 0, 2), (871, 92, 870, 0, 3), (879, 92, 878, 0, 2), (875, 92, 874, 0, 2), (883, 92, 882, 0, 2), (562, 95, 560, 0, 1), (574, 95, 573, 0, 1), (578, 95, 577, 0, 0), (582, 95, 581, 0, 1), (551, 94, 549, 0, 1), (595, 94, 593, 0, 0), (570, 94, 568, 0, 1), (609, 100, 607, 0, 0)]
def zmp_2 : List (Nat × Nat × Nat × Nat × Nat) := [(743, 100, 742, 0, 0), (614, 100, 613, 0, 1), (626, 100, 625, 0, 2), (706, 100, 705, 0, 1), (711, 100, 710, 0, 1), (715, 100, 714, 0, 2), (719, 100, 718, 0, 1), (723, 100, 722, 0, 2), (727, 100, 726, 0, 2), (735, 100, 734, 0, 2), (739, 100, 738, 0, 1), (540, 97, 538, 0, 0), (618, 97, 616, 0, 1), (477, 90, 475, 0, 1), (508, 90, 506, 0, 0), (500, 90, 498, 0, 1), (516, 90, 514, 0, 0), (658, 90, 656, 0, 0), (941, 90, 939, 0, 0), (492, 90, 490, 0, 1)]
def zmp_3 : List (Nat × Nat × Nat × Nat × Nat) := [(504, 90, 502, 0, 1), (536, 90, 534, 0, 1), (631, 90, 629, 0, 3), (731, 90, 729, 0, 2), (635, 90, 634, 0, 3), (639, 90, 637, 0, 2), (747, 90, 745, 0, 1), (466, 89, 464, 0, 2), (496, 89, 494, 0, 1), (512, 89, 510, 0, 1), (521, 89, 519, 0, 1), (528, 89, 526, 0, 1), (544, 89, 542, 0, 6), (555, 89, 553, 0, 1), (600, 89, 598, 0, 1), (604, 89, 602, 0, 1), (751, 89, 749, 0, 0), (803, 89, 801, 0, 1), (807, 89, 805, 0, 2), (817, 89, 815, 0, 1)]
def zmp_4 : List (Nat × Nat × Nat × Nat × Nat) := [(829, 89, 827, 0, 2), (847, 89, 845, 0, 2), (851, 89, 849, 0, 2), (857, 89, 855, 0, 1), (888, 89, 886, 0, 1), (896, 89, 894, 0, 2), (900, 89, 898, 0, 0), (913, 89, 911, 0, 1), (917, 89, 915, 0, 0), (925, 89, 923, 0, 0), (929, 89, 927, 0, 0), (937, 89, 935, 0, 1), (524, 89, 523, 1, 1), (558, 89, 557, 1, 1), (547, 89, 546, 1, 1), (469, 89, 468, 1, 2), (622, 89, 621, 1, 2), (799, 89, 798, 0, 1), (532, 89, 531, 0, 1), (775, 89, 774, 0, 3)]
def zmp_5 : List (Nat × Nat × Nat × Nat × Nat) := [(779, 89, 778, 0, 1), (783, 89, 782, 0, 1), (787, 89, 786, 0, 1), (791, 89, 790, 0, 1), (795, 89, 794, 0, 1), (811, 89, 810, 0, 2), (821, 89, 820, 0, 1), (833, 89, 832, 0, 1), (838, 89, 837, 0, 1), (842, 89, 841, 0, 1), (892, 89, 891, 0, 2), (1030, 101, 1029, 1, 3), (1050, 101, 1049, 0, 2), (1046, 101, 1045, 0, 0), (1042, 101, 1041, 0, 2), (1070, 101, 1069, 0, 3), (1038, 101, 1037, 0, 1), (1179, 101, 1178, 1, 1), (1078, 101, 1077, 0, 1), (1164, 101, 1163, 0, 0)]
def zmp_6 : List (Nat × Nat × Nat × Nat × Nat) := [(1085, 101, 1084, 0, 1), (1034, 101, 1033, 0, 0), (1062, 101, 1061, 0, 2), (1081, 101, 1080, 1, 2), (1074, 101, 1073, 0, 2), (1251, 101, 1250, 0, 2), (1104, 101, 1103, 1, 1), (1101, 101, 1100, 0, 1), (1108, 101, 1107, 0, 1), (1116, 101, 1115, 0, 2), (1120, 101, 1119, 0, 2), (1112, 101, 1111, 0, 1), (1124, 101, 1123, 0, 1), (1097, 101, 1096, 0, 0), (1239, 101, 1238, 0, 0), (1093, 101, 1092, 0, 2), (1089, 101, 1088, 0, 1), (1066, 101, 1065, 0, 0), (1140, 101, 1139, 0, 3), (1132, 101, 1131, 0, 3)]
def zmp_7 : List (Nat × Nat × Nat × Nat × Nat) := [(1136, 101, 1135, 0, 3), (1144, 101, 1143, 0, 1), (1128, 101, 1127, 0, 1), (1058, 101, 1057, 0, 0), (1054, 101, 1053, 0, 1), (1027, 101, 1025, 0, 1), (1152, 101, 1151, 0, 1), (1160, 101, 1159, 0, 1), (1183, 101, 1182, 0, 1), (1148, 101, 1146, 0, 2), (1156, 101, 1154, 0, 1), (1168, 101, 1166, 0, 1), (1172, 101, 1170, 0, 1), (1176, 101, 1174, 0, 1), (1187, 101, 1185, 0, 6), (1199, 101, 1198, 0, 0), (1195, 101, 1194, 0, 0), (1191, 101, 1189, 0, 1), (1203, 101, 1201, 0, 1), (1215, 101, 1214, 0, 0)]
def zmp_8 : List (Nat × Nat × Nat × Nat × Nat) := [(1211, 101, 1210, 0, 0), (1219, 101, 1218, 0, 3), (1223, 101, 1222, 0, 3), (1207, 101, 1205, 0, 0), (1227, 101, 1225, 0, 1), (1231, 101, 1229, 0, 2), (1235, 101, 1233, 0, 1), (1247, 101, 1246, 0, 1), (1243, 101, 1241, 0, 2), (1255, 101, 1253, 0, 2), (1259, 101, 1257, 0, 2), (1271, 101, 1270, 0, 3), (1267, 101, 1266, 0, 3), (1263, 101, 1261, 0, 1), (1279, 101, 1278, 0, 1), (1275, 101, 1273, 0, 1), (1283, 101, 1281, 0, 2), (1287, 101, 1285, 0, 0), (1291, 101, 1289, 0, 1), (1295, 101, 1293, 0, 0)]
def zmp_9 : List (Nat × Nat × Nat × Nat × Nat) := [(1299, 101, 1297, 0, 0), (1303, 101, 1301, 0, 0), (1307, 101, 1305, 0, 1), (689, 91, 688, 1, 2), (122, 91, 121, 1, 2)]
def zmp : List (Nat × Nat × Nat × Nat × Nat) := zmp_0 ++ (zmp_1 ++ (zmp_2 ++ (zmp_3 ++ (zmp_4 ++ (zmp_5 ++ (zmp_6 ++ (zmp_7 ++ (zmp_8 ++ (zmp_9)))))))))
def zflL_0 : List (Nat × Nat × Nat × Nat × Nat × Nat) := [(9, 0, 0, 270, 0, 9), (15, 0, 1, 272, 0, 15), (18, 0, 2, 274, 0, 18), (21, 0, 3, 276, 0, 21), (25, 0, 4, 278, 0, 25), (32, 6, 0, 237, 0, 32), (1009, 1, 0, 351, 1, 9), (1015, 1, 1, 353, 1, 15), (1018, 1, 2, 356, 1, 18), (1021, 1, 3, 358, 1, 21), (1025, 1, 4, 360, 1, 25), (1028, 1, 5, 362, 1, 28), (1034, 1, 8, 366, 1, 34), (1038, 1, 9, 367, 1, 38), (1041, 1, 10, 368, 1, 41), (1044, 1, 11, 369, 1, 44), (1047, 1, 12, 370, 1, 47), (1050, 1, 6, 364, 1, 50), (1054, 1, 7, 365, 1, 54), (1077, 2, 1, 329, 1, 77)]
def zflL_1 : List (Nat × Nat × Nat × Nat × Nat × Nat) := [(1089, 4, 2, 131, 1, 89), (1102, 9, 1, 156, 1, 102), (1109, 4, 3, 136, 1, 109), (1123, 9, 0, 152, 1, 123), (1132, 2, 0, 327, 1, 132), (2011, 2, 0, 326, 2, 11), (2014, 2, 1, 328, 2, 14), (2018, 2, 2, 330, 2, 18), (2022, 2, 3, 331, 2, 22), (2025, 2, 4, 332, 2, 25), (2028, 2, 5, 333, 2, 28), (2031, 2, 6, 334, 2, 31), (3009, 3, 0, 218, 3, 9), (3017, 3, 1, 220, 3, 17), (3021, 3, 2, 221, 3, 21), (4009, 4, 0, 128, 4, 9), (4015, 4, 1, 129, 4, 15), (4018, 4, 2, 130, 4, 18), (4022, 4, 3, 134, 4, 22), (4049, 9, 1, 157, 4, 49)]
def zflL_2 : List (Nat × Nat × Nat × Nat × Nat × Nat) := [(4066, 9, 0, 153, 4, 66), (5012, 5, 0, 253, 5, 12), (5018, 5, 1, 255, 5, 18), (5022, 5, 2, 256, 5, 22), (5028, 6, 0, 236, 5, 28), (5041, 4, 3, 135, 5, 41), (6009, 6, 0, 235, 6, 9), (6015, 6, 1, 239, 6, 15), (7009, 7, 3, 407, 7, 9), (7015, 7, 4, 408, 7, 15), (7018, 7, 5, 409, 7, 18), (7022, 7, 0, 404, 7, 22), (7026, 7, 1, 405, 7, 26), (7030, 7, 2, 406, 7, 30), (7058, 9, 7, 174, 7, 58), (7065, 9, 6, 170, 7, 65), (7068, 9, 1, 155, 7, 68), (7071, 9, 10, 180, 7, 71), (7074, 9, 2, 160, 7, 74), (7087, 9, 0, 151, 7, 87)]
def zflL_3 : List (Nat × Nat × Nat × Nat × Nat × Nat) := [(7105, 1, 1, 354, 7, 105), (7123, 9, 3, 163, 7, 123), (8011, 8, 1, 299, 8, 11), (8016, 8, 2, 300, 8, 16), (8020, 8, 3, 301, 8, 20), (8024, 8, 0, 298, 8, 24), (8034, 9, 0, 150, 8, 34), (9009, 9, 0, 148, 9, 9), (9015, 9, 1, 154, 9, 15), (9018, 9, 2, 159, 9, 18), (9021, 9, 3, 162, 9, 21), (9024, 9, 4, 165, 9, 24), (9027, 9, 5, 167, 9, 27), (9030, 9, 6, 169, 9, 30), (9033, 9, 7, 172, 9, 33), (9038, 9, 8, 175, 9, 38), (9042, 9, 9, 177, 9, 42), (9046, 9, 10, 179, 9, 46), (9049, 9, 11, 182, 9, 49), (9073, 4, 2, 132, 9, 73)]
def zflL_4 : List (Nat × Nat × Nat × Nat × Nat × Nat) := [(10010, 10, 0, 423, 10, 10), (10016, 10, 1, 424, 10, 16), (10019, 10, 2, 425, 10, 19), (10022, 10, 3, 426, 10, 22), (10029, 10, 4, 427, 10, 29), (10036, 10, 5, 428, 10, 36), (10043, 10, 6, 429, 10, 43), (10050, 10, 7, 430, 10, 50), (10059, 10, 8, 431, 10, 59), (10068, 10, 9, 432, 10, 68), (10077, 10, 10, 433, 10, 77), (10081, 10, 11, 434, 10, 81), (10085, 10, 12, 435, 10, 85), (10092, 9, 0, 149, 10, 92), (10096, 9, 7, 173, 10, 96), (10121, 9, 9, 178, 10, 121), (10127, 9, 10, 181, 10, 127), (10136, 6, 0, 238, 10, 136), (10152, 9, 8, 176, 10, 152), (10156, 5, 0, 254, 10, 156)]
def zflL_5 : List (Nat × Nat × Nat × Nat × Nat × Nat) := [(10166, 4, 2, 133, 10, 166), (10169, 9, 11, 183, 10, 169), (10182, 0, 3, 277, 10, 182), (10183, 0, 0, 271, 10, 183), (10186, 0, 1, 273, 10, 186), (10189, 0, 2, 275, 10, 189), (10199, 9, 1, 158, 10, 199), (10205, 9, 2, 161, 10, 205), (10208, 9, 3, 164, 10, 208), (10211, 9, 4, 166, 10, 211), (10214, 9, 5, 168, 10, 214), (10217, 9, 6, 171, 10, 217), (10236, 4, 3, 137, 10, 236), (10254, 3, 0, 219, 10, 254), (10285, 1, 1, 355, 10, 285), (10288, 1, 0, 352, 10, 288), (10291, 1, 4, 361, 10, 291), (10294, 1, 5, 363, 10, 294), (10301, 1, 3, 359, 10, 301), (10308, 1, 2, 357, 10, 308)]
def zflL_6 : List (Nat × Nat × Nat × Nat × Nat × Nat) := [(11009, 11, 0, 948, 11, 9), (11013, 11, 3, 951, 11, 13), (11016, 11, 4, 952, 11, 16), (11019, 11, 5, 953, 11, 19), (11022, 11, 6, 954, 11, 22), (11025, 11, 7, 955, 11, 25), (11028, 11, 10, 958, 11, 28), (11031, 11, 11, 959, 11, 31), (11034, 11, 12, 960, 11, 34), (11037, 11, 13, 961, 11, 37), (11040, 11, 14, 962, 11, 40), (11043, 11, 18, 966, 11, 43), (11046, 11, 19, 967, 11, 46), (11049, 11, 1, 949, 11, 49), (11095, 11, 8, 956, 11, 95), (11098, 11, 9, 957, 11, 98), (11172, 11, 15, 963, 11, 172), (11175, 11, 16, 964, 11, 175), (11178, 11, 17, 965, 11, 178), (11187, 11, 20, 968, 11, 187)]
def zflL_7 : List (Nat × Nat × Nat × Nat × Nat × Nat) := [(11200, 11, 21, 969, 11, 200), (11203, 11, 22, 970, 11, 203), (11219, 11, 23, 971, 11, 219), (11222, 11, 24, 972, 11, 222), (11234, 11, 2, 950, 11, 234)]
def zflL : List (Nat × Nat × Nat × Nat × Nat × Nat) := zflL_0 ++ (zflL_1 ++ (zflL_2 ++ (zflL_3 ++ (zflL_4 ++ (zflL_5 ++ (zflL_6 ++ (zflL_7)))))))
def zfl (own idx : Nat) : Option (Nat × Nat) := if 1000 ≤ idx then none else (zflL.find? (fun e => e.1 == 1000 * own + idx)).map (fun e => (e.2.1, e.2.2.1))
def zmlL_0 : List (Nat × Nat × Nat × Nat × Nat × Nat × Nat × Nat × Nat) := [(28, 0, 1, 2, 0, 756, 23, 0, 28), (37, 0, 2, 2, 0, 768, 25, 0, 37), (40, 0, 38, 1, 6, 760, 569, 0, 40), (43, 0, 3, 1, 0, 761, 24, 0, 43), (47, 1, 4, 1, 0, 765, 0, 0, 47), (1058, 1, 184, 2, 13, 644, 0, 1, 58), (1064, 0, 7, 0, 1, 645, 7, 1, 64), (1067, 0, 8, 0, 1, 651, 8, 1, 67), (1070, 0, 10, 0, 1, 672, 10, 1, 70), (1073, 0, 14, 2, 2, 682, 684, 1, 73), (1080, 0, 11, 2, 1, 699, 13, 1, 80), (1083, 0, 57, 0, 9, 655, 657, 1, 83), (1094, 0, 56, 0, 9, 649, 515, 1, 94), (1098, 0, 55, 1, 9, 650, 499, 1, 98), (1105, 0, 9, 3, 1, 659, 9, 1, 105), (1112, 0, 24, 1, 4, 663, 665, 1, 112), (1116, 0, 25, 1, 4, 667, 669, 1, 116), (1119, 2, 95, 2, 10, 671, 0, 1, 119), (1126, 0, 52, 1, 8, 676, 617, 1, 126), (1146, 0, 13, 1, 1, 905, 44, 1, 146)]
def zmlL_1 : List (Nat × Nat × Nat × Nat × Nat × Nat × Nat × Nat × Nat) := [(1150, 4, 0, 2, 0, 909, 0, 1, 150), (2035, 1, 184, 2, 13, 686, 0, 2, 35), (2041, 1, 183, 2, 13, 687, 0, 2, 41), (2044, 0, 15, 2, 2, 690, 11, 2, 44), (2050, 0, 16, 2, 2, 695, 12, 2, 50), (3025, 0, 53, 1, 9, 474, 476, 3, 25), (3029, 4, 0, 2, 0, 486, 0, 3, 29), (4025, 3, 0, 5, 0, 485, 0, 4, 25), (4031, 0, 22, 2, 4, 591, 585, 4, 31), (4035, 0, 54, 0, 9, 862, 507, 4, 35), (4041, 0, 27, 2, 4, 863, 38, 4, 41), (4045, 0, 55, 1, 9, 867, 499, 4, 45), (4052, 0, 28, 3, 4, 868, 39, 4, 52), (4056, 0, 30, 2, 4, 872, 40, 4, 56), (4060, 0, 31, 2, 4, 880, 42, 4, 60), (4063, 2, 95, 2, 10, 884, 0, 4, 63), (4069, 0, 29, 2, 4, 876, 41, 4, 69), (5025, 0, 21, 0, 4, 563, 565, 5, 25), (5033, 0, 38, 1, 6, 567, 569, 5, 33), (5037, 0, 33, 1, 5, 571, 1, 5, 37)]
def zmlL_2 : List (Nat × Nat × Nat × Nat × Nat × Nat × Nat × Nat × Nat) := [(5044, 0, 34, 0, 5, 575, 2, 5, 44), (5048, 0, 35, 1, 5, 579, 3, 5, 48), (5051, 0, 22, 2, 4, 583, 585, 5, 51), (5055, 0, 23, 2, 4, 587, 589, 5, 55), (7034, 0, 56, 0, 9, 610, 515, 7, 34), (7040, 0, 41, 1, 7, 611, 4, 7, 40), (7044, 0, 5, 0, 1, 640, 642, 7, 44), (7049, 0, 43, 1, 7, 703, 14, 7, 49), (7052, 0, 46, 1, 7, 716, 17, 7, 52), (7055, 0, 40, 0, 7, 740, 22, 7, 55), (7061, 0, 55, 1, 9, 707, 499, 7, 61), (7077, 0, 52, 1, 8, 615, 617, 7, 77), (7083, 0, 42, 2, 7, 623, 5, 7, 83), (7090, 0, 62, 3, 9, 628, 630, 7, 90), (7094, 0, 65, 2, 9, 636, 638, 7, 94), (7098, 2, 96, 2, 10, 627, 0, 7, 98), (7102, 0, 44, 1, 7, 708, 15, 7, 102), (7108, 0, 45, 2, 7, 712, 16, 7, 108), (7111, 0, 47, 2, 7, 720, 18, 7, 111), (7114, 0, 48, 2, 7, 724, 19, 7, 114)]
def zmlL_3 : List (Nat × Nat × Nat × Nat × Nat × Nat × Nat × Nat × Nat) := [(7117, 0, 63, 2, 9, 728, 730, 7, 117), (7120, 0, 49, 2, 7, 732, 20, 7, 120), (7126, 0, 50, 1, 7, 736, 21, 7, 126), (8028, 1, 184, 2, 13, 619, 0, 8, 28), (8039, 2, 96, 2, 10, 620, 0, 8, 39), (9052, 1, 184, 2, 13, 120, 0, 9, 52), (9059, 3, 0, 5, 0, 478, 0, 9, 59), (9065, 0, 20, 1, 4, 481, 483, 9, 65), (9069, 0, 55, 1, 9, 517, 499, 9, 69), (9076, 0, 64, 3, 9, 632, 6, 9, 76), (10088, 1, 95, 2, 10, 467, 0, 10, 88), (10099, 0, 17, 1, 3, 470, 472, 10, 99), (10102, 0, 59, 1, 9, 489, 491, 10, 102), (10106, 0, 55, 1, 9, 497, 499, 10, 106), (10110, 0, 60, 1, 9, 501, 503, 10, 110), (10114, 0, 54, 0, 9, 505, 507, 10, 114), (10118, 0, 56, 0, 9, 513, 515, 10, 118), (10124, 1, 92, 1, 10, 522, 0, 10, 124), (10130, 0, 98, 1, 10, 529, 0, 10, 130), (10133, 1, 94, 1, 10, 545, 0, 10, 133)]
def zmlL_4 : List (Nat × Nat × Nat × Nat × Nat × Nat × Nat × Nat × Nat) := [(10139, 0, 36, 1, 6, 548, 550, 10, 139), (10142, 1, 93, 1, 10, 556, 0, 10, 142), (10145, 0, 32, 1, 5, 559, 561, 10, 145), (10149, 0, 37, 0, 6, 592, 594, 10, 149), (10160, 0, 20, 1, 4, 596, 483, 10, 160), (10172, 0, 53, 1, 9, 605, 476, 10, 172), (10174, 0, 39, 0, 7, 606, 608, 10, 174), (10177, 0, 66, 1, 9, 744, 746, 10, 177), (10181, 0, 0, 1, 0, 752, 754, 10, 181), (10192, 0, 99, 3, 10, 772, 26, 10, 192), (10196, 0, 97, 1, 10, 796, 32, 10, 196), (10202, 0, 105, 2, 10, 808, 33, 10, 202), (10220, 0, 106, 1, 10, 818, 34, 10, 220), (10223, 0, 107, 1, 10, 830, 35, 10, 223), (10226, 0, 108, 1, 10, 835, 36, 10, 226), (10229, 0, 109, 1, 10, 839, 37, 10, 229), (10232, 0, 52, 1, 8, 813, 617, 10, 232), (10239, 0, 24, 1, 4, 852, 665, 10, 239), (10242, 0, 25, 1, 4, 853, 669, 10, 242), (10245, 0, 26, 1, 4, 858, 860, 10, 245)]
def zmlL_5 : List (Nat × Nat × Nat × Nat × Nat × Nat × Nat × Nat × Nat) := [(10248, 0, 110, 2, 10, 889, 43, 10, 248), (10251, 0, 12, 0, 1, 901, 903, 10, 251), (10255, 0, 18, 0, 3, 918, 920, 10, 255), (10259, 0, 19, 0, 3, 930, 932, 10, 259), (10262, 0, 58, 0, 9, 938, 940, 10, 262), (10265, 0, 51, 0, 8, 537, 539, 10, 265), (10266, 0, 61, 1, 9, 533, 535, 10, 266), (10267, 0, 100, 1, 10, 776, 27, 10, 267), (10270, 0, 101, 1, 10, 780, 28, 10, 270), (10273, 0, 102, 1, 10, 784, 29, 10, 273), (10276, 0, 103, 1, 10, 788, 30, 10, 276), (10279, 0, 104, 1, 10, 792, 31, 10, 279), (10282, 0, 5, 0, 1, 812, 642, 10, 282), (10297, 0, 6, 0, 1, 822, 824, 10, 297), (10304, 0, 57, 0, 9, 834, 657, 10, 304), (10311, 1, 96, 2, 10, 843, 0, 10, 311), (11053, 0, 112, 2, 11, 1047, 49, 11, 53), (11057, 1, 111, 3, 11, 1028, 0, 11, 57), (11061, 0, 114, 2, 11, 1039, 47, 11, 61), (11065, 0, 116, 1, 11, 1035, 46, 11, 65)]
def zmlL_6 : List (Nat × Nat × Nat × Nat × Nat × Nat × Nat × Nat × Nat) := [(11069, 0, 118, 1, 11, 1075, 56, 11, 69), (11072, 1, 123, 2, 11, 1079, 0, 11, 72), (11075, 0, 124, 2, 11, 1071, 55, 11, 75), (11078, 1, 126, 1, 11, 1102, 0, 11, 78), (11082, 0, 128, 1, 11, 1105, 62, 11, 82), (11085, 0, 121, 0, 11, 1031, 45, 11, 85), (11089, 0, 129, 2, 11, 1113, 64, 11, 89), (11092, 0, 130, 2, 11, 1117, 65, 11, 92), (11101, 0, 127, 1, 11, 1098, 61, 11, 101), (11104, 0, 131, 1, 11, 1109, 63, 11, 104), (11107, 0, 132, 1, 11, 1121, 66, 11, 107), (11111, 0, 133, 0, 11, 1094, 60, 11, 111), (11114, 0, 115, 3, 11, 1067, 54, 11, 114), (11118, 0, 122, 2, 11, 1059, 52, 11, 118), (11121, 0, 120, 1, 11, 1082, 57, 11, 121), (11124, 0, 136, 1, 11, 1086, 58, 11, 124), (11127, 0, 135, 2, 11, 1090, 59, 11, 127), (11130, 0, 138, 3, 11, 1137, 70, 11, 130), (11133, 0, 139, 3, 11, 1129, 68, 11, 133), (11136, 0, 140, 3, 11, 1133, 69, 11, 136)]
def zmlL_7 : List (Nat × Nat × Nat × Nat × Nat × Nat × Nat × Nat × Nat) := [(11139, 0, 141, 1, 11, 1141, 71, 11, 139), (11142, 0, 137, 0, 11, 1063, 53, 11, 142), (11145, 0, 142, 1, 11, 1125, 67, 11, 145), (11148, 0, 143, 0, 11, 1055, 51, 11, 148), (11151, 0, 113, 0, 11, 1043, 48, 11, 151), (11154, 0, 144, 1, 11, 1051, 50, 11, 154), (11157, 0, 119, 0, 11, 1161, 74, 11, 157), (11160, 0, 146, 1, 11, 1149, 72, 11, 160), (11163, 0, 147, 1, 11, 1157, 73, 11, 163), (11166, 1, 117, 1, 11, 1177, 0, 11, 166), (11169, 0, 148, 1, 11, 1180, 75, 11, 169), (11181, 0, 155, 0, 11, 1196, 77, 11, 181), (11184, 0, 156, 0, 11, 1192, 76, 11, 184), (11190, 0, 159, 0, 11, 1212, 79, 11, 190), (11193, 0, 160, 0, 11, 1208, 78, 11, 193), (11196, 0, 161, 3, 11, 1216, 80, 11, 196), (11206, 0, 162, 3, 11, 1220, 81, 11, 206), (11209, 0, 134, 0, 11, 1236, 82, 11, 209), (11213, 0, 167, 1, 11, 1244, 83, 11, 213), (11216, 0, 125, 2, 11, 1248, 84, 11, 216)]
def zmlL_8 : List (Nat × Nat × Nat × Nat × Nat × Nat × Nat × Nat × Nat) := [(11225, 0, 171, 3, 11, 1268, 86, 11, 225), (11228, 0, 172, 3, 11, 1264, 85, 11, 228), (11231, 0, 174, 1, 11, 1276, 87, 11, 231)]
def zmlL : List (Nat × Nat × Nat × Nat × Nat × Nat × Nat × Nat × Nat) := zmlL_0 ++ (zmlL_1 ++ (zmlL_2 ++ (zmlL_3 ++ (zmlL_4 ++ (zmlL_5 ++ (zmlL_6 ++ (zmlL_7 ++ (zmlL_8))))))))
def zml (own idx : Nat) : Option (Nat × Nat × Nat × Nat) := if 1000 ≤ idx then none else (zmlL.find? (fun e => e.1 == 1000 * own + idx)).map (fun e => (e.2.1, e.2.2.1, e.2.2.2.1, e.2.2.2.2.1))
def zlcL : List (Nat × Int × Nat × Nat × Nat) := [(1136, 1125899906842624, 677, 1, 136), (1138, 2357947691, 678, 1, 138), (1140, 2593742460100, 679, 1, 140), (1142, 10, 680, 1, 142), (1144, 11, 681, 1, 144), (2048, 1152921504606846976, 694, 2, 48)]
def zlc (own idx : Nat) : Option Int := if 1000 ≤ idx then none else (zlcL.find? (fun e => e.1 == 1000 * own + idx)).map (fun e => e.2.1)
/-- a method's row: its code, its class's being initialized, its being static or not are words of the tables -/
def zmOk (q : zMt) (p : Nat × Nat × Nat × Nat × Nat) : Bool :=
  decide (lw_tbl[p.2.1]? = some (Cond.initialized q.2.1.cls)) &&
  (if p.2.2.2.1 = 1 then decide (lw_tbl[p.2.2.1]? = some (Cond.static q.2.1)) else decide (lw_tbl[p.2.2.1]? = some (Cond.instanceMethod q.2.1))) &&
  decide (zcn q.1 = q.2.1.cls) && plainName q.2.1.cls && decide (q.2.1.cls ≠ "java/lang/invoke/MethodHandle" ∧ q.2.1.cls ≠ "java/lang/invoke/VarHandle") &&
  decide ((parseMethodDescriptor q.2.1.desc).map (fun d => d.parameters.length) = some p.2.2.2.2) && decide (q.2.2.2.1 ≤ 12)
set_option maxRecDepth 100000 in
theorem zm_all : (zmt.zip zmp).all (fun x => zmOk x.1 x.2) = true := by decide +kernel
theorem zm_len : zmt.length = zmp.length := by decide +kernel
def zfOk (e : Nat × Nat × Nat × Nat × Nat × Nat) : Bool := match vwCl[e.2.1]? with
  | some q => decide (lw_tbl[e.2.2.2.1]? = some (Cond.fieldLink (zcn e.2.2.2.2.1) e.2.2.2.2.2 (q.2.1 e.2.2.1).1 (q.2.1 e.2.2.1).2.1 (q.2.1 e.2.2.1).2.2.1)) && decide (e.2.2.1 < q.2.2) && decide (e.1 = 1000 * e.2.2.2.2.1 + e.2.2.2.2.2) && decide (e.2.2.2.2.2 < 1000)
  | none => false
set_option maxRecDepth 100000 in
theorem zf_all : zflL.all zfOk = true := by decide +kernel
def zlOk (e : Nat × Nat × Nat × Nat × Nat × Nat × Nat × Nat × Nat) : Bool :=
  decide (e.1 = 1000 * e.2.2.2.2.2.2.2.1 + e.2.2.2.2.2.2.2.2) && decide (e.2.2.2.2.2.2.2.2 < 1000) &&
  (if e.2.1 = 3 then decide (lw_tbl[e.2.2.2.2.2.1]? = some (Cond.methodLink (zcn e.2.2.2.2.2.2.2.1) e.2.2.2.2.2.2.2.2 arraycopyName))
   else if e.2.1 = 4 then decide (lw_tbl[e.2.2.2.2.2.1]? = some (Cond.methodLink (zcn e.2.2.2.2.2.2.2.1) e.2.2.2.2.2.2.2.2 ⟨"java/lang/Math", "min", "(II)I"⟩))
   else match zmt[e.2.2.1]?, zmp[e.2.2.1]? with
    | some q, some p => decide (p.2.2.2.2 = e.2.2.2.1) && (
        if e.2.1 = 0 then decide (p.2.2.2.1 = 0) && decide (lw_tbl[e.2.2.2.2.2.1]? = some (Cond.methodLink (zcn e.2.2.2.2.2.2.2.1) e.2.2.2.2.2.2.2.2 q.2.1)) && decide (lw_tbl[e.2.2.2.2.2.2.1]? = some (Cond.selects q.2.1.cls q.2.1 q.2.1)) && (match vwCl[e.2.2.2.2.1]? with | some r => decide (r.1 = q.2.1.cls) | none => false)
        else if e.2.1 = 1 then decide (p.2.2.2.1 = 1) && decide (lw_tbl[e.2.2.2.2.2.1]? = some (Cond.methodLink (zcn e.2.2.2.2.2.2.2.1) e.2.2.2.2.2.2.2.2 q.2.1))
        else if e.2.1 = 2 then decide (p.2.2.2.1 = 1) && decide (lw_tbl[e.2.2.2.2.2.1]? = some (Cond.methodLinkNest (zcn e.2.2.2.2.2.2.2.1) e.2.2.2.2.2.2.2.2 q.2.1 "SwarmPlanner"))
        else false)
    | _, _ => false)
set_option maxRecDepth 100000 in
theorem zl_all : zmlL.all zlOk = true := by decide +kernel
def zcOk (e : Nat × Int × Nat × Nat × Nat) : Bool := decide (lw_tbl[e.2.2.1]? = some (Cond.constantLong (zcn e.2.2.2.1) e.2.2.2.2 (Int64.ofInt e.2.1))) && decide (e.1 = 1000 * e.2.2.2.1 + e.2.2.2.2) && decide (e.2.2.2.2 < 1000)
set_option maxRecDepth 100000 in
theorem zc_all : zlcL.all zcOk = true := by decide +kernel
theorem zac_nat : Cond.native arraycopyName ∈ lw_tbl := List.mem_of_getElem? (i := 480) (by decide +kernel)
theorem zac_stat : Cond.static arraycopyName ∈ lw_tbl := List.mem_of_getElem? (i := 479) (by decide +kernel)
theorem zac_ini : Cond.initialized "java/lang/System" ∈ lw_tbl := List.mem_of_getElem? (i := 102) (by decide +kernel)
set_option maxRecDepth 100000 in
theorem zw_0 : Cond.code yX0_read cX0_read 3 (some .int) ∈ lw_tbl := List.mem_of_getElem? (i := 755) rfl
set_option maxRecDepth 100000 in
theorem zw_1 : Cond.code yX0_readCommand cX0_readCommand 5 (some .boolean) ∈ lw_tbl := List.mem_of_getElem? (i := 759) rfl
set_option maxRecDepth 100000 in
theorem zw_2 : Cond.code yX0_readSign cX0_readSign 3 (some .boolean) ∈ lw_tbl := List.mem_of_getElem? (i := 771) rfl
set_option maxRecDepth 100000 in
theorem zw_3 : Cond.code yX0_readNumber cX0_readNumber 3 (some .int) ∈ lw_tbl := List.mem_of_getElem? (i := 764) rfl
set_option maxRecDepth 100000 in
theorem zw_4 : Cond.code yX0_isDigit cX0_isDigit 1 (some .boolean) ∈ lw_tbl := List.mem_of_getElem? (i := 767) rfl
set_option maxRecDepth 100000 in
theorem zw_5 : Cond.code yX1_renew cX1_renew 2 none ∈ lw_tbl := List.mem_of_getElem? (i := 643) rfl
set_option maxRecDepth 100000 in
theorem zw_6 : Cond.code yX1_isFormed cX1_isFormed 2 (some .boolean) ∈ lw_tbl := List.mem_of_getElem? (i := 825) rfl
set_option maxRecDepth 100000 in
theorem zw_7 : Cond.code yX1_listFollowers cX1_listFollowers 3 none ∈ lw_tbl := List.mem_of_getElem? (i := 648) rfl
set_option maxRecDepth 100000 in
theorem zw_8 : Cond.code yX1_listOpenSlots cX1_listOpenSlots 4 none ∈ lw_tbl := List.mem_of_getElem? (i := 654) rfl
set_option maxRecDepth 100000 in
theorem zw_9 : Cond.code yX1_placeFrom cX1_placeFrom 5 (some .int) ∈ lw_tbl := List.mem_of_getElem? (i := 662) rfl
set_option maxRecDepth 100000 in
theorem zw_10 : Cond.code yX1_priceChoices cX1_priceChoices 8 none ∈ lw_tbl := List.mem_of_getElem? (i := 675) rfl
set_option maxRecDepth 100000 in
theorem zw_11 : Cond.code yX1_give cX1_give 3 none ∈ lw_tbl := List.mem_of_getElem? (i := 702) rfl
set_option maxRecDepth 100000 in
theorem zw_12 : Cond.code yX1_sumBySlots cX1_sumBySlots 3 (some .int) ∈ lw_tbl := List.mem_of_getElem? (i := 904) rfl
set_option maxRecDepth 100000 in
theorem zw_13 : Cond.code yX1_takeSlotIn cX1_takeSlotIn 6 none ∈ lw_tbl := List.mem_of_getElem? (i := 908) rfl
set_option maxRecDepth 100000 in
theorem zw_14 : Cond.code yX2_solve cX2_solve 4 none ∈ lw_tbl := List.mem_of_getElem? (i := 685) rfl
set_option maxRecDepth 100000 in
theorem zw_15 : Cond.code yX2_seat cX2_seat 5 none ∈ lw_tbl := List.mem_of_getElem? (i := 693) rfl
set_option maxRecDepth 100000 in
theorem zw_16 : Cond.code yX2_reachNext cX2_reachNext 10 (some .int) ∈ lw_tbl := List.mem_of_getElem? (i := 698) rfl
set_option maxRecDepth 100000 in
theorem zw_17 : Cond.code yX3_keep cX3_keep 2 none ∈ lw_tbl := List.mem_of_getElem? (i := 473) rfl
set_option maxRecDepth 100000 in
theorem zw_18 : Cond.code yX3_takeLatest cX3_takeLatest 1 (some (.object "SwarmPlanner$World")) ∈ lw_tbl := List.mem_of_getElem? (i := 921) rfl
set_option maxRecDepth 100000 in
theorem zw_19 : Cond.code yX3_forget cX3_forget 1 none ∈ lw_tbl := List.mem_of_getElem? (i := 933) rfl
set_option maxRecDepth 100000 in
theorem zw_20 : Cond.code yX4_copyFrom cX4_copyFrom 2 none ∈ lw_tbl := List.mem_of_getElem? (i := 484) rfl
set_option maxRecDepth 100000 in
theorem zw_21 : Cond.code yX4_empty cX4_empty 1 none ∈ lw_tbl := List.mem_of_getElem? (i := 566) rfl
set_option maxRecDepth 100000 in
theorem zw_22 : Cond.code yX4_takeSlot cX4_takeSlot 3 (some .boolean) ∈ lw_tbl := List.mem_of_getElem? (i := 586) rfl
set_option maxRecDepth 100000 in
theorem zw_23 : Cond.code yX4_takeAnchor cX4_takeAnchor 4 (some .boolean) ∈ lw_tbl := List.mem_of_getElem? (i := 590) rfl
set_option maxRecDepth 100000 in
theorem zw_24 : Cond.code yX4_columnsFromAnchor cX4_columnsFromAnchor 2 (some .int) ∈ lw_tbl := List.mem_of_getElem? (i := 666) rfl
set_option maxRecDepth 100000 in
theorem zw_25 : Cond.code yX4_rowsFromAnchor cX4_rowsFromAnchor 2 (some .int) ∈ lw_tbl := List.mem_of_getElem? (i := 670) rfl
set_option maxRecDepth 100000 in
theorem zw_26 : Cond.code yX4_lowestWay cX4_lowestWay 3 (some .int) ∈ lw_tbl := List.mem_of_getElem? (i := 861) rfl
set_option maxRecDepth 100000 in
theorem zw_27 : Cond.code yX4_isMade cX4_isMade 4 (some .boolean) ∈ lw_tbl := List.mem_of_getElem? (i := 866) rfl
set_option maxRecDepth 100000 in
theorem zw_28 : Cond.code yX4_isMadeFrom cX4_isMadeFrom 8 (some .boolean) ∈ lw_tbl := List.mem_of_getElem? (i := 871) rfl
set_option maxRecDepth 100000 in
theorem zw_29 : Cond.code yX4_mirroredColumn cX4_mirroredColumn 3 (some .int) ∈ lw_tbl := List.mem_of_getElem? (i := 879) rfl
set_option maxRecDepth 100000 in
theorem zw_30 : Cond.code yX4_turnedColumn cX4_turnedColumn 3 (some .int) ∈ lw_tbl := List.mem_of_getElem? (i := 875) rfl
set_option maxRecDepth 100000 in
theorem zw_31 : Cond.code yX4_turnedRow cX4_turnedRow 3 (some .int) ∈ lw_tbl := List.mem_of_getElem? (i := 883) rfl
set_option maxRecDepth 100000 in
theorem zw_32 : Cond.code yX5_read cX5_read 3 (some .int) ∈ lw_tbl := List.mem_of_getElem? (i := 562) rfl
set_option maxRecDepth 100000 in
theorem zw_33 : Cond.code yX5_takes cX5_takes 2 (some .boolean) ∈ lw_tbl := List.mem_of_getElem? (i := 574) rfl
set_option maxRecDepth 100000 in
theorem zw_34 : Cond.code yX5_takesRowEnd cX5_takesRowEnd 1 (some .boolean) ∈ lw_tbl := List.mem_of_getElem? (i := 578) rfl
set_option maxRecDepth 100000 in
theorem zw_35 : Cond.code yX5_takesSlot cX5_takesSlot 2 (some .boolean) ∈ lw_tbl := List.mem_of_getElem? (i := 582) rfl
set_option maxRecDepth 100000 in
theorem zw_36 : Cond.code yX6_append cX6_append 2 none ∈ lw_tbl := List.mem_of_getElem? (i := 551) rfl
set_option maxRecDepth 100000 in
theorem zw_37 : Cond.code yX6_empty cX6_empty 1 none ∈ lw_tbl := List.mem_of_getElem? (i := 595) rfl
set_option maxRecDepth 100000 in
theorem zw_38 : Cond.code yX6_at cX6_at 2 (some .int) ∈ lw_tbl := List.mem_of_getElem? (i := 570) rfl
set_option maxRecDepth 100000 in
theorem zw_39 : Cond.code yX7_makeRound cX7_makeRound 3 none ∈ lw_tbl := List.mem_of_getElem? (i := 609) rfl
set_option maxRecDepth 100000 in
theorem zw_40 : Cond.code yX7_countRound cX7_countRound 2 none ∈ lw_tbl := List.mem_of_getElem? (i := 743) rfl
set_option maxRecDepth 100000 in
theorem zw_41 : Cond.code yX7_moveLeader cX7_moveLeader 5 none ∈ lw_tbl := List.mem_of_getElem? (i := 614) rfl
set_option maxRecDepth 100000 in
theorem zw_42 : Cond.code yX7_firstNearer cX7_firstNearer 5 (some .int) ∈ lw_tbl := List.mem_of_getElem? (i := 626) rfl
set_option maxRecDepth 100000 in
theorem zw_43 : Cond.code yX7_lineUp cX7_lineUp 3 none ∈ lw_tbl := List.mem_of_getElem? (i := 706) rfl
set_option maxRecDepth 100000 in
theorem zw_44 : Cond.code yX7_lineUpMember cX7_lineUpMember 3 none ∈ lw_tbl := List.mem_of_getElem? (i := 711) rfl
set_option maxRecDepth 100000 in
theorem zw_45 : Cond.code yX7_insert cX7_insert 4 none ∈ lw_tbl := List.mem_of_getElem? (i := 715) rfl
set_option maxRecDepth 100000 in
theorem zw_46 : Cond.code yX7_act cX7_act 7 none ∈ lw_tbl := List.mem_of_getElem? (i := 719) rfl
set_option maxRecDepth 100000 in
theorem zw_47 : Cond.code yX7_firstFreeNearer cX7_firstFreeNearer 5 (some .int) ∈ lw_tbl := List.mem_of_getElem? (i := 723) rfl
set_option maxRecDepth 100000 in
theorem zw_48 : Cond.code yX7_firstPartner cX7_firstPartner 8 (some .int) ∈ lw_tbl := List.mem_of_getElem? (i := 727) rfl
set_option maxRecDepth 100000 in
theorem zw_49 : Cond.code yX7_stayOrStepAside cX7_stayOrStepAside 4 none ∈ lw_tbl := List.mem_of_getElem? (i := 735) rfl
set_option maxRecDepth 100000 in
theorem zw_50 : Cond.code yX7_firstFree cX7_firstFree 4 (some .int) ∈ lw_tbl := List.mem_of_getElem? (i := 739) rfl
set_option maxRecDepth 100000 in
theorem zw_51 : Cond.code yX8_forget cX8_forget 2 none ∈ lw_tbl := List.mem_of_getElem? (i := 540) rfl
set_option maxRecDepth 100000 in
theorem zw_52 : Cond.code yX8_from cX8_from 8 (some (.array .int)) ∈ lw_tbl := List.mem_of_getElem? (i := 618) rfl
set_option maxRecDepth 100000 in
theorem zw_53 : Cond.code yX9_copyFrom cX9_copyFrom 3 none ∈ lw_tbl := List.mem_of_getElem? (i := 477) rfl
set_option maxRecDepth 100000 in
theorem zw_54 : Cond.code yX9_living cX9_living 1 (some .int) ∈ lw_tbl := List.mem_of_getElem? (i := 508) rfl
set_option maxRecDepth 100000 in
theorem zw_55 : Cond.code yX9_hasMember cX9_hasMember 2 (some .boolean) ∈ lw_tbl := List.mem_of_getElem? (i := 500) rfl
set_option maxRecDepth 100000 in
theorem zw_56 : Cond.code yX9_leader cX9_leader 2 (some .int) ∈ lw_tbl := List.mem_of_getElem? (i := 516) rfl
set_option maxRecDepth 100000 in
theorem zw_57 : Cond.code yX9_presentShape cX9_presentShape 1 (some (.object "SwarmPlanner$Shape")) ∈ lw_tbl := List.mem_of_getElem? (i := 658) rfl
set_option maxRecDepth 100000 in
theorem zw_58 : Cond.code yX9_shapeSet cX9_shapeSet 3 (some .int) ∈ lw_tbl := List.mem_of_getElem? (i := 941) rfl
set_option maxRecDepth 100000 in
theorem zw_59 : Cond.code yX9_join cX9_join 3 (some .int) ∈ lw_tbl := List.mem_of_getElem? (i := 492) rfl
set_option maxRecDepth 100000 in
theorem zw_60 : Cond.code yX9_part cX9_part 2 none ∈ lw_tbl := List.mem_of_getElem? (i := 504) rfl
set_option maxRecDepth 100000 in
theorem zw_61 : Cond.code yX9_turnWall cX9_turnWall 3 none ∈ lw_tbl := List.mem_of_getElem? (i := 536) rfl
set_option maxRecDepth 100000 in
theorem zw_62 : Cond.code yX9_step cX9_step 4 none ∈ lw_tbl := List.mem_of_getElem? (i := 631) rfl
set_option maxRecDepth 100000 in
theorem zw_63 : Cond.code yX9_exchange cX9_exchange 4 none ∈ lw_tbl := List.mem_of_getElem? (i := 731) rfl
set_option maxRecDepth 100000 in
theorem zw_64 : Cond.code yX9_put cX9_put 4 none ∈ lw_tbl := List.mem_of_getElem? (i := 635) rfl
set_option maxRecDepth 100000 in
theorem zw_65 : Cond.code yX9_stay cX9_stay 3 none ∈ lw_tbl := List.mem_of_getElem? (i := 639) rfl
set_option maxRecDepth 100000 in
theorem zw_66 : Cond.code yX9_movedSince cX9_movedSince 4 (some .int) ∈ lw_tbl := List.mem_of_getElem? (i := 747) rfl
set_option maxRecDepth 100000 in
theorem zw_67 : Cond.code yX10_add cX10_add 4 (some .int) ∈ lw_tbl := List.mem_of_getElem? (i := 466) rfl
set_option maxRecDepth 100000 in
theorem zw_68 : Cond.code yX10_lose cX10_lose 2 (some .int) ∈ lw_tbl := List.mem_of_getElem? (i := 496) rfl
set_option maxRecDepth 100000 in
theorem zw_69 : Cond.code yX10_lead cX10_lead 3 (some .int) ∈ lw_tbl := List.mem_of_getElem? (i := 512) rfl
set_option maxRecDepth 100000 in
theorem zw_70 : Cond.code yX10_target cX10_target 3 (some .int) ∈ lw_tbl := List.mem_of_getElem? (i := 521) rfl
set_option maxRecDepth 100000 in
theorem zw_71 : Cond.code yX10_obstacle cX10_obstacle 2 (some .int) ∈ lw_tbl := List.mem_of_getElem? (i := 528) rfl
set_option maxRecDepth 100000 in
theorem zw_72 : Cond.code yX10_feed cX10_feed 7 (some .int) ∈ lw_tbl := List.mem_of_getElem? (i := 544) rfl
set_option maxRecDepth 100000 in
theorem zw_73 : Cond.code yX10_shape cX10_shape 3 (some .int) ∈ lw_tbl := List.mem_of_getElem? (i := 555) rfl
set_option maxRecDepth 100000 in
theorem zw_74 : Cond.code yX10_choose cX10_choose 3 (some .int) ∈ lw_tbl := List.mem_of_getElem? (i := 600) rfl
set_option maxRecDepth 100000 in
theorem zw_75 : Cond.code yX10_rounds cX10_rounds 3 (some .int) ∈ lw_tbl := List.mem_of_getElem? (i := 604) rfl
set_option maxRecDepth 100000 in
theorem zw_76 : Cond.code yX10_execute cX10_execute 4 (some .int) ∈ lw_tbl := List.mem_of_getElem? (i := 751) rfl
set_option maxRecDepth 100000 in
theorem zw_77 : Cond.code yX10_refusal cX10_refusal 2 (some .int) ∈ lw_tbl := List.mem_of_getElem? (i := 803) rfl
set_option maxRecDepth 100000 in
theorem zw_78 : Cond.code yX10_member cX10_member 3 (some .int) ∈ lw_tbl := List.mem_of_getElem? (i := 807) rfl
set_option maxRecDepth 100000 in
theorem zw_79 : Cond.code yX10_swarm cX10_swarm 2 (some .int) ∈ lw_tbl := List.mem_of_getElem? (i := 817) rfl
set_option maxRecDepth 100000 in
theorem zw_80 : Cond.code yX10_cell cX10_cell 3 (some .int) ∈ lw_tbl := List.mem_of_getElem? (i := 829) rfl
set_option maxRecDepth 100000 in
theorem zw_81 : Cond.code yX10_distance cX10_distance 3 (some .int) ∈ lw_tbl := List.mem_of_getElem? (i := 847) rfl
set_option maxRecDepth 100000 in
theorem zw_82 : Cond.code yX10_slot cX10_slot 4 (some .int) ∈ lw_tbl := List.mem_of_getElem? (i := 851) rfl
set_option maxRecDepth 100000 in
theorem zw_83 : Cond.code yX10_recognized cX10_recognized 2 (some .int) ∈ lw_tbl := List.mem_of_getElem? (i := 857) rfl
set_option maxRecDepth 100000 in
theorem zw_84 : Cond.code yX10_healed cX10_healed 2 (some .int) ∈ lw_tbl := List.mem_of_getElem? (i := 888) rfl
set_option maxRecDepth 100000 in
theorem zw_85 : Cond.code yX10_healedWithout cX10_healedWithout 3 (some .int) ∈ lw_tbl := List.mem_of_getElem? (i := 896) rfl
set_option maxRecDepth 100000 in
theorem zw_86 : Cond.code yX10_again cX10_again 1 (some .int) ∈ lw_tbl := List.mem_of_getElem? (i := 900) rfl
set_option maxRecDepth 100000 in
theorem zw_87 : Cond.code yX10_account cX10_account 2 (some .int) ∈ lw_tbl := List.mem_of_getElem? (i := 913) rfl
set_option maxRecDepth 100000 in
theorem zw_88 : Cond.code yX10_back cX10_back 1 (some .int) ∈ lw_tbl := List.mem_of_getElem? (i := 917) rfl
set_option maxRecDepth 100000 in
theorem zw_89 : Cond.code yX10_image cX10_image 1 (some .int) ∈ lw_tbl := List.mem_of_getElem? (i := 925) rfl
set_option maxRecDepth 100000 in
theorem zw_90 : Cond.code yX10_undo cX10_undo 1 (some .int) ∈ lw_tbl := List.mem_of_getElem? (i := 929) rfl
set_option maxRecDepth 100000 in
theorem zw_91 : Cond.code yX10_count cX10_count 2 (some .int) ∈ lw_tbl := List.mem_of_getElem? (i := 937) rfl
set_option maxRecDepth 100000 in
theorem zw_92 : Cond.code yX10_isCell cX10_isCell 1 (some .boolean) ∈ lw_tbl := List.mem_of_getElem? (i := 524) rfl
set_option maxRecDepth 100000 in
theorem zw_93 : Cond.code yX10_isShape cX10_isShape 1 (some .boolean) ∈ lw_tbl := List.mem_of_getElem? (i := 558) rfl
set_option maxRecDepth 100000 in
theorem zw_94 : Cond.code yX10_isByte cX10_isByte 1 (some .boolean) ∈ lw_tbl := List.mem_of_getElem? (i := 547) rfl
set_option maxRecDepth 100000 in
theorem zw_95 : Cond.code yX10_cellAt cX10_cellAt 3 (some .int) ∈ lw_tbl := List.mem_of_getElem? (i := 469) rfl
set_option maxRecDepth 100000 in
theorem zw_96 : Cond.code yX10_neighbor cX10_neighbor 2 (some .int) ∈ lw_tbl := List.mem_of_getElem? (i := 622) rfl
set_option maxRecDepth 100000 in
theorem zw_97 : Cond.code yX10_restore cX10_restore 2 none ∈ lw_tbl := List.mem_of_getElem? (i := 799) rfl
set_option maxRecDepth 100000 in
theorem zw_98 : Cond.code yX10_turnWall cX10_turnWall 2 none ∈ lw_tbl := List.mem_of_getElem? (i := 532) rfl
set_option maxRecDepth 100000 in
theorem zw_99 : Cond.code yX10_obey cX10_obey 5 (some .int) ∈ lw_tbl := List.mem_of_getElem? (i := 775) rfl
set_option maxRecDepth 100000 in
theorem zw_100 : Cond.code yX10_obeyAdding cX10_obeyAdding 2 (some .int) ∈ lw_tbl := List.mem_of_getElem? (i := 779) rfl
set_option maxRecDepth 100000 in
theorem zw_101 : Cond.code yX10_obeyWall cX10_obeyWall 2 (some .int) ∈ lw_tbl := List.mem_of_getElem? (i := 783) rfl
set_option maxRecDepth 100000 in
theorem zw_102 : Cond.code yX10_obeyTarget cX10_obeyTarget 2 (some .int) ∈ lw_tbl := List.mem_of_getElem? (i := 787) rfl
set_option maxRecDepth 100000 in
theorem zw_103 : Cond.code yX10_obeyLeading cX10_obeyLeading 2 (some .int) ∈ lw_tbl := List.mem_of_getElem? (i := 791) rfl
set_option maxRecDepth 100000 in
theorem zw_104 : Cond.code yX10_obeyLosing cX10_obeyLosing 2 (some .int) ∈ lw_tbl := List.mem_of_getElem? (i := 795) rfl
set_option maxRecDepth 100000 in
theorem zw_105 : Cond.code yX10_numberGiven cX10_numberGiven 4 (some .int) ∈ lw_tbl := List.mem_of_getElem? (i := 811) rfl
set_option maxRecDepth 100000 in
theorem zw_106 : Cond.code yX10_numberOfGiving cX10_numberOfGiving 2 (some .int) ∈ lw_tbl := List.mem_of_getElem? (i := 821) rfl
set_option maxRecDepth 100000 in
theorem zw_107 : Cond.code yX10_slotWithPlace cX10_slotWithPlace 4 (some .int) ∈ lw_tbl := List.mem_of_getElem? (i := 833) rfl
set_option maxRecDepth 100000 in
theorem zw_108 : Cond.code yX10_distanceFromLeader cX10_distanceFromLeader 3 (some .int) ∈ lw_tbl := List.mem_of_getElem? (i := 838) rfl
set_option maxRecDepth 100000 in
theorem zw_109 : Cond.code yX10_neighborsWithoutWall cX10_neighborsWithoutWall 5 (some .int) ∈ lw_tbl := List.mem_of_getElem? (i := 842) rfl
set_option maxRecDepth 100000 in
theorem zw_110 : Cond.code yX10_triedWithout cX10_triedWithout 5 (some .int) ∈ lw_tbl := List.mem_of_getElem? (i := 892) rfl
set_option maxRecDepth 100000 in
theorem zw_111 : Cond.code yX11_in cX11_in 3 (some .boolean) ∈ lw_tbl := List.mem_of_getElem? (i := 1030) rfl
set_option maxRecDepth 100000 in
theorem zw_112 : Cond.code yX11_copies cX11_copies 4 none ∈ lw_tbl := List.mem_of_getElem? (i := 1050) rfl
set_option maxRecDepth 100000 in
theorem zw_113 : Cond.code yX11_keeps cX11_keeps 2 none ∈ lw_tbl := List.mem_of_getElem? (i := 1046) rfl
set_option maxRecDepth 100000 in
theorem zw_114 : Cond.code yX11_of cX11_of 3 (some .int) ∈ lw_tbl := List.mem_of_getElem? (i := 1042) rfl
set_option maxRecDepth 100000 in
theorem zw_115 : Cond.code yX11_lays cX11_lays 4 none ∈ lw_tbl := List.mem_of_getElem? (i := 1070) rfl
set_option maxRecDepth 100000 in
theorem zw_116 : Cond.code yX11_isMember cX11_isMember 2 (some .boolean) ∈ lw_tbl := List.mem_of_getElem? (i := 1038) rfl
set_option maxRecDepth 100000 in
theorem zw_117 : Cond.code yX11_isCell cX11_isCell 1 (some .boolean) ∈ lw_tbl := List.mem_of_getElem? (i := 1179) rfl
set_option maxRecDepth 100000 in
theorem zw_118 : Cond.code yX11_isBlocked cX11_isBlocked 2 (some .boolean) ∈ lw_tbl := List.mem_of_getElem? (i := 1078) rfl
set_option maxRecDepth 100000 in
theorem zw_119 : Cond.code yX11_members cX11_members 3 (some .int) ∈ lw_tbl := List.mem_of_getElem? (i := 1164) rfl
set_option maxRecDepth 100000 in
theorem zw_120 : Cond.code yX11_on cX11_on 3 (some .int) ∈ lw_tbl := List.mem_of_getElem? (i := 1085) rfl
set_option maxRecDepth 100000 in
theorem zw_121 : Cond.code yX11_leader cX11_leader 2 (some .int) ∈ lw_tbl := List.mem_of_getElem? (i := 1034) rfl
set_option maxRecDepth 100000 in
theorem zw_122 : Cond.code yX11_counts cX11_counts 3 none ∈ lw_tbl := List.mem_of_getElem? (i := 1062) rfl
set_option maxRecDepth 100000 in
theorem zw_123 : Cond.code yX11_beside cX11_beside 4 (some .int) ∈ lw_tbl := List.mem_of_getElem? (i := 1081) rfl
set_option maxRecDepth 100000 in
theorem zw_124 : Cond.code yX11_floods cX11_floods 9 none ∈ lw_tbl := List.mem_of_getElem? (i := 1074) rfl
set_option maxRecDepth 100000 in
theorem zw_125 : Cond.code yX11_distanceOf cX11_distanceOf 3 (some .int) ∈ lw_tbl := List.mem_of_getElem? (i := 1251) rfl
set_option maxRecDepth 100000 in
theorem zw_126 : Cond.code yX11_shapeAt cX11_shapeAt 1 (some .int) ∈ lw_tbl := List.mem_of_getElem? (i := 1104) rfl
set_option maxRecDepth 100000 in
theorem zw_127 : Cond.code yX11_slots cX11_slots 2 (some .int) ∈ lw_tbl := List.mem_of_getElem? (i := 1101) rfl
set_option maxRecDepth 100000 in
theorem zw_128 : Cond.code yX11_anchor cX11_anchor 2 (some .int) ∈ lw_tbl := List.mem_of_getElem? (i := 1108) rfl
set_option maxRecDepth 100000 in
theorem zw_129 : Cond.code yX11_column cX11_column 3 (some .int) ∈ lw_tbl := List.mem_of_getElem? (i := 1116) rfl
set_option maxRecDepth 100000 in
theorem zw_130 : Cond.code yX11_rowOf cX11_rowOf 3 (some .int) ∈ lw_tbl := List.mem_of_getElem? (i := 1120) rfl
set_option maxRecDepth 100000 in
theorem zw_131 : Cond.code yX11_placeOf cX11_placeOf 5 (some .int) ∈ lw_tbl := List.mem_of_getElem? (i := 1112) rfl
set_option maxRecDepth 100000 in
theorem zw_132 : Cond.code yX11_reckons cX11_reckons 6 none ∈ lw_tbl := List.mem_of_getElem? (i := 1124) rfl
set_option maxRecDepth 100000 in
theorem zw_133 : Cond.code yX11_gives cX11_gives 9 none ∈ lw_tbl := List.mem_of_getElem? (i := 1097) rfl
set_option maxRecDepth 100000 in
theorem zw_134 : Cond.code yX11_isFormed cX11_isFormed 3 (some .boolean) ∈ lw_tbl := List.mem_of_getElem? (i := 1239) rfl
set_option maxRecDepth 100000 in
theorem zw_135 : Cond.code yX11_goes cX11_goes 3 none ∈ lw_tbl := List.mem_of_getElem? (i := 1093) rfl
set_option maxRecDepth 100000 in
theorem zw_136 : Cond.code yX11_waits cX11_waits 2 none ∈ lw_tbl := List.mem_of_getElem? (i := 1089) rfl
set_option maxRecDepth 100000 in
theorem zw_137 : Cond.code yX11_leads cX11_leads 6 none ∈ lw_tbl := List.mem_of_getElem? (i := 1066) rfl
set_option maxRecDepth 100000 in
theorem zw_138 : Cond.code yX11_mayExchange cX11_mayExchange 4 (some .boolean) ∈ lw_tbl := List.mem_of_getElem? (i := 1140) rfl
set_option maxRecDepth 100000 in
theorem zw_139 : Cond.code yX11_steps cX11_steps 6 (some .boolean) ∈ lw_tbl := List.mem_of_getElem? (i := 1132) rfl
set_option maxRecDepth 100000 in
theorem zw_140 : Cond.code yX11_exchanges cX11_exchanges 8 (some .boolean) ∈ lw_tbl := List.mem_of_getElem? (i := 1136) rfl
set_option maxRecDepth 100000 in
theorem zw_141 : Cond.code yX11_stepsAside cX11_stepsAside 4 (some .boolean) ∈ lw_tbl := List.mem_of_getElem? (i := 1144) rfl
set_option maxRecDepth 100000 in
theorem zw_142 : Cond.code yX11_acts cX11_acts 4 none ∈ lw_tbl := List.mem_of_getElem? (i := 1128) rfl
set_option maxRecDepth 100000 in
theorem zw_143 : Cond.code yX11_round cX11_round 5 none ∈ lw_tbl := List.mem_of_getElem? (i := 1058) rfl
set_option maxRecDepth 100000 in
theorem zw_144 : Cond.code yX11_makes cX11_makes 4 (some .int) ∈ lw_tbl := List.mem_of_getElem? (i := 1054) rfl
set_option maxRecDepth 100000 in
theorem zw_145 : Cond.code yX11_rounds cX11_rounds 2 (some .int) ∈ lw_tbl := List.mem_of_getElem? (i := 1027) rfl
set_option maxRecDepth 100000 in
theorem zw_146 : Cond.code yX11_opens cX11_opens 4 (some .int) ∈ lw_tbl := List.mem_of_getElem? (i := 1152) rfl
set_option maxRecDepth 100000 in
theorem zw_147 : Cond.code yX11_goesLost cX11_goesLost 2 (some .int) ∈ lw_tbl := List.mem_of_getElem? (i := 1160) rfl
set_option maxRecDepth 100000 in
theorem zw_148 : Cond.code yX11_turnsBlocked cX11_turnsBlocked 2 (some .int) ∈ lw_tbl := List.mem_of_getElem? (i := 1183) rfl
set_option maxRecDepth 100000 in
theorem zw_149 : Cond.code yX11_add cX11_add 4 (some .int) ∈ lw_tbl := List.mem_of_getElem? (i := 1148) rfl
set_option maxRecDepth 100000 in
theorem zw_150 : Cond.code yX11_lose cX11_lose 2 (some .int) ∈ lw_tbl := List.mem_of_getElem? (i := 1156) rfl
set_option maxRecDepth 100000 in
theorem zw_151 : Cond.code yX11_lead cX11_lead 3 (some .int) ∈ lw_tbl := List.mem_of_getElem? (i := 1168) rfl
set_option maxRecDepth 100000 in
theorem zw_152 : Cond.code yX11_target cX11_target 3 (some .int) ∈ lw_tbl := List.mem_of_getElem? (i := 1172) rfl
set_option maxRecDepth 100000 in
theorem zw_153 : Cond.code yX11_obstacle cX11_obstacle 2 (some .int) ∈ lw_tbl := List.mem_of_getElem? (i := 1176) rfl
set_option maxRecDepth 100000 in
theorem zw_154 : Cond.code yX11_feed cX11_feed 8 (some .int) ∈ lw_tbl := List.mem_of_getElem? (i := 1187) rfl
set_option maxRecDepth 100000 in
theorem zw_155 : Cond.code yX11_here cX11_here 1 (some .int) ∈ lw_tbl := List.mem_of_getElem? (i := 1199) rfl
set_option maxRecDepth 100000 in
theorem zw_156 : Cond.code yX11_readsShape cX11_readsShape 5 none ∈ lw_tbl := List.mem_of_getElem? (i := 1195) rfl
set_option maxRecDepth 100000 in
theorem zw_157 : Cond.code yX11_shape cX11_shape 3 (some .int) ∈ lw_tbl := List.mem_of_getElem? (i := 1191) rfl
set_option maxRecDepth 100000 in
theorem zw_158 : Cond.code yX11_choose cX11_choose 3 (some .int) ∈ lw_tbl := List.mem_of_getElem? (i := 1203) rfl
set_option maxRecDepth 100000 in
theorem zw_159 : Cond.code yX11_number cX11_number 3 (some .int) ∈ lw_tbl := List.mem_of_getElem? (i := 1215) rfl
set_option maxRecDepth 100000 in
theorem zw_160 : Cond.code yX11_order cX11_order 3 none ∈ lw_tbl := List.mem_of_getElem? (i := 1211) rfl
set_option maxRecDepth 100000 in
theorem zw_161 : Cond.code yX11_refusal cX11_refusal 5 (some .int) ∈ lw_tbl := List.mem_of_getElem? (i := 1219) rfl
set_option maxRecDepth 100000 in
theorem zw_162 : Cond.code yX11_carries cX11_carries 6 none ∈ lw_tbl := List.mem_of_getElem? (i := 1223) rfl
set_option maxRecDepth 100000 in
theorem zw_163 : Cond.code yX11_execute cX11_execute 3 (some .int) ∈ lw_tbl := List.mem_of_getElem? (i := 1207) rfl
set_option maxRecDepth 100000 in
theorem zw_164 : Cond.code yX11_refusal_ cX11_refusal_ 2 (some .int) ∈ lw_tbl := List.mem_of_getElem? (i := 1227) rfl
set_option maxRecDepth 100000 in
theorem zw_165 : Cond.code yX11_member cX11_member 4 (some .int) ∈ lw_tbl := List.mem_of_getElem? (i := 1231) rfl
set_option maxRecDepth 100000 in
theorem zw_166 : Cond.code yX11_swarm cX11_swarm 5 (some .int) ∈ lw_tbl := List.mem_of_getElem? (i := 1235) rfl
set_option maxRecDepth 100000 in
theorem zw_167 : Cond.code yX11_slotAt cX11_slotAt 3 (some .int) ∈ lw_tbl := List.mem_of_getElem? (i := 1247) rfl
set_option maxRecDepth 100000 in
theorem zw_168 : Cond.code yX11_cell cX11_cell 5 (some .int) ∈ lw_tbl := List.mem_of_getElem? (i := 1243) rfl
set_option maxRecDepth 100000 in
theorem zw_169 : Cond.code yX11_distance cX11_distance 4 (some .int) ∈ lw_tbl := List.mem_of_getElem? (i := 1255) rfl
set_option maxRecDepth 100000 in
theorem zw_170 : Cond.code yX11_slot cX11_slot 4 (some .int) ∈ lw_tbl := List.mem_of_getElem? (i := 1259) rfl
set_option maxRecDepth 100000 in
theorem zw_171 : Cond.code yX11_turnsRound cX11_turnsRound 6 none ∈ lw_tbl := List.mem_of_getElem? (i := 1271) rfl
set_option maxRecDepth 100000 in
theorem zw_172 : Cond.code yX11_isLike cX11_isLike 9 (some .boolean) ∈ lw_tbl := List.mem_of_getElem? (i := 1267) rfl
set_option maxRecDepth 100000 in
theorem zw_173 : Cond.code yX11_recognized cX11_recognized 4 (some .int) ∈ lw_tbl := List.mem_of_getElem? (i := 1263) rfl
set_option maxRecDepth 100000 in
theorem zw_174 : Cond.code yX11_forms cX11_forms 3 (some .int) ∈ lw_tbl := List.mem_of_getElem? (i := 1279) rfl
set_option maxRecDepth 100000 in
theorem zw_175 : Cond.code yX11_healed cX11_healed 3 (some .int) ∈ lw_tbl := List.mem_of_getElem? (i := 1275) rfl
set_option maxRecDepth 100000 in
theorem zw_176 : Cond.code yX11_healedWithout cX11_healedWithout 4 (some .int) ∈ lw_tbl := List.mem_of_getElem? (i := 1283) rfl
set_option maxRecDepth 100000 in
theorem zw_177 : Cond.code yX11_again cX11_again 1 (some .int) ∈ lw_tbl := List.mem_of_getElem? (i := 1287) rfl
set_option maxRecDepth 100000 in
theorem zw_178 : Cond.code yX11_account cX11_account 4 (some .int) ∈ lw_tbl := List.mem_of_getElem? (i := 1291) rfl
set_option maxRecDepth 100000 in
theorem zw_179 : Cond.code yX11_back cX11_back 1 (some .int) ∈ lw_tbl := List.mem_of_getElem? (i := 1295) rfl
set_option maxRecDepth 100000 in
theorem zw_180 : Cond.code yX11_image cX11_image 1 (some .int) ∈ lw_tbl := List.mem_of_getElem? (i := 1299) rfl
set_option maxRecDepth 100000 in
theorem zw_181 : Cond.code yX11_undo cX11_undo 1 (some .int) ∈ lw_tbl := List.mem_of_getElem? (i := 1303) rfl
set_option maxRecDepth 100000 in
theorem zw_182 : Cond.code yX11_count cX11_count 4 (some .int) ∈ lw_tbl := List.mem_of_getElem? (i := 1307) rfl
set_option maxRecDepth 100000 in
theorem zw_183 : Cond.code yJ7_fill_d0a16 cJ7_fill_d0a16 5 none ∈ lw_tbl := List.mem_of_getElem? (i := 689) rfl
set_option maxRecDepth 100000 in
theorem zw_184 : Cond.code yJ7_fill_53178 cJ7_fill_53178 4 none ∈ lw_tbl := List.mem_of_getElem? (i := 122) rfl
theorem zwc_0 : ∀ q ∈ zmt_0, Cond.code q.2.1 q.2.2.1 q.2.2.2.1 q.2.2.2.2 ∈ lw_tbl := List.forall_mem_cons.mpr ⟨zw_0, List.forall_mem_cons.mpr ⟨zw_1, List.forall_mem_cons.mpr ⟨zw_2, List.forall_mem_cons.mpr ⟨zw_3, List.forall_mem_cons.mpr ⟨zw_4, List.forall_mem_cons.mpr ⟨zw_5, List.forall_mem_cons.mpr ⟨zw_6, List.forall_mem_cons.mpr ⟨zw_7, List.forall_mem_cons.mpr ⟨zw_8, List.forall_mem_cons.mpr ⟨zw_9, List.forall_mem_cons.mpr ⟨zw_10, List.forall_mem_cons.mpr ⟨zw_11, List.forall_mem_cons.mpr ⟨zw_12, List.forall_mem_cons.mpr ⟨zw_13, List.forall_mem_cons.mpr ⟨zw_14, List.forall_mem_cons.mpr ⟨zw_15, List.forall_mem_cons.mpr ⟨zw_16, List.forall_mem_cons.mpr ⟨zw_17, List.forall_mem_cons.mpr ⟨zw_18, List.forall_mem_cons.mpr ⟨zw_19, fun _ h => absurd h List.not_mem_nil⟩⟩⟩⟩⟩⟩⟩⟩⟩⟩⟩⟩⟩⟩⟩⟩⟩⟩⟩⟩
theorem zwc_1 : ∀ q ∈ zmt_1, Cond.code q.2.1 q.2.2.1 q.2.2.2.1 q.2.2.2.2 ∈ lw_tbl := List.forall_mem_cons.mpr ⟨zw_20, List.forall_mem_cons.mpr ⟨zw_21, List.forall_mem_cons.mpr ⟨zw_22, List.forall_mem_cons.mpr ⟨zw_23, List.forall_mem_cons.mpr ⟨zw_24, List.forall_mem_cons.mpr ⟨zw_25, List.forall_mem_cons.mpr ⟨zw_26, List.forall_mem_cons.mpr ⟨zw_27, List.forall_mem_cons.mpr ⟨zw_28, List.forall_mem_cons.mpr ⟨zw_29, List.forall_mem_cons.mpr ⟨zw_30, List.forall_mem_cons.mpr ⟨zw_31, List.forall_mem_cons.mpr ⟨zw_32, List.forall_mem_cons.mpr ⟨zw_33, List.forall_mem_cons.mpr ⟨zw_34, List.forall_mem_cons.mpr ⟨zw_35, List.forall_mem_cons.mpr ⟨zw_36, List.forall_mem_cons.mpr ⟨zw_37, List.forall_mem_cons.mpr ⟨zw_38, List.forall_mem_cons.mpr ⟨zw_39, fun _ h => absurd h List.not_mem_nil⟩⟩⟩⟩⟩⟩⟩⟩⟩⟩⟩⟩⟩⟩⟩⟩⟩⟩⟩⟩
theorem zwc_2 : ∀ q ∈ zmt_2, Cond.code q.2.1 q.2.2.1 q.2.2.2.1 q.2.2.2.2 ∈ lw_tbl := List.forall_mem_cons.mpr ⟨zw_40, List.forall_mem_cons.mpr ⟨zw_41, List.forall_mem_cons.mpr ⟨zw_42, List.forall_mem_cons.mpr ⟨zw_43, List.forall_mem_cons.mpr ⟨zw_44, List.forall_mem_cons.mpr ⟨zw_45, List.forall_mem_cons.mpr ⟨zw_46, List.forall_mem_cons.mpr ⟨zw_47, List.forall_mem_cons.mpr ⟨zw_48, List.forall_mem_cons.mpr ⟨zw_49, List.forall_mem_cons.mpr ⟨zw_50, List.forall_mem_cons.mpr ⟨zw_51, List.forall_mem_cons.mpr ⟨zw_52, List.forall_mem_cons.mpr ⟨zw_53, List.forall_mem_cons.mpr ⟨zw_54, List.forall_mem_cons.mpr ⟨zw_55, List.forall_mem_cons.mpr ⟨zw_56, List.forall_mem_cons.mpr ⟨zw_57, List.forall_mem_cons.mpr ⟨zw_58, List.forall_mem_cons.mpr ⟨zw_59, fun _ h => absurd h List.not_mem_nil⟩⟩⟩⟩⟩⟩⟩⟩⟩⟩⟩⟩⟩⟩⟩⟩⟩⟩⟩⟩
theorem zwc_3 : ∀ q ∈ zmt_3, Cond.code q.2.1 q.2.2.1 q.2.2.2.1 q.2.2.2.2 ∈ lw_tbl := List.forall_mem_cons.mpr ⟨zw_60, List.forall_mem_cons.mpr ⟨zw_61, List.forall_mem_cons.mpr ⟨zw_62, List.forall_mem_cons.mpr ⟨zw_63, List.forall_mem_cons.mpr ⟨zw_64, List.forall_mem_cons.mpr ⟨zw_65, List.forall_mem_cons.mpr ⟨zw_66, List.forall_mem_cons.mpr ⟨zw_67, List.forall_mem_cons.mpr ⟨zw_68, List.forall_mem_cons.mpr ⟨zw_69, List.forall_mem_cons.mpr ⟨zw_70, List.forall_mem_cons.mpr ⟨zw_71, List.forall_mem_cons.mpr ⟨zw_72, List.forall_mem_cons.mpr ⟨zw_73, List.forall_mem_cons.mpr ⟨zw_74, List.forall_mem_cons.mpr ⟨zw_75, List.forall_mem_cons.mpr ⟨zw_76, List.forall_mem_cons.mpr ⟨zw_77, List.forall_mem_cons.mpr ⟨zw_78, List.forall_mem_cons.mpr ⟨zw_79, fun _ h => absurd h List.not_mem_nil⟩⟩⟩⟩⟩⟩⟩⟩⟩⟩⟩⟩⟩⟩⟩⟩⟩⟩⟩⟩
theorem zwc_4 : ∀ q ∈ zmt_4, Cond.code q.2.1 q.2.2.1 q.2.2.2.1 q.2.2.2.2 ∈ lw_tbl := List.forall_mem_cons.mpr ⟨zw_80, List.forall_mem_cons.mpr ⟨zw_81, List.forall_mem_cons.mpr ⟨zw_82, List.forall_mem_cons.mpr ⟨zw_83, List.forall_mem_cons.mpr ⟨zw_84, List.forall_mem_cons.mpr ⟨zw_85, List.forall_mem_cons.mpr ⟨zw_86, List.forall_mem_cons.mpr ⟨zw_87, List.forall_mem_cons.mpr ⟨zw_88, List.forall_mem_cons.mpr ⟨zw_89, List.forall_mem_cons.mpr ⟨zw_90, List.forall_mem_cons.mpr ⟨zw_91, List.forall_mem_cons.mpr ⟨zw_92, List.forall_mem_cons.mpr ⟨zw_93, List.forall_mem_cons.mpr ⟨zw_94, List.forall_mem_cons.mpr ⟨zw_95, List.forall_mem_cons.mpr ⟨zw_96, List.forall_mem_cons.mpr ⟨zw_97, List.forall_mem_cons.mpr ⟨zw_98, List.forall_mem_cons.mpr ⟨zw_99, fun _ h => absurd h List.not_mem_nil⟩⟩⟩⟩⟩⟩⟩⟩⟩⟩⟩⟩⟩⟩⟩⟩⟩⟩⟩⟩
theorem zwc_5 : ∀ q ∈ zmt_5, Cond.code q.2.1 q.2.2.1 q.2.2.2.1 q.2.2.2.2 ∈ lw_tbl := List.forall_mem_cons.mpr ⟨zw_100, List.forall_mem_cons.mpr ⟨zw_101, List.forall_mem_cons.mpr ⟨zw_102, List.forall_mem_cons.mpr ⟨zw_103, List.forall_mem_cons.mpr ⟨zw_104, List.forall_mem_cons.mpr ⟨zw_105, List.forall_mem_cons.mpr ⟨zw_106, List.forall_mem_cons.mpr ⟨zw_107, List.forall_mem_cons.mpr ⟨zw_108, List.forall_mem_cons.mpr ⟨zw_109, List.forall_mem_cons.mpr ⟨zw_110, List.forall_mem_cons.mpr ⟨zw_111, List.forall_mem_cons.mpr ⟨zw_112, List.forall_mem_cons.mpr ⟨zw_113, List.forall_mem_cons.mpr ⟨zw_114, List.forall_mem_cons.mpr ⟨zw_115, List.forall_mem_cons.mpr ⟨zw_116, List.forall_mem_cons.mpr ⟨zw_117, List.forall_mem_cons.mpr ⟨zw_118, List.forall_mem_cons.mpr ⟨zw_119, fun _ h => absurd h List.not_mem_nil⟩⟩⟩⟩⟩⟩⟩⟩⟩⟩⟩⟩⟩⟩⟩⟩⟩⟩⟩⟩
theorem zwc_6 : ∀ q ∈ zmt_6, Cond.code q.2.1 q.2.2.1 q.2.2.2.1 q.2.2.2.2 ∈ lw_tbl := List.forall_mem_cons.mpr ⟨zw_120, List.forall_mem_cons.mpr ⟨zw_121, List.forall_mem_cons.mpr ⟨zw_122, List.forall_mem_cons.mpr ⟨zw_123, List.forall_mem_cons.mpr ⟨zw_124, List.forall_mem_cons.mpr ⟨zw_125, List.forall_mem_cons.mpr ⟨zw_126, List.forall_mem_cons.mpr ⟨zw_127, List.forall_mem_cons.mpr ⟨zw_128, List.forall_mem_cons.mpr ⟨zw_129, List.forall_mem_cons.mpr ⟨zw_130, List.forall_mem_cons.mpr ⟨zw_131, List.forall_mem_cons.mpr ⟨zw_132, List.forall_mem_cons.mpr ⟨zw_133, List.forall_mem_cons.mpr ⟨zw_134, List.forall_mem_cons.mpr ⟨zw_135, List.forall_mem_cons.mpr ⟨zw_136, List.forall_mem_cons.mpr ⟨zw_137, List.forall_mem_cons.mpr ⟨zw_138, List.forall_mem_cons.mpr ⟨zw_139, fun _ h => absurd h List.not_mem_nil⟩⟩⟩⟩⟩⟩⟩⟩⟩⟩⟩⟩⟩⟩⟩⟩⟩⟩⟩⟩
theorem zwc_7 : ∀ q ∈ zmt_7, Cond.code q.2.1 q.2.2.1 q.2.2.2.1 q.2.2.2.2 ∈ lw_tbl := List.forall_mem_cons.mpr ⟨zw_140, List.forall_mem_cons.mpr ⟨zw_141, List.forall_mem_cons.mpr ⟨zw_142, List.forall_mem_cons.mpr ⟨zw_143, List.forall_mem_cons.mpr ⟨zw_144, List.forall_mem_cons.mpr ⟨zw_145, List.forall_mem_cons.mpr ⟨zw_146, List.forall_mem_cons.mpr ⟨zw_147, List.forall_mem_cons.mpr ⟨zw_148, List.forall_mem_cons.mpr ⟨zw_149, List.forall_mem_cons.mpr ⟨zw_150, List.forall_mem_cons.mpr ⟨zw_151, List.forall_mem_cons.mpr ⟨zw_152, List.forall_mem_cons.mpr ⟨zw_153, List.forall_mem_cons.mpr ⟨zw_154, List.forall_mem_cons.mpr ⟨zw_155, List.forall_mem_cons.mpr ⟨zw_156, List.forall_mem_cons.mpr ⟨zw_157, List.forall_mem_cons.mpr ⟨zw_158, List.forall_mem_cons.mpr ⟨zw_159, fun _ h => absurd h List.not_mem_nil⟩⟩⟩⟩⟩⟩⟩⟩⟩⟩⟩⟩⟩⟩⟩⟩⟩⟩⟩⟩
theorem zwc_8 : ∀ q ∈ zmt_8, Cond.code q.2.1 q.2.2.1 q.2.2.2.1 q.2.2.2.2 ∈ lw_tbl := List.forall_mem_cons.mpr ⟨zw_160, List.forall_mem_cons.mpr ⟨zw_161, List.forall_mem_cons.mpr ⟨zw_162, List.forall_mem_cons.mpr ⟨zw_163, List.forall_mem_cons.mpr ⟨zw_164, List.forall_mem_cons.mpr ⟨zw_165, List.forall_mem_cons.mpr ⟨zw_166, List.forall_mem_cons.mpr ⟨zw_167, List.forall_mem_cons.mpr ⟨zw_168, List.forall_mem_cons.mpr ⟨zw_169, List.forall_mem_cons.mpr ⟨zw_170, List.forall_mem_cons.mpr ⟨zw_171, List.forall_mem_cons.mpr ⟨zw_172, List.forall_mem_cons.mpr ⟨zw_173, List.forall_mem_cons.mpr ⟨zw_174, List.forall_mem_cons.mpr ⟨zw_175, List.forall_mem_cons.mpr ⟨zw_176, List.forall_mem_cons.mpr ⟨zw_177, List.forall_mem_cons.mpr ⟨zw_178, List.forall_mem_cons.mpr ⟨zw_179, fun _ h => absurd h List.not_mem_nil⟩⟩⟩⟩⟩⟩⟩⟩⟩⟩⟩⟩⟩⟩⟩⟩⟩⟩⟩⟩
theorem zwc_9 : ∀ q ∈ zmt_9, Cond.code q.2.1 q.2.2.1 q.2.2.2.1 q.2.2.2.2 ∈ lw_tbl := List.forall_mem_cons.mpr ⟨zw_180, List.forall_mem_cons.mpr ⟨zw_181, List.forall_mem_cons.mpr ⟨zw_182, List.forall_mem_cons.mpr ⟨zw_183, List.forall_mem_cons.mpr ⟨zw_184, fun _ h => absurd h List.not_mem_nil⟩⟩⟩⟩⟩
theorem zwc : ∀ q ∈ zmt, Cond.code q.2.1 q.2.2.1 q.2.2.2.1 q.2.2.2.2 ∈ lw_tbl := List.forall_mem_append.mpr ⟨zwc_0, List.forall_mem_append.mpr ⟨zwc_1, List.forall_mem_append.mpr ⟨zwc_2, List.forall_mem_append.mpr ⟨zwc_3, List.forall_mem_append.mpr ⟨zwc_4, List.forall_mem_append.mpr ⟨zwc_5, List.forall_mem_append.mpr ⟨zwc_6, List.forall_mem_append.mpr ⟨zwc_7, List.forall_mem_append.mpr ⟨zwc_8, zwc_9⟩⟩⟩⟩⟩⟩⟩⟩⟩
/-- the words of the tables that a call may carry over -/
def zT : List Cond := lw_tbl.filter goodWord
theorem zT_in {w : Cond} (h : w ∈ lw_tbl) (g : goodWord w = true) : w ∈ zT := List.mem_filter.mpr ⟨h, g⟩
set_option maxRecDepth 100000 in
theorem zu_0 : (u_ws RX0 TX0 5).all (fun w => decide (w ∈ lw_tbl) && goodWord w) = true := by decide +kernel
set_option maxRecDepth 100000 in
theorem zu_1 : (u_ws RX1 TX1 13).all (fun w => decide (w ∈ lw_tbl) && goodWord w) = true := by decide +kernel
set_option maxRecDepth 100000 in
theorem zu_2 : (u_ws RX2 TX2 7).all (fun w => decide (w ∈ lw_tbl) && goodWord w) = true := by decide +kernel
set_option maxRecDepth 100000 in
theorem zu_3 : (u_ws RX3 TX3 3).all (fun w => decide (w ∈ lw_tbl) && goodWord w) = true := by decide +kernel
set_option maxRecDepth 100000 in
theorem zu_4 : (u_ws RX4 TX4 4).all (fun w => decide (w ∈ lw_tbl) && goodWord w) = true := by decide +kernel
set_option maxRecDepth 100000 in
theorem zu_5 : (u_ws RX5 TX5 3).all (fun w => decide (w ∈ lw_tbl) && goodWord w) = true := by decide +kernel
set_option maxRecDepth 100000 in
theorem zu_6 : (u_ws RX6 TX6 2).all (fun w => decide (w ∈ lw_tbl) && goodWord w) = true := by decide +kernel
set_option maxRecDepth 100000 in
theorem zu_7 : (u_ws RX7 TX7 6).all (fun w => decide (w ∈ lw_tbl) && goodWord w) = true := by decide +kernel
set_option maxRecDepth 100000 in
theorem zu_8 : (u_ws RX8 TX8 4).all (fun w => decide (w ∈ lw_tbl) && goodWord w) = true := by decide +kernel
set_option maxRecDepth 100000 in
theorem zu_9 : (u_ws RX9 TX9 12).all (fun w => decide (w ∈ lw_tbl) && goodWord w) = true := by decide +kernel
set_option maxRecDepth 100000 in
theorem zu_10 : (u_ws RX10 TX10 13).all (fun w => decide (w ∈ lw_tbl) && goodWord w) = true := by decide +kernel
set_option maxRecDepth 100000 in
theorem zu_11 : (u_ws RX11 TX11 25).all (fun w => decide (w ∈ lw_tbl) && goodWord w) = true := by decide +kernel
