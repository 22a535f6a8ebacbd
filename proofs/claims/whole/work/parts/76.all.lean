/-! ALL METHODS TOGETHER (printed by wip/gen8.py) -/
def Pm (p m : Nat) (o : Op) : Prop := ∀ (y : MethodName) (cc : ByteArray) (nL : Nat) (rt : Option FieldType) (d : Nat), mJ m = some (y, cc, nL, rt, d) → OS mJ y cc nL rt d p o
theorem lf {p k m : Nat} {t : Option Op} {y : MethodName} {cc : ByteArray} {nL : Nat} {rt : Option FieldType} {d : Nat} (e : mJ k = some (y, cc, nL, rt, d)) (h : ∀ o, t = some o → OS mJ y cc nL rt d p o) : ∀ o, (bif Nat.beq m k then t else none) = some o → Pm p m o := fun o h2 y' cc' nL' rt' d' e' => by
  cases hb : Nat.beq m k with
  | false => rw [hb] at h2; cases h2
  | true =>
    rw [hb] at h2
    rw [Nat.eq_of_beq_eq_true hb, e] at e'
    cases e'
    exact h o h2
theorem e_0 : mJ 0 = some (yy_X0_take, prog_2_method_2_code, 4, none, 3) := rfl
theorem e_1 : mJ 1 = some (yy_X0_putBack, prog_2_method_3_code, 3, none, 3) := rfl
theorem e_128 : mJ 128 = some (yy_X1_forget, prog_3_method_2_code, 1, none, 1) := rfl
theorem e_129 : mJ 129 = some (yy_X1_keep, prog_3_method_3_code, 4, none, 4) := rfl
theorem e_130 : mJ 130 = some (yy_X1_takeLast, prog_3_method_4_code, 1, (some (.object "SaltRooms$Act")), 1) := rfl
theorem e_256 : mJ 256 = some (yy_X2_free, prog_4_method_2_code, 1, (some .int), 1) := rfl
theorem e_257 : mJ 257 = some (yy_X2_take, prog_4_method_3_code, 5, none, 1) := rfl
theorem e_258 : mJ 258 = some (yy_X2_tell, prog_4_method_4_code, 2, (some .int), 8) := rfl
theorem e_259 : mJ 259 = some (yy_X2_read, prog_4_method_5_code, 2, none, 7) := rfl
theorem e_260 : mJ 260 = some (yy_X2_readPart, prog_4_method_6_code, 1, none, 6) := rfl
theorem e_261 : mJ 261 = some (yy_X2_byteAt, prog_4_method_12_code, 2, (some .int), 1) := rfl
theorem e_262 : mJ 262 = some (yy_X2_readBeds, prog_4_method_8_code, 4, none, 4) := rfl
theorem e_263 : mJ 263 = some (yy_X2_readCount, prog_4_method_11_code, 6, (some .int), 3) := rfl
theorem e_264 : mJ 264 = some (yy_X2_digitAt, prog_4_method_13_code, 3, (some .int), 2) := rfl
theorem e_265 : mJ 265 = some (yy_X2_readDirty, prog_4_method_7_code, 2, none, 5) := rfl
theorem e_266 : mJ 266 = some (yy_X2_openBracket, prog_4_method_9_code, 1, none, 1) := rfl
theorem e_267 : mJ 267 = some (yy_X2_closeBracket, prog_4_method_10_code, 5, none, 4) := rfl
theorem e_384 : mJ 384 = some (yy_X3_begin, prog_5_method_2_code, 4, none, 4) := rfl
theorem e_385 : mJ 385 = some (yy_X3_isWashable, prog_5_method_3_code, 1, (some .boolean), 1) := rfl
theorem e_386 : mJ 386 = some (yy_X3_isShelf, prog_5_method_15_code, 4, (some .boolean), 4) := rfl
theorem e_387 : mJ 387 = some (yy_X3_shapeTells, prog_5_method_4_code, 2, (some .int), 4) := rfl
theorem e_388 : mJ 388 = some (yy_X3_stockTells, prog_5_method_5_code, 2, (some .int), 8) := rfl
theorem e_389 : mJ 389 = some (yy_X3_pushNow, prog_5_method_9_code, 1, (some .int), 7) := rfl
theorem e_390 : mJ 390 = some (yy_X3_pushIn, prog_5_method_8_code, 2, (some .int), 6) := rfl
theorem e_391 : mJ 391 = some (yy_X3_pushOf, prog_5_method_7_code, 4, (some .int), 5) := rfl
theorem e_392 : mJ 392 = some (yy_X3_gasRoom, prog_5_method_6_code, 2, (some .int), 4) := rfl
theorem e_393 : mJ 393 = some (yy_X3_leastPush, prog_5_method_10_code, 1, (some .int), 1) := rfl
theorem e_394 : mJ 394 = some (yy_X3_mostPush, prog_5_method_11_code, 1, (some .int), 1) := rfl
theorem e_395 : mJ 395 = some (yy_X3_takes, prog_5_method_12_code, 5, (some .boolean), 4) := rfl
theorem e_396 : mJ 396 = some (yy_X3_marksHold, prog_5_method_13_code, 5, (some .boolean), 6) := rfl
theorem e_397 : mJ 397 = some (yy_X3_gapTo, prog_5_method_14_code, 3, (some .int), 4) := rfl
theorem e_398 : mJ 398 = some (yy_X3_letFall, prog_5_method_16_code, 5, (some .int), 4) := rfl
theorem e_399 : mJ 399 = some (yy_X3_measure, prog_5_method_17_code, 2, none, 4) := rfl
theorem e_400 : mJ 400 = some (yy_X3_isSeen, prog_5_method_18_code, 6, (some .boolean), 4) := rfl
theorem e_401 : mJ 401 = some (yy_X3_countSeen, prog_5_method_19_code, 5, (some .int), 5) := rfl
theorem e_512 : mJ 512 = some (yy_X4_add, prog_6_method_2_code, 6, none, 1) := rfl
theorem e_513 : mJ 513 = some (yy_X4_leakBound, prog_6_method_3_code, 7, (some .int), 2) := rfl
theorem e_640 : mJ 640 = some (yy_X5_add, prog_7_method_2_code, 4, none, 1) := rfl
theorem e_641 : mJ 641 = some (yy_X5_seek, prog_7_method_3_code, 5, none, 11) := rfl
theorem e_643 : mJ 643 = some (yy_X5_weigh, prog_7_method_5_code, 4, none, 3) := rfl
theorem e_644 : mJ 644 = some (yy_X5_bestAt, prog_7_method_6_code, 3, (some .int), 1) := rfl
theorem e_650 : mJ 650 = some (yy_X5_seekFrom, prog_7_method_4_code, 7, none, 10) := rfl
theorem e_651 : mJ 651 = some (yy_X5_seekFrom, prog_7_method_4_code, 7, none, 9) := rfl
theorem e_652 : mJ 652 = some (yy_X5_seekFrom, prog_7_method_4_code, 7, none, 8) := rfl
theorem e_653 : mJ 653 = some (yy_X5_seekFrom, prog_7_method_4_code, 7, none, 7) := rfl
theorem e_654 : mJ 654 = some (yy_X5_seekFrom, prog_7_method_4_code, 7, none, 6) := rfl
theorem e_655 : mJ 655 = some (yy_X5_seekFrom, prog_7_method_4_code, 7, none, 5) := rfl
theorem e_768 : mJ 768 = some (yy_X6_add, prog_8_method_2_code, 5, none, 1) := rfl
theorem e_769 : mJ 769 = some (yy_X6_findBounds, prog_8_method_3_code, 6, (some .boolean), 1) := rfl
theorem e_770 : mJ 770 = some (yy_X6_firstQuarrel, prog_8_method_4_code, 3, (some .int), 2) := rfl
theorem e_896 : mJ 896 = some (yy_X7_lawOf, prog_9_method_3_code, 3, (some .int), 1) := rfl
theorem e_897 : mJ 897 = some (yy_X7_kindAt, prog_9_method_4_code, 2, (some .int), 2) := rfl
theorem e_898 : mJ 898 = some (yy_X7_tenthsThatStay, prog_9_method_2_code, 3, (some .int), 3) := rfl
theorem e_1024 : mJ 1024 = some (yy_X8_begin, prog_10_method_2_code, 4, none, 3) := rfl
theorem e_1025 : mJ 1025 = some (yy_X8_hasLevel, prog_10_method_5_code, 2, (some .boolean), 2) := rfl
theorem e_1026 : mJ 1026 = some (yy_X8_hang, prog_10_method_4_code, 4, none, 1) := rfl
theorem e_1027 : mJ 1027 = some (yy_X8_isOpen, prog_10_method_6_code, 2, (some .boolean), 3) := rfl
theorem e_1028 : mJ 1028 = some (yy_X8_copyFrom, prog_10_method_3_code, 2, none, 2) := rfl
theorem e_1029 : mJ 1029 = some (yy_X8_reachAt, prog_10_method_8_code, 2, (some .int), 3) := rfl
theorem e_1030 : mJ 1030 = some (yy_X8_sizeAt, prog_10_method_7_code, 2, (some .int), 2) := rfl
theorem e_1031 : mJ 1031 = some (yy_X8_wash, prog_10_method_9_code, 11, (some .int), 4) := rfl
theorem e_1032 : mJ 1032 = some (yy_X8_lossAt, prog_10_method_10_code, 5, (some .int), 3) := rfl
theorem e_1033 : mJ 1033 = some (yy_X8_drop, prog_10_method_12_code, 2, none, 1) := rfl
theorem e_1034 : mJ 1034 = some (yy_X8_strengthOf, prog_10_method_11_code, 3, (some .int), 1) := rfl
theorem e_1035 : mJ 1035 = some (yy_X8_settle, prog_10_method_13_code, 2, none, 2) := rfl
theorem e_1036 : mJ 1036 = some (yy_X8_isWithin, prog_10_method_18_code, 3, (some .boolean), 2) := rfl
theorem e_1037 : mJ 1037 = some (yy_X8_allSizes, prog_10_method_16_code, 1, (some .int), 3) := rfl
theorem e_1038 : mJ 1038 = some (yy_X8_sizesDownTo, prog_10_method_17_code, 4, (some .int), 2) := rfl
theorem e_1039 : mJ 1039 = some (yy_X8_roomLeft, prog_10_method_15_code, 1, (some .int), 3) := rfl
theorem e_1040 : mJ 1040 = some (yy_X8_creep, prog_10_method_14_code, 6, (some .int), 3) := rfl
theorem e_1152 : mJ 1152 = some (yy_X9_copyFrom, prog_11_method_2_code, 2, none, 1) := rfl
theorem e_1153 : mJ 1153 = some (yy_X9_takesLotOf, prog_11_method_4_code, 2, (some .boolean), 2) := rfl
theorem e_1154 : mJ 1154 = some (yy_X9_isLastOf, prog_11_method_3_code, 2, (some .boolean), 1) := rfl
theorem e_1155 : mJ 1155 = some (yy_X9_addOil, prog_11_method_5_code, 3, none, 2) := rfl
theorem e_1156 : mJ 1156 = some (yy_X9_drawOil, prog_11_method_6_code, 8, none, 2) := rfl
theorem e_1157 : mJ 1157 = some (yy_X9_dropLots, prog_11_method_7_code, 3, none, 1) := rfl
theorem e_1158 : mJ 1158 = some (yy_X9_oilOf, prog_11_method_8_code, 4, (some .int), 1) := rfl
theorem e_1280 : mJ 1280 = some (yy_X10_mostBy, prog_12_method_2_code, 8, (some .int), 2) := rfl
theorem e_1281 : mJ 1281 = some (yy_X10_giversOf, prog_12_method_3_code, 4, (some .int), 1) := rfl
theorem e_1282 : mJ 1282 = some (yy_X10_provedBy, prog_12_method_4_code, 8, (some .int), 1) := rfl
theorem e_1408 : mJ 1408 = some (yy_X11_feed, prog_1_method_2_code, 4, (some .int), 2) := rfl
theorem e_1409 : mJ 1409 = some (yy_X11_refused, prog_1_method_45_code, 3, (some .int), 1) := rfl
theorem e_1410 : mJ 1410 = some (yy_X11_beds, prog_1_method_3_code, 2, (some .int), 9) := rfl
theorem e_1411 : mJ 1411 = some (yy_X11_bed, prog_1_method_4_code, 2, (some .int), 2) := rfl
theorem e_1412 : mJ 1412 = some (yy_X11_isLevel, prog_1_method_47_code, 1, (some .boolean), 1) := rfl
theorem e_1413 : mJ 1413 = some (yy_X11_cavern, prog_1_method_5_code, 5, (some .int), 5) := rfl
theorem e_1414 : mJ 1414 = some (yy_X11_outside, prog_1_method_46_code, 3, (some .int), 1) := rfl
theorem e_1415 : mJ 1415 = some (yy_X11_string, prog_1_method_6_code, 6, (some .int), 5) := rfl
theorem e_1416 : mJ 1416 = some (yy_X11_told, prog_1_method_48_code, 2, (some (.object "SaltRooms$Cavern")), 1) := rfl
theorem e_1417 : mJ 1417 = some (yy_X11_law, prog_1_method_7_code, 5, (some .int), 2) := rfl
theorem e_1418 : mJ 1418 = some (yy_X11_step, prog_1_method_8_code, 6, (some .int), 5) := rfl
theorem e_1419 : mJ 1419 = some (yy_X11_findLimits, prog_1_method_51_code, 8, none, 4) := rfl
theorem e_1420 : mJ 1420 = some (yy_X11_rootOf, prog_1_method_50_code, 4, (some .int), 1) := rfl
theorem e_1421 : mJ 1421 = some (yy_X11_half, prog_1_method_9_code, 6, (some .int), 5) := rfl
theorem e_1422 : mJ 1422 = some (yy_X11_ring, prog_1_method_10_code, 5, (some .int), 5) := rfl
theorem e_1423 : mJ 1423 = some (yy_X11_of, prog_1_method_11_code, 4, (some .int), 9) := rfl
theorem e_1424 : mJ 1424 = some (yy_X11_years, prog_1_method_12_code, 3, (some .int), 9) := rfl
theorem e_1425 : mJ 1425 = some (yy_X11_passYear, prog_1_method_52_code, 3, none, 8) := rfl
theorem e_1426 : mJ 1426 = some (yy_X11_creepOf, prog_1_method_49_code, 5, (some .int), 1) := rfl
theorem e_1427 : mJ 1427 = some (yy_X11_set, prog_1_method_13_code, 5, (some .int), 2) := rfl
theorem e_1428 : mJ 1428 = some (yy_X11_between, prog_1_method_14_code, 11, (some .int), 8) := rfl
theorem e_1429 : mJ 1429 = some (yy_X11_fill, prog_1_method_15_code, 9, (some .int), 7) := rfl
theorem e_1430 : mJ 1430 = some (yy_X11_owner, prog_1_method_16_code, 3, (some .int), 2) := rfl
theorem e_1431 : mJ 1431 = some (yy_X11_has, prog_1_method_17_code, 6, (some .int), 2) := rfl
theorem e_1432 : mJ 1432 = some (yy_X11_spread, prog_1_method_18_code, 4, (some .int), 2) := rfl
theorem e_1433 : mJ 1433 = some (yy_X11_sinks, prog_1_method_19_code, 2, (some .int), 3) := rfl
theorem e_1434 : mJ 1434 = some (yy_X11_worstMark, prog_1_method_54_code, 5, (some .int), 2) := rfl
theorem e_1435 : mJ 1435 = some (yy_X11_sinkingAt, prog_1_method_53_code, 6, (some .int), 1) := rfl
theorem e_1436 : mJ 1436 = some (yy_X11_close, prog_1_method_20_code, 3, (some .int), 2) := rfl
theorem e_1437 : mJ 1437 = some (yy_X11_giveUp, prog_1_method_21_code, 3, (some .int), 2) := rfl
theorem e_1438 : mJ 1438 = some (yy_X11_breach, prog_1_method_22_code, 6, (some .int), 7) := rfl
theorem e_1439 : mJ 1439 = some (yy_X11_wall, prog_1_method_23_code, 6, (some .int), 5) := rfl
theorem e_1440 : mJ 1440 = some (yy_X11_near, prog_1_method_24_code, 9, (some .int), 5) := rfl
theorem e_1441 : mJ 1441 = some (yy_X11_fall, prog_1_method_25_code, 5, (some .int), 5) := rfl
theorem e_1442 : mJ 1442 = some (yy_X11_mend, prog_1_method_26_code, 3, (some .int), 2) := rfl
theorem e_1443 : mJ 1443 = some (yy_X11_hidden, prog_1_method_27_code, 6, (some .int), 6) := rfl
theorem e_1444 : mJ 1444 = some (yy_X11_isSeenFromAny, prog_1_method_55_code, 4, (some .boolean), 5) := rfl
theorem e_1445 : mJ 1445 = some (yy_X11_reading, prog_1_method_28_code, 6, (some .int), 3) := rfl
theorem e_1446 : mJ 1446 = some (yy_X11_bounds, prog_1_method_29_code, 5, (some .int), 3) := rfl
theorem e_1447 : mJ 1447 = some (yy_X11_quarrel, prog_1_method_30_code, 2, (some .int), 3) := rfl
theorem e_1448 : mJ 1448 = some (yy_X11_nextEcho, prog_1_method_31_code, 10, (some .int), 6) := rfl
theorem e_1449 : mJ 1449 = some (yy_X11_ringsInDoubt, prog_1_method_56_code, 6, (some .int), 2) := rfl
theorem e_1450 : mJ 1450 = some (yy_X11_test, prog_1_method_32_code, 8, (some .int), 2) := rfl
theorem e_1451 : mJ 1451 = some (yy_X11_leak, prog_1_method_33_code, 4, (some .int), 3) := rfl
theorem e_1452 : mJ 1452 = some (yy_X11_howLong, prog_1_method_34_code, 6, (some .int), 2) := rfl
theorem e_1453 : mJ 1453 = some (yy_X11_need, prog_1_method_35_code, 5, (some .int), 2) := rfl
theorem e_1454 : mJ 1454 = some (yy_X11_gives, prog_1_method_36_code, 6, (some .int), 2) := rfl
theorem e_1455 : mJ 1455 = some (yy_X11_given, prog_1_method_37_code, 3, (some .int), 3) := rfl
theorem e_1456 : mJ 1456 = some (yy_X11_proof, prog_1_method_38_code, 2, (some .int), 3) := rfl
theorem e_1457 : mJ 1457 = some (yy_X11_aim, prog_1_method_39_code, 5, (some .int), 2) := rfl
theorem e_1458 : mJ 1458 = some (yy_X11_choice, prog_1_method_40_code, 5, (some .int), 2) := rfl
theorem e_1459 : mJ 1459 = some (yy_X11_noChoices, prog_1_method_41_code, 2, (some .int), 1) := rfl
theorem e_1460 : mJ 1460 = some (yy_X11_plan, prog_1_method_42_code, 6, (some .int), 12) := rfl
theorem e_1461 : mJ 1461 = some (yy_X11_undo, prog_1_method_43_code, 3, (some .int), 4) := rfl
theorem e_1462 : mJ 1462 = some (yy_X11_count, prog_1_method_44_code, 2, (some .int), 2) := rfl
theorem e_1463 : mJ 1463 = some (yy_X11_allOut, prog_1_method_57_code, 3, (some .int), 1) := rfl
theorem e_1464 : mJ 1464 = some (yy_X11_allFallen, prog_1_method_58_code, 3, (some .int), 1) := rfl
theorem e_1536 : mJ 1536 = some (yy_X12_feed, prog_14_method_6_code, 6, (some .int), 2) := rfl
theorem e_1537 : mJ 1537 = some (yy_X12_out, prog_14_method_5_code, 6, (some .int), 1) := rfl
theorem e_1538 : mJ 1538 = some (yy_X12_no, prog_14_method_2_code, 2, (some .int), 1) := rfl
theorem e_1539 : mJ 1539 = some (yy_X12_beds, prog_14_method_13_code, 3, (some .int), 6) := rfl
theorem e_1540 : mJ 1540 = some (yy_X12_parses, prog_14_method_12_code, 3, (some .boolean), 5) := rfl
theorem e_1541 : mJ 1541 = some (yy_X12_sign, prog_14_method_7_code, 1, (some .int), 1) := rfl
theorem e_1542 : mJ 1542 = some (yy_X12_item, prog_14_method_10_code, 4, (some .boolean), 4) := rfl
theorem e_1543 : mJ 1543 = some (yy_X12_isDigit, prog_14_method_8_code, 1, (some .boolean), 2) := rfl
theorem e_1544 : mJ 1544 = some (yy_X12_count, prog_14_method_9_code, 5, (some .int), 3) := rfl
theorem e_1545 : mJ 1545 = some (yy_X12_closes, prog_14_method_11_code, 5, (some .boolean), 4) := rfl
theorem e_1546 : mJ 1546 = some (yy_X12_forgets, prog_14_method_91_code, 1, none, 1) := rfl
theorem e_1547 : mJ 1547 = some (yy_X12_bed, prog_14_method_14_code, 2, (some .int), 2) := rfl
theorem e_1548 : mJ 1548 = some (yy_X12_isIn, prog_14_method_4_code, 6, (some .boolean), 1) := rfl
theorem e_1549 : mJ 1549 = some (yy_X12_cavern, prog_14_method_21_code, 7, (some .int), 2) := rfl
theorem e_1550 : mJ 1550 = some (yy_X12_set, prog_14_method_17_code, 4, none, 1) := rfl
theorem e_1551 : mJ 1551 = some (yy_X12_string, prog_14_method_23_code, 5, (some .int), 4) := rfl
theorem e_1552 : mJ 1552 = some (yy_X12_isCavern, prog_14_method_15_code, 2, (some .boolean), 1) := rfl
theorem e_1553 : mJ 1553 = some (yy_X12_isFree, prog_14_method_24_code, 3, (some .boolean), 3) := rfl
theorem e_1554 : mJ 1554 = some (yy_X12_isRing, prog_14_method_19_code, 3, (some .boolean), 1) := rfl
theorem e_1555 : mJ 1555 = some (yy_X12_isFull, prog_14_method_20_code, 3, (some .boolean), 2) := rfl
theorem e_1556 : mJ 1556 = some (yy_X12_get, prog_14_method_16_code, 3, (some .int), 1) := rfl
theorem e_1557 : mJ 1557 = some (yy_X12_state, prog_14_method_22_code, 2, (some .int), 2) := rfl
theorem e_1558 : mJ 1558 = some (yy_X12_keeps, prog_14_method_92_code, 3, none, 2) := rfl
theorem e_1559 : mJ 1559 = some (yy_X12_law, prog_14_method_25_code, 5, (some .int), 2) := rfl
theorem e_1560 : mJ 1560 = some (yy_X12_step, prog_14_method_35_code, 8, (some .int), 4) := rfl
theorem e_1561 : mJ 1561 = some (yy_X12_notWashed, prog_14_method_34_code, 2, (some .int), 3) := rfl
theorem e_1562 : mJ 1562 = some (yy_X12_holds, prog_14_method_32_code, 3, none, 2) := rfl
theorem e_1563 : mJ 1563 = some (yy_X12_washes, prog_14_method_27_code, 10, (some .int), 3) := rfl
theorem e_1564 : mJ 1564 = some (yy_X12_more, prog_14_method_18_code, 4, none, 1) := rfl
theorem e_1565 : mJ 1565 = some (yy_X12_settles, prog_14_method_26_code, 4, none, 2) := rfl
theorem e_1566 : mJ 1566 = some (yy_X12_isThin, prog_14_method_31_code, 4, (some .boolean), 3) := rfl
theorem e_1567 : mJ 1567 = some (yy_X12_wallOf, prog_14_method_30_code, 4, (some .int), 2) := rfl
theorem e_1568 : mJ 1568 = some (yy_X12_away, prog_14_method_29_code, 1, (some .int), 1) := rfl
theorem e_1569 : mJ 1569 = some (yy_X12_root, prog_14_method_28_code, 2, (some .int), 1) := rfl
theorem e_1570 : mJ 1570 = some (yy_X12_putsBack, prog_14_method_33_code, 3, none, 2) := rfl
theorem e_1571 : mJ 1571 = some (yy_X12_half, prog_14_method_37_code, 6, (some .int), 4) := rfl
theorem e_1572 : mJ 1572 = some (yy_X12_sizes, prog_14_method_36_code, 4, (some .int), 2) := rfl
theorem e_1573 : mJ 1573 = some (yy_X12_ring, prog_14_method_39_code, 4, (some .int), 4) := rfl
theorem e_1574 : mJ 1574 = some (yy_X12_isShelf, prog_14_method_38_code, 3, (some .boolean), 3) := rfl
theorem e_1575 : mJ 1575 = some (yy_X12_of, prog_14_method_45_code, 3, (some .int), 5) := rfl
theorem e_1576 : mJ 1576 = some (yy_X12_room, prog_14_method_40_code, 4, (some .int), 2) := rfl
theorem e_1577 : mJ 1577 = some (yy_X12_push, prog_14_method_42_code, 3, (some .int), 4) := rfl
theorem e_1578 : mJ 1578 = some (yy_X12_free, prog_14_method_41_code, 3, (some .int), 3) := rfl
theorem e_1579 : mJ 1579 = some (yy_X12_least, prog_14_method_43_code, 2, (some .int), 1) := rfl
theorem e_1580 : mJ 1580 = some (yy_X12_most, prog_14_method_44_code, 2, (some .int), 1) := rfl
theorem e_1581 : mJ 1581 = some (yy_X12_years, prog_14_method_48_code, 5, (some .int), 6) := rfl
theorem e_1582 : mJ 1582 = some (yy_X12_creep, prog_14_method_47_code, 6, none, 5) := rfl
theorem e_1583 : mJ 1583 = some (yy_X12_creeps, prog_14_method_46_code, 6, (some .int), 1) := rfl
theorem e_1584 : mJ 1584 = some (yy_X12_set_, prog_14_method_49_code, 5, (some .int), 2) := rfl
theorem e_1585 : mJ 1585 = some (yy_X12_between, prog_14_method_50_code, 9, (some .int), 5) := rfl
theorem e_1586 : mJ 1586 = some (yy_X12_fill, prog_14_method_54_code, 10, (some .int), 5) := rfl
theorem e_1587 : mJ 1587 = some (yy_X12_lastLot, prog_14_method_51_code, 2, (some .int), 2) := rfl
theorem e_1588 : mJ 1588 = some (yy_X12_oilIn, prog_14_method_52_code, 4, none, 3) := rfl
theorem e_1589 : mJ 1589 = some (yy_X12_oilOut, prog_14_method_53_code, 6, none, 3) := rfl
theorem e_1590 : mJ 1590 = some (yy_X12_owner, prog_14_method_55_code, 3, (some .int), 2) := rfl
theorem e_1591 : mJ 1591 = some (yy_X12_has, prog_14_method_56_code, 7, (some .int), 3) := rfl
theorem e_1592 : mJ 1592 = some (yy_X12_spread, prog_14_method_57_code, 4, (some .int), 2) := rfl
theorem e_1593 : mJ 1593 = some (yy_X12_sinks, prog_14_method_59_code, 4, (some .int), 3) := rfl
theorem e_1594 : mJ 1594 = some (yy_X12_sunk, prog_14_method_58_code, 5, (some .int), 2) := rfl
theorem e_1595 : mJ 1595 = some (yy_X12_close, prog_14_method_60_code, 2, (some .int), 3) := rfl
theorem e_1596 : mJ 1596 = some (yy_X12_giveUp, prog_14_method_61_code, 2, (some .int), 3) := rfl
theorem e_1597 : mJ 1597 = some (yy_X12_breach, prog_14_method_62_code, 5, (some .int), 6) := rfl
theorem e_1598 : mJ 1598 = some (yy_X12_wall, prog_14_method_63_code, 4, (some .int), 3) := rfl
theorem e_1599 : mJ 1599 = some (yy_X12_lower, prog_14_method_3_code, 2, (some .int), 1) := rfl
theorem e_1600 : mJ 1600 = some (yy_X12_near, prog_14_method_64_code, 7, (some .int), 3) := rfl
theorem e_1601 : mJ 1601 = some (yy_X12_fall, prog_14_method_65_code, 5, (some .int), 4) := rfl
theorem e_1602 : mJ 1602 = some (yy_X12_mend, prog_14_method_66_code, 2, (some .int), 2) := rfl
theorem e_1603 : mJ 1603 = some (yy_X12_hidden, prog_14_method_68_code, 7, (some .int), 5) := rfl
theorem e_1604 : mJ 1604 = some (yy_X12_isSeen, prog_14_method_67_code, 8, (some .boolean), 4) := rfl
theorem e_1605 : mJ 1605 = some (yy_X12_reading, prog_14_method_69_code, 6, (some .int), 2) := rfl
theorem e_1606 : mJ 1606 = some (yy_X12_bounds, prog_14_method_71_code, 4, (some .int), 2) := rfl
theorem e_1607 : mJ 1607 = some (yy_X12_findBounds, prog_14_method_70_code, 8, (some .boolean), 1) := rfl
theorem e_1608 : mJ 1608 = some (yy_X12_quarrel, prog_14_method_72_code, 3, (some .int), 2) := rfl
theorem e_1609 : mJ 1609 = some (yy_X12_nextEcho, prog_14_method_73_code, 9, (some .int), 5) := rfl
theorem e_1610 : mJ 1610 = some (yy_X12_test, prog_14_method_74_code, 9, (some .int), 2) := rfl
theorem e_1611 : mJ 1611 = some (yy_X12_leak, prog_14_method_76_code, 5, (some .int), 3) := rfl
theorem e_1612 : mJ 1612 = some (yy_X12_fits, prog_14_method_75_code, 6, (some .boolean), 2) := rfl
theorem e_1613 : mJ 1613 = some (yy_X12_howLong, prog_14_method_77_code, 6, (some .int), 2) := rfl
theorem e_1614 : mJ 1614 = some (yy_X12_need, prog_14_method_78_code, 5, (some .int), 2) := rfl
theorem e_1615 : mJ 1615 = some (yy_X12_gives, prog_14_method_79_code, 5, (some .int), 2) := rfl
theorem e_1616 : mJ 1616 = some (yy_X12_given, prog_14_method_83_code, 2, (some .int), 6) := rfl
theorem e_1617 : mJ 1617 = some (yy_X12_upTo, prog_14_method_82_code, 2, (some .int), 5) := rfl
theorem e_1618 : mJ 1618 = some (yy_X12_leastCut, prog_14_method_81_code, 5, (some .int), 4) := rfl
theorem e_1619 : mJ 1619 = some (yy_X12_cut, prog_14_method_80_code, 6, (some .int), 3) := rfl
theorem e_1620 : mJ 1620 = some (yy_X12_proof, prog_14_method_84_code, 2, (some .int), 5) := rfl
theorem e_1621 : mJ 1621 = some (yy_X12_aim, prog_14_method_85_code, 5, (some .int), 2) := rfl
theorem e_1622 : mJ 1622 = some (yy_X12_choice, prog_14_method_86_code, 5, (some .int), 2) := rfl
theorem e_1623 : mJ 1623 = some (yy_X12_noChoices, prog_14_method_87_code, 2, (some .int), 1) := rfl
theorem e_1624 : mJ 1624 = some (yy_X12_plan, prog_14_method_90_code, 10, (some .int), 5) := rfl
theorem e_1625 : mJ 1625 = some (yy_X12_power, prog_14_method_88_code, 4, (some .int), 1) := rfl
theorem e_1626 : mJ 1626 = some (yy_X12_offBy, prog_14_method_89_code, 6, (some .int), 4) := rfl
theorem e_1627 : mJ 1627 = some (yy_X12_undo, prog_14_method_93_code, 3, (some .int), 2) := rfl
theorem e_1628 : mJ 1628 = some (yy_X12_count_, prog_14_method_94_code, 4, (some .int), 2) := rfl
theorem e_1664 : mJ 1664 = some (yy_J9_floorDiv_7cf53, prog_15_method_47_code, 3, (some .int), 1) := rfl
theorem all_tb (m p : Nat) : ∀ o, TB m p = some o → Pm p m o := tr_c (tr_c (tr_c (tr_c (tr_c (tr_c (tr_c (lf e_0 (a_0 p)) (tr_c (lf e_1 (a_1 p)) (lf e_128 (a_128 p)))) (tr_c (tr_c (lf e_129 (a_129 p)) (lf e_130 (a_130 p))) (tr_c (lf e_256 (a_256 p)) (lf e_257 (a_257 p))))) (tr_c (tr_c (lf e_258 (a_258 p)) (tr_c (lf e_259 (a_259 p)) (lf e_260 (a_260 p)))) (tr_c (tr_c (lf e_261 (a_261 p)) (lf e_262 (a_262 p))) (tr_c (lf e_263 (a_263 p)) (lf e_264 (a_264 p)))))) (tr_c (tr_c (tr_c (lf e_265 (a_265 p)) (tr_c (lf e_266 (a_266 p)) (lf e_267 (a_267 p)))) (tr_c (tr_c (lf e_384 (a_384 p)) (lf e_385 (a_385 p))) (tr_c (lf e_386 (a_386 p)) (lf e_387 (a_387 p))))) (tr_c (tr_c (lf e_388 (a_388 p)) (tr_c (lf e_389 (a_389 p)) (lf e_390 (a_390 p)))) (tr_c (tr_c (lf e_391 (a_391 p)) (lf e_392 (a_392 p))) (tr_c (lf e_393 (a_393 p)) (lf e_394 (a_394 p))))))) (tr_c (tr_c (tr_c (tr_c (lf e_395 (a_395 p)) (tr_c (lf e_396 (a_396 p)) (lf e_397 (a_397 p)))) (tr_c (tr_c (lf e_398 (a_398 p)) (lf e_399 (a_399 p))) (tr_c (lf e_400 (a_400 p)) (lf e_401 (a_401 p))))) (tr_c (tr_c (lf e_512 (a_512 p)) (tr_c (lf e_513 (a_513 p)) (lf e_640 (a_640 p)))) (tr_c (tr_c (lf e_641 (a_641 p)) (lf e_643 (a_643 p))) (tr_c (lf e_644 (a_644 p)) (lf e_650 (a_650 p)))))) (tr_c (tr_c (tr_c (lf e_651 (a_651 p)) (tr_c (lf e_652 (a_652 p)) (lf e_653 (a_653 p)))) (tr_c (tr_c (lf e_654 (a_654 p)) (lf e_655 (a_655 p))) (tr_c (lf e_768 (a_768 p)) (lf e_769 (a_769 p))))) (tr_c (tr_c (tr_c (lf e_770 (a_770 p)) (lf e_896 (a_896 p))) (tr_c (lf e_897 (a_897 p)) (lf e_898 (a_898 p)))) (tr_c (tr_c (lf e_1024 (a_1024 p)) (lf e_1025 (a_1025 p))) (tr_c (lf e_1026 (a_1026 p)) (lf e_1027 (a_1027 p)))))))) (tr_c (tr_c (tr_c (tr_c (tr_c (lf e_1028 (a_1028 p)) (tr_c (lf e_1029 (a_1029 p)) (lf e_1030 (a_1030 p)))) (tr_c (tr_c (lf e_1031 (a_1031 p)) (lf e_1032 (a_1032 p))) (tr_c (lf e_1033 (a_1033 p)) (lf e_1034 (a_1034 p))))) (tr_c (tr_c (lf e_1035 (a_1035 p)) (tr_c (lf e_1036 (a_1036 p)) (lf e_1037 (a_1037 p)))) (tr_c (tr_c (lf e_1038 (a_1038 p)) (lf e_1039 (a_1039 p))) (tr_c (lf e_1040 (a_1040 p)) (lf e_1152 (a_1152 p)))))) (tr_c (tr_c (tr_c (lf e_1153 (a_1153 p)) (tr_c (lf e_1154 (a_1154 p)) (lf e_1155 (a_1155 p)))) (tr_c (tr_c (lf e_1156 (a_1156 p)) (lf e_1157 (a_1157 p))) (tr_c (lf e_1158 (a_1158 p)) (lf e_1280 (a_1280 p))))) (tr_c (tr_c (tr_c (lf e_1281 (a_1281 p)) (lf e_1282 (a_1282 p))) (tr_c (lf e_1408 (a_1408 p)) (lf e_1409 (a_1409 p)))) (tr_c (tr_c (lf e_1410 (a_1410 p)) (lf e_1411 (a_1411 p))) (tr_c (lf e_1412 (a_1412 p)) (lf e_1413 (a_1413 p))))))) (tr_c (tr_c (tr_c (tr_c (lf e_1414 (a_1414 p)) (tr_c (lf e_1415 (a_1415 p)) (lf e_1416 (a_1416 p)))) (tr_c (tr_c (lf e_1417 (a_1417 p)) (lf e_1418 (a_1418 p))) (tr_c (lf e_1419 (a_1419 p)) (lf e_1420 (a_1420 p))))) (tr_c (tr_c (lf e_1421 (a_1421 p)) (tr_c (lf e_1422 (a_1422 p)) (lf e_1423 (a_1423 p)))) (tr_c (tr_c (lf e_1424 (a_1424 p)) (lf e_1425 (a_1425 p))) (tr_c (lf e_1426 (a_1426 p)) (lf e_1427 (a_1427 p)))))) (tr_c (tr_c (tr_c (lf e_1428 (a_1428 p)) (tr_c (lf e_1429 (a_1429 p)) (lf e_1430 (a_1430 p)))) (tr_c (tr_c (lf e_1431 (a_1431 p)) (lf e_1432 (a_1432 p))) (tr_c (lf e_1433 (a_1433 p)) (lf e_1434 (a_1434 p))))) (tr_c (tr_c (tr_c (lf e_1435 (a_1435 p)) (lf e_1436 (a_1436 p))) (tr_c (lf e_1437 (a_1437 p)) (lf e_1438 (a_1438 p)))) (tr_c (tr_c (lf e_1439 (a_1439 p)) (lf e_1440 (a_1440 p))) (tr_c (lf e_1441 (a_1441 p)) (lf e_1442 (a_1442 p))))))))) (tr_c (tr_c (tr_c (tr_c (tr_c (tr_c (lf e_1443 (a_1443 p)) (tr_c (lf e_1444 (a_1444 p)) (lf e_1445 (a_1445 p)))) (tr_c (tr_c (lf e_1446 (a_1446 p)) (lf e_1447 (a_1447 p))) (tr_c (lf e_1448 (a_1448 p)) (lf e_1449 (a_1449 p))))) (tr_c (tr_c (lf e_1450 (a_1450 p)) (tr_c (lf e_1451 (a_1451 p)) (lf e_1452 (a_1452 p)))) (tr_c (tr_c (lf e_1453 (a_1453 p)) (lf e_1454 (a_1454 p))) (tr_c (lf e_1455 (a_1455 p)) (lf e_1456 (a_1456 p)))))) (tr_c (tr_c (tr_c (lf e_1457 (a_1457 p)) (tr_c (lf e_1458 (a_1458 p)) (lf e_1459 (a_1459 p)))) (tr_c (tr_c (lf e_1460 (a_1460 p)) (lf e_1461 (a_1461 p))) (tr_c (lf e_1462 (a_1462 p)) (lf e_1463 (a_1463 p))))) (tr_c (tr_c (tr_c (lf e_1464 (a_1464 p)) (lf e_1536 (a_1536 p))) (tr_c (lf e_1537 (a_1537 p)) (lf e_1538 (a_1538 p)))) (tr_c (tr_c (lf e_1539 (a_1539 p)) (lf e_1540 (a_1540 p))) (tr_c (lf e_1541 (a_1541 p)) (lf e_1542 (a_1542 p))))))) (tr_c (tr_c (tr_c (tr_c (lf e_1543 (a_1543 p)) (tr_c (lf e_1544 (a_1544 p)) (lf e_1545 (a_1545 p)))) (tr_c (tr_c (lf e_1546 (a_1546 p)) (lf e_1547 (a_1547 p))) (tr_c (lf e_1548 (a_1548 p)) (lf e_1549 (a_1549 p))))) (tr_c (tr_c (lf e_1550 (a_1550 p)) (tr_c (lf e_1551 (a_1551 p)) (lf e_1552 (a_1552 p)))) (tr_c (tr_c (lf e_1553 (a_1553 p)) (lf e_1554 (a_1554 p))) (tr_c (lf e_1555 (a_1555 p)) (lf e_1556 (a_1556 p)))))) (tr_c (tr_c (tr_c (lf e_1557 (a_1557 p)) (tr_c (lf e_1558 (a_1558 p)) (lf e_1559 (a_1559 p)))) (tr_c (tr_c (lf e_1560 (a_1560 p)) (lf e_1561 (a_1561 p))) (tr_c (lf e_1562 (a_1562 p)) (lf e_1563 (a_1563 p))))) (tr_c (tr_c (tr_c (lf e_1564 (a_1564 p)) (lf e_1565 (a_1565 p))) (tr_c (lf e_1566 (a_1566 p)) (lf e_1567 (a_1567 p)))) (tr_c (tr_c (lf e_1568 (a_1568 p)) (lf e_1569 (a_1569 p))) (tr_c (lf e_1570 (a_1570 p)) (lf e_1571 (a_1571 p)))))))) (tr_c (tr_c (tr_c (tr_c (tr_c (lf e_1572 (a_1572 p)) (tr_c (lf e_1573 (a_1573 p)) (lf e_1574 (a_1574 p)))) (tr_c (tr_c (lf e_1575 (a_1575 p)) (lf e_1576 (a_1576 p))) (tr_c (lf e_1577 (a_1577 p)) (lf e_1578 (a_1578 p))))) (tr_c (tr_c (lf e_1579 (a_1579 p)) (tr_c (lf e_1580 (a_1580 p)) (lf e_1581 (a_1581 p)))) (tr_c (tr_c (lf e_1582 (a_1582 p)) (lf e_1583 (a_1583 p))) (tr_c (lf e_1584 (a_1584 p)) (lf e_1585 (a_1585 p)))))) (tr_c (tr_c (tr_c (lf e_1586 (a_1586 p)) (tr_c (lf e_1587 (a_1587 p)) (lf e_1588 (a_1588 p)))) (tr_c (tr_c (lf e_1589 (a_1589 p)) (lf e_1590 (a_1590 p))) (tr_c (lf e_1591 (a_1591 p)) (lf e_1592 (a_1592 p))))) (tr_c (tr_c (tr_c (lf e_1593 (a_1593 p)) (lf e_1594 (a_1594 p))) (tr_c (lf e_1595 (a_1595 p)) (lf e_1596 (a_1596 p)))) (tr_c (tr_c (lf e_1597 (a_1597 p)) (lf e_1598 (a_1598 p))) (tr_c (lf e_1599 (a_1599 p)) (lf e_1600 (a_1600 p))))))) (tr_c (tr_c (tr_c (tr_c (lf e_1601 (a_1601 p)) (tr_c (lf e_1602 (a_1602 p)) (lf e_1603 (a_1603 p)))) (tr_c (tr_c (lf e_1604 (a_1604 p)) (lf e_1605 (a_1605 p))) (tr_c (lf e_1606 (a_1606 p)) (lf e_1607 (a_1607 p))))) (tr_c (tr_c (lf e_1608 (a_1608 p)) (tr_c (lf e_1609 (a_1609 p)) (lf e_1610 (a_1610 p)))) (tr_c (tr_c (lf e_1611 (a_1611 p)) (lf e_1612 (a_1612 p))) (tr_c (lf e_1613 (a_1613 p)) (lf e_1614 (a_1614 p)))))) (tr_c (tr_c (tr_c (lf e_1615 (a_1615 p)) (tr_c (lf e_1616 (a_1616 p)) (lf e_1617 (a_1617 p)))) (tr_c (tr_c (lf e_1618 (a_1618 p)) (lf e_1619 (a_1619 p))) (tr_c (lf e_1620 (a_1620 p)) (lf e_1621 (a_1621 p))))) (tr_c (tr_c (tr_c (lf e_1622 (a_1622 p)) (lf e_1623 (a_1623 p))) (tr_c (lf e_1624 (a_1624 p)) (lf e_1625 (a_1625 p)))) (tr_c (tr_c (lf e_1626 (a_1626 p)) (lf e_1627 (a_1627 p))) (tr_c (lf e_1628 (a_1628 p)) (lf e_1664 (a_1664 p)))))))))
theorem all_os (m pc : Nat) (o : Op) (y : MethodName) (cc : ByteArray) (nL : Nat) (rt : Option FieldType) (d : Nat) (e : mJ m = some (y, cc, nL, rt, d)) (h : TB m pc = some o) : OS mJ y cc nL rt d pc o := all_tb m pc o h y cc nL rt d e
abbrev MIt : Type := MethodName × ByteArray × Nat × Option FieldType × Nat
def Pn (v : MIt) : Prop := plainFor v.1 = true
theorem pn_c {b : Bool} {x y : Option MIt} (hx : ∀ v, x = some v → Pn v) (hy : ∀ v, y = some v → Pn v) : ∀ v, (bif b then x else y) = some v → Pn v := fun v h => by
  cases b with
  | true => exact hx v h
  | false => exact hy v h
theorem pn_l {b : Bool} {w : MIt} (h : plainFor w.1 = true) : ∀ v, (bif b then some w else none) = some v → Pn v := fun v h2 => by
  cases b with
  | false => cases h2
  | true => cases h2; exact h
theorem pl_X0 : plainName "SaltRooms$Act" = true := by decide
theorem pl_X1 : plainName "SaltRooms$Acts" = true := by decide
theorem pl_X2 : plainName "SaltRooms$BedText" = true := by decide
theorem pl_X3 : plainName "SaltRooms$Cavern" = true := by decide
theorem pl_X4 : plainName "SaltRooms$LeakTests" = true := by decide
theorem pl_X5 : plainName "SaltRooms$Planner" = true := by decide
theorem pl_X6 : plainName "SaltRooms$Readings" = true := by decide
theorem pl_X7 : plainName "SaltRooms$Rock" = true := by decide
theorem pl_X8 : plainName "SaltRooms$Shape" = true := by decide
theorem pl_X9 : plainName "SaltRooms$Stock" = true := by decide
theorem pl_X10 : plainName "SaltRooms$Winter" = true := by decide
theorem pl_X11 : plainName "SaltRooms" = true := by decide
theorem pl_X12 : plainName "SaltRoomsModel" = true := by decide
theorem pl_J9 : plainFor yy_J9_floorDiv_7cf53 = true := by decide +kernel
theorem all_pn (m : Nat) : ∀ v, mJ m = some v → Pn v := pn_c (pn_c (pn_c (pn_c (pn_c (pn_c (pn_c (pn_l (plainFor_of_name pl_X0)) (pn_c (pn_l (plainFor_of_name pl_X0)) (pn_l (plainFor_of_name pl_X1)))) (pn_c (pn_c (pn_l (plainFor_of_name pl_X1)) (pn_l (plainFor_of_name pl_X1))) (pn_c (pn_l (plainFor_of_name pl_X2)) (pn_l (plainFor_of_name pl_X2))))) (pn_c (pn_c (pn_l (plainFor_of_name pl_X2)) (pn_c (pn_l (plainFor_of_name pl_X2)) (pn_l (plainFor_of_name pl_X2)))) (pn_c (pn_c (pn_l (plainFor_of_name pl_X2)) (pn_l (plainFor_of_name pl_X2))) (pn_c (pn_l (plainFor_of_name pl_X2)) (pn_l (plainFor_of_name pl_X2)))))) (pn_c (pn_c (pn_c (pn_l (plainFor_of_name pl_X2)) (pn_c (pn_l (plainFor_of_name pl_X2)) (pn_l (plainFor_of_name pl_X2)))) (pn_c (pn_c (pn_l (plainFor_of_name pl_X3)) (pn_l (plainFor_of_name pl_X3))) (pn_c (pn_l (plainFor_of_name pl_X3)) (pn_l (plainFor_of_name pl_X3))))) (pn_c (pn_c (pn_c (pn_l (plainFor_of_name pl_X3)) (pn_l (plainFor_of_name pl_X3))) (pn_c (pn_l (plainFor_of_name pl_X3)) (pn_l (plainFor_of_name pl_X3)))) (pn_c (pn_c (pn_l (plainFor_of_name pl_X3)) (pn_l (plainFor_of_name pl_X3))) (pn_c (pn_l (plainFor_of_name pl_X3)) (pn_l (plainFor_of_name pl_X3))))))) (pn_c (pn_c (pn_c (pn_c (pn_l (plainFor_of_name pl_X3)) (pn_c (pn_l (plainFor_of_name pl_X3)) (pn_l (plainFor_of_name pl_X3)))) (pn_c (pn_c (pn_l (plainFor_of_name pl_X3)) (pn_l (plainFor_of_name pl_X3))) (pn_c (pn_l (plainFor_of_name pl_X3)) (pn_l (plainFor_of_name pl_X4))))) (pn_c (pn_c (pn_l (plainFor_of_name pl_X4)) (pn_c (pn_l (plainFor_of_name pl_X5)) (pn_l (plainFor_of_name pl_X5)))) (pn_c (pn_c (pn_l (plainFor_of_name pl_X5)) (pn_l (plainFor_of_name pl_X5))) (pn_c (pn_l (plainFor_of_name pl_X5)) (pn_l (plainFor_of_name pl_X5)))))) (pn_c (pn_c (pn_c (pn_l (plainFor_of_name pl_X5)) (pn_c (pn_l (plainFor_of_name pl_X5)) (pn_l (plainFor_of_name pl_X5)))) (pn_c (pn_c (pn_l (plainFor_of_name pl_X5)) (pn_l (plainFor_of_name pl_X6))) (pn_c (pn_l (plainFor_of_name pl_X6)) (pn_l (plainFor_of_name pl_X6))))) (pn_c (pn_c (pn_c (pn_l (plainFor_of_name pl_X7)) (pn_l (plainFor_of_name pl_X7))) (pn_c (pn_l (plainFor_of_name pl_X7)) (pn_l (plainFor_of_name pl_X8)))) (pn_c (pn_c (pn_l (plainFor_of_name pl_X8)) (pn_l (plainFor_of_name pl_X8))) (pn_c (pn_l (plainFor_of_name pl_X8)) (pn_l (plainFor_of_name pl_X8)))))))) (pn_c (pn_c (pn_c (pn_c (pn_c (pn_l (plainFor_of_name pl_X8)) (pn_c (pn_l (plainFor_of_name pl_X8)) (pn_l (plainFor_of_name pl_X8)))) (pn_c (pn_c (pn_l (plainFor_of_name pl_X8)) (pn_l (plainFor_of_name pl_X8))) (pn_c (pn_l (plainFor_of_name pl_X8)) (pn_l (plainFor_of_name pl_X8))))) (pn_c (pn_c (pn_l (plainFor_of_name pl_X8)) (pn_c (pn_l (plainFor_of_name pl_X8)) (pn_l (plainFor_of_name pl_X8)))) (pn_c (pn_c (pn_l (plainFor_of_name pl_X8)) (pn_l (plainFor_of_name pl_X8))) (pn_c (pn_l (plainFor_of_name pl_X9)) (pn_l (plainFor_of_name pl_X9)))))) (pn_c (pn_c (pn_c (pn_l (plainFor_of_name pl_X9)) (pn_c (pn_l (plainFor_of_name pl_X9)) (pn_l (plainFor_of_name pl_X9)))) (pn_c (pn_c (pn_l (plainFor_of_name pl_X9)) (pn_l (plainFor_of_name pl_X9))) (pn_c (pn_l (plainFor_of_name pl_X10)) (pn_l (plainFor_of_name pl_X10))))) (pn_c (pn_c (pn_c (pn_l (plainFor_of_name pl_X10)) (pn_l (plainFor_of_name pl_X11))) (pn_c (pn_l (plainFor_of_name pl_X11)) (pn_l (plainFor_of_name pl_X11)))) (pn_c (pn_c (pn_l (plainFor_of_name pl_X11)) (pn_l (plainFor_of_name pl_X11))) (pn_c (pn_l (plainFor_of_name pl_X11)) (pn_l (plainFor_of_name pl_X11))))))) (pn_c (pn_c (pn_c (pn_c (pn_l (plainFor_of_name pl_X11)) (pn_c (pn_l (plainFor_of_name pl_X11)) (pn_l (plainFor_of_name pl_X11)))) (pn_c (pn_c (pn_l (plainFor_of_name pl_X11)) (pn_l (plainFor_of_name pl_X11))) (pn_c (pn_l (plainFor_of_name pl_X11)) (pn_l (plainFor_of_name pl_X11))))) (pn_c (pn_c (pn_l (plainFor_of_name pl_X11)) (pn_c (pn_l (plainFor_of_name pl_X11)) (pn_l (plainFor_of_name pl_X11)))) (pn_c (pn_c (pn_l (plainFor_of_name pl_X11)) (pn_l (plainFor_of_name pl_X11))) (pn_c (pn_l (plainFor_of_name pl_X11)) (pn_l (plainFor_of_name pl_X11)))))) (pn_c (pn_c (pn_c (pn_l (plainFor_of_name pl_X11)) (pn_c (pn_l (plainFor_of_name pl_X11)) (pn_l (plainFor_of_name pl_X11)))) (pn_c (pn_c (pn_l (plainFor_of_name pl_X11)) (pn_l (plainFor_of_name pl_X11))) (pn_c (pn_l (plainFor_of_name pl_X11)) (pn_l (plainFor_of_name pl_X11))))) (pn_c (pn_c (pn_c (pn_l (plainFor_of_name pl_X11)) (pn_l (plainFor_of_name pl_X11))) (pn_c (pn_l (plainFor_of_name pl_X11)) (pn_l (plainFor_of_name pl_X11)))) (pn_c (pn_c (pn_l (plainFor_of_name pl_X11)) (pn_l (plainFor_of_name pl_X11))) (pn_c (pn_l (plainFor_of_name pl_X11)) (pn_l (plainFor_of_name pl_X11))))))))) (pn_c (pn_c (pn_c (pn_c (pn_c (pn_c (pn_l (plainFor_of_name pl_X11)) (pn_c (pn_l (plainFor_of_name pl_X11)) (pn_l (plainFor_of_name pl_X11)))) (pn_c (pn_c (pn_l (plainFor_of_name pl_X11)) (pn_l (plainFor_of_name pl_X11))) (pn_c (pn_l (plainFor_of_name pl_X11)) (pn_l (plainFor_of_name pl_X11))))) (pn_c (pn_c (pn_l (plainFor_of_name pl_X11)) (pn_c (pn_l (plainFor_of_name pl_X11)) (pn_l (plainFor_of_name pl_X11)))) (pn_c (pn_c (pn_l (plainFor_of_name pl_X11)) (pn_l (plainFor_of_name pl_X11))) (pn_c (pn_l (plainFor_of_name pl_X11)) (pn_l (plainFor_of_name pl_X11)))))) (pn_c (pn_c (pn_c (pn_l (plainFor_of_name pl_X11)) (pn_c (pn_l (plainFor_of_name pl_X11)) (pn_l (plainFor_of_name pl_X11)))) (pn_c (pn_c (pn_l (plainFor_of_name pl_X11)) (pn_l (plainFor_of_name pl_X11))) (pn_c (pn_l (plainFor_of_name pl_X11)) (pn_l (plainFor_of_name pl_X11))))) (pn_c (pn_c (pn_c (pn_l (plainFor_of_name pl_X12)) (pn_l (plainFor_of_name pl_X12))) (pn_c (pn_l (plainFor_of_name pl_X12)) (pn_l (plainFor_of_name pl_X12)))) (pn_c (pn_c (pn_l (plainFor_of_name pl_X12)) (pn_l (plainFor_of_name pl_X12))) (pn_c (pn_l (plainFor_of_name pl_X12)) (pn_l (plainFor_of_name pl_X12))))))) (pn_c (pn_c (pn_c (pn_c (pn_l (plainFor_of_name pl_X12)) (pn_c (pn_l (plainFor_of_name pl_X12)) (pn_l (plainFor_of_name pl_X12)))) (pn_c (pn_c (pn_l (plainFor_of_name pl_X12)) (pn_l (plainFor_of_name pl_X12))) (pn_c (pn_l (plainFor_of_name pl_X12)) (pn_l (plainFor_of_name pl_X12))))) (pn_c (pn_c (pn_l (plainFor_of_name pl_X12)) (pn_c (pn_l (plainFor_of_name pl_X12)) (pn_l (plainFor_of_name pl_X12)))) (pn_c (pn_c (pn_l (plainFor_of_name pl_X12)) (pn_l (plainFor_of_name pl_X12))) (pn_c (pn_l (plainFor_of_name pl_X12)) (pn_l (plainFor_of_name pl_X12)))))) (pn_c (pn_c (pn_c (pn_l (plainFor_of_name pl_X12)) (pn_c (pn_l (plainFor_of_name pl_X12)) (pn_l (plainFor_of_name pl_X12)))) (pn_c (pn_c (pn_l (plainFor_of_name pl_X12)) (pn_l (plainFor_of_name pl_X12))) (pn_c (pn_l (plainFor_of_name pl_X12)) (pn_l (plainFor_of_name pl_X12))))) (pn_c (pn_c (pn_c (pn_l (plainFor_of_name pl_X12)) (pn_l (plainFor_of_name pl_X12))) (pn_c (pn_l (plainFor_of_name pl_X12)) (pn_l (plainFor_of_name pl_X12)))) (pn_c (pn_c (pn_l (plainFor_of_name pl_X12)) (pn_l (plainFor_of_name pl_X12))) (pn_c (pn_l (plainFor_of_name pl_X12)) (pn_l (plainFor_of_name pl_X12)))))))) (pn_c (pn_c (pn_c (pn_c (pn_c (pn_l (plainFor_of_name pl_X12)) (pn_c (pn_l (plainFor_of_name pl_X12)) (pn_l (plainFor_of_name pl_X12)))) (pn_c (pn_c (pn_l (plainFor_of_name pl_X12)) (pn_l (plainFor_of_name pl_X12))) (pn_c (pn_l (plainFor_of_name pl_X12)) (pn_l (plainFor_of_name pl_X12))))) (pn_c (pn_c (pn_l (plainFor_of_name pl_X12)) (pn_c (pn_l (plainFor_of_name pl_X12)) (pn_l (plainFor_of_name pl_X12)))) (pn_c (pn_c (pn_l (plainFor_of_name pl_X12)) (pn_l (plainFor_of_name pl_X12))) (pn_c (pn_l (plainFor_of_name pl_X12)) (pn_l (plainFor_of_name pl_X12)))))) (pn_c (pn_c (pn_c (pn_l (plainFor_of_name pl_X12)) (pn_c (pn_l (plainFor_of_name pl_X12)) (pn_l (plainFor_of_name pl_X12)))) (pn_c (pn_c (pn_l (plainFor_of_name pl_X12)) (pn_l (plainFor_of_name pl_X12))) (pn_c (pn_l (plainFor_of_name pl_X12)) (pn_l (plainFor_of_name pl_X12))))) (pn_c (pn_c (pn_c (pn_l (plainFor_of_name pl_X12)) (pn_l (plainFor_of_name pl_X12))) (pn_c (pn_l (plainFor_of_name pl_X12)) (pn_l (plainFor_of_name pl_X12)))) (pn_c (pn_c (pn_l (plainFor_of_name pl_X12)) (pn_l (plainFor_of_name pl_X12))) (pn_c (pn_l (plainFor_of_name pl_X12)) (pn_l (plainFor_of_name pl_X12))))))) (pn_c (pn_c (pn_c (pn_c (pn_l (plainFor_of_name pl_X12)) (pn_c (pn_l (plainFor_of_name pl_X12)) (pn_l (plainFor_of_name pl_X12)))) (pn_c (pn_c (pn_l (plainFor_of_name pl_X12)) (pn_l (plainFor_of_name pl_X12))) (pn_c (pn_l (plainFor_of_name pl_X12)) (pn_l (plainFor_of_name pl_X12))))) (pn_c (pn_c (pn_l (plainFor_of_name pl_X12)) (pn_c (pn_l (plainFor_of_name pl_X12)) (pn_l (plainFor_of_name pl_X12)))) (pn_c (pn_c (pn_l (plainFor_of_name pl_X12)) (pn_l (plainFor_of_name pl_X12))) (pn_c (pn_l (plainFor_of_name pl_X12)) (pn_l (plainFor_of_name pl_X12)))))) (pn_c (pn_c (pn_c (pn_l (plainFor_of_name pl_X12)) (pn_c (pn_l (plainFor_of_name pl_X12)) (pn_l (plainFor_of_name pl_X12)))) (pn_c (pn_c (pn_l (plainFor_of_name pl_X12)) (pn_l (plainFor_of_name pl_X12))) (pn_c (pn_l (plainFor_of_name pl_X12)) (pn_l (plainFor_of_name pl_X12))))) (pn_c (pn_c (pn_c (pn_l (plainFor_of_name pl_X12)) (pn_l (plainFor_of_name pl_X12))) (pn_c (pn_l (plainFor_of_name pl_X12)) (pn_l (plainFor_of_name pl_X12)))) (pn_c (pn_c (pn_l (plainFor_of_name pl_X12)) (pn_l (plainFor_of_name pl_X12))) (pn_c (pn_l pl_J9) (pn_l (plainFor_of_name pl_X5)))))))))
theorem all_pl (m : Nat) (y : MethodName) (cc : ByteArray) (nL : Nat) (rt : Option FieldType) (d : Nat) (e : mJ m = some (y, cc, nL, rt, d)) : plainFor y = true := all_pn m _ e
theorem met_all {D : va_G} {cA : Nat → ClassId} {ad : Nat → Nat → Nat} {cells : List (Nat × Nat)} {l : Launch} (hC : Cl cells) {m' nL' : Nat} {as : List PV} {S : St} {r : Res} {y : MethodName} {cc : ByteArray} {rt : Option FieldType} {d : Nat} (h : RunT TB (entry m' nL' as S) = some r) (hI : mJ m' = some (y, cc, nL', rt, d)) (hlay : (lay as).length ≤ nL') (hv : ∀ v ∈ as, VV cells v) : MetR D cA ad cells l y cc nL' rt d as S r := met_runF all_pl all_os hC h hI hlay hv
