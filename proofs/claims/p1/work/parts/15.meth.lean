/-! ===== methods, callees ===== -/
/-- PlankBench$Board.<init>()V -/
abbrev kM_0 : AM := (RX0, cX0_init, 1, none, "<init>", 1)
/-- PlankBench$Board.setRow(II)V -/
abbrev kM_1 : AM := (RX0, cX0_setRow, 3, none, "setRow", 1)
/-- PlankBench$Board.become(I)V -/
abbrev kM_2 : AM := (RX0, cX0_become, 2, none, "become", 1)
/-- PlankBench$Board.freeMask()I -/
abbrev kM_3 : AM := (RX0, cX0_freeMask, 1, some .int, "freeMask", 1)
/-- PlankBench$Board.isFree(I)Z -/
abbrev kM_4 : AM := (RX0, cX0_isFree, 2, some .boolean, "isFree", 1)
/-- java/lang/Integer.bitCount(I)I -/
abbrev kM_5 : AM := (RJ6, cJ6_bitCount_0f7a4, 1, some .int, "bitCount", 1)
/-- PlankBench$Board.freeCount()I -/
abbrev kM_6 : AM := (RX0, cX0_freeCount, 1, some .int, "freeCount", 2)
/-- PlankBench$Board.laidCount()I -/
abbrev kM_7 : AM := (RX0, cX0_laidCount, 1, some .int, "laidCount", 1)
/-- PlankBench$Board.plankMask(II)I -/
abbrev kM_8 : AM := (RX0, cX0_plankMask, 4, some .int, "plankMask", 2)
/-- PlankBench$Board.plankCount(I)I -/
abbrev kM_9 : AM := (RX0, cX0_plankCount, 4, some .int, "plankCount", 3)
/-- PlankBench$Board.put(II)Z -/
abbrev kM_10 : AM := (RX0, cX0_put, 4, some .boolean, "put", 3)
/-- PlankBench$Board.takeBack()I -/
abbrev kM_11 : AM := (RX0, cX0_takeBack, 1, some .int, "takeBack", 1)
/-- PlankBench$Board.turnedMask()I -/
abbrev kM_12 : AM := (RX0, cX0_turnedMask, 4, some .int, "turnedMask", 1)
/-- PlankBench$Board.partOf(I)I -/
abbrev kM_13 : AM := (RX0, cX0_partOf, 6, some .int, "partOf", 1)
/-- PlankBench$Board.partCount()I -/
abbrev kM_14 : AM := (RX0, cX0_partCount, 4, some .int, "partCount", 2)
/-- java/lang/Math.min(II)I -/
abbrev kM_15 : AM := (RJ9, cJ9_min_7cf53, 2, some .int, "min", 1)
/-- java/lang/Math.max(II)I -/
abbrev kM_16 : AM := (RJ9, cJ9_max_7cf53, 2, some .int, "max", 1)
/-- PlankBench$Rows.<init>(I)V -/
abbrev kM_17 : AM := (RX5, cX5_init, 2, none, "<init>", 2)
/-- PlankBench$Form.<init>(I)V -/
abbrev kM_18 : AM := (RX1, cX1_init, 2, none, "<init>", 3)
/-- PlankBench$Form.options(I)LPlankBench$Rows; -/
abbrev kM_19 : AM := (RX1, cX1_options, 2, some (.object "PlankBench$Rows"), "options", 1)
/-- PlankBench$Keeper.<init>()V -/
abbrev kM_20 : AM := (RX2, cX2_init, 1, none, "<init>", 1)
/-- PlankBench$Rows.wordAt(II)I -/
abbrev kM_21 : AM := (RX5, cX5_wordAt, 3, some .int, "wordAt", 1)
/-- java/lang/Long.bitCount(J)I -/
abbrev kM_22 : AM := (RJ13, cJ13_bitCount_95d88, 2, some .int, "bitCount", 1)
/-- PlankBench$Rows.next(II)I -/
abbrev kM_23 : AM := (RX5, cX5_next, 8, some .int, "next", 2)
/-- PlankBench$Keeper.markOptions(LPlankBench$Rows;I)V -/
abbrev kM_24 : AM := (RX2, cX2_markOptions, 4, none, "markOptions", 3)
/-- PlankBench$Keeper.markFollowers(LPlankBench$Workshop;I)V -/
abbrev kM_25 : AM := (RX2, cX2_markFollowers, 4, none, "markFollowers", 4)
/-- PlankBench$Keeper.deepBehind(LPlankBench$Rows;I)I -/
abbrev kM_26 : AM := (RX2, cX2_deepBehind, 5, some .int, "deepBehind", 3)
/-- PlankBench$Keeper.findDeeps(LPlankBench$Workshop;I)V -/
abbrev kM_27 : AM := (RX2, cX2_findDeeps, 4, none, "findDeeps", 4)
/-- PlankBench$Rows.isRow(I)Z -/
abbrev kM_28 : AM := (RX5, cX5_isRow, 2, some .boolean, "isRow", 1)
/-- PlankBench$Rows.clear(I)V -/
abbrev kM_29 : AM := (RX5, cX5_clear, 3, none, "clear", 2)
/-- PlankBench$Rows.put(II)V -/
abbrev kM_30 : AM := (RX5, cX5_put, 4, none, "put", 2)
/-- PlankBench$Keeper.rankRow(LPlankBench$Rows;ILPlankBench$Rows;I)V -/
abbrev kM_31 : AM := (RX2, cX2_rankRow, 6, none, "rankRow", 3)
/-- PlankBench$Rows.bitCount(I)I -/
abbrev kM_32 : AM := (RX5, cX5_bitCount, 4, some .int, "bitCount", 2)
/-- PlankBench$Rows.ahead(II)I -/
abbrev kM_33 : AM := (RX5, cX5_ahead, 8, some .int, "ahead", 2)
/-- PlankBench$Keeper.order(LPlankBench$Form;II)I -/
abbrev kM_34 : AM := (RX2, cX2_order, 6, some .int, "order", 3)
/-- PlankBench$Rows.swap(II)V -/
abbrev kM_35 : AM := (RX5, cX5_swap, 6, none, "swap", 2)
/-- PlankBench$Keeper.sink(LPlankBench$Form;II)V -/
abbrev kM_36 : AM := (RX2, cX2_sink, 6, none, "sink", 4)
/-- PlankBench$Keeper.placeLevel(LPlankBench$Workshop;IIILPlankBench$Form;)I -/
abbrev kM_37 : AM := (RX2, cX2_placeLevel, 8, some .int, "placeLevel", 5)
/-- PlankBench$Keeper.store(LPlankBench$Workshop;ILPlankBench$Form;)V -/
abbrev kM_38 : AM := (RX2, cX2_store, 6, none, "store", 6)
/-- PlankBench$Planks.<init>()V -/
abbrev kM_39 : AM := (RX3, cX3_init, 1, none, "<init>", 1)
/-- PlankBench$Planks.clear()V -/
abbrev kM_40 : AM := (RX3, cX3_clear, 1, none, "clear", 1)
/-- PlankBench$Planks.narrowed(II)I -/
abbrev kM_41 : AM := (RX3, cX3_narrowed, 5, some .int, "narrowed", 1)
/-- PlankBench$Planks.note(IIII)V -/
abbrev kM_42 : AM := (RX3, cX3_note, 6, none, "note", 2)
/-- PlankBench$Planks.bring(LPlankBench$Board;I)V -/
abbrev kM_43 : AM := (RX3, cX3_bring, 4, none, "bring", 3)
/-- PlankBench$Planks.allFields()I -/
abbrev kM_44 : AM := (RX3, cX3_allFields, 1, some .int, "allFields", 1)
/-- PlankBench.isSide(I)Z -/
abbrev kM_45 : AM := (RX8, cX8_isSide, 1, some .boolean, "isSide", 1)
/-- PlankBench$Planks.count(I)I -/
abbrev kM_46 : AM := (RX3, cX3_count, 2, some .int, "count", 2)
/-- PlankBench$Planks.mask(II)I -/
abbrev kM_47 : AM := (RX3, cX3_mask, 3, some .int, "mask", 3)
/-- PlankBench$Planks.place(II)I -/
abbrev kM_48 : AM := (RX3, cX3_place, 3, some .int, "place", 3)
/-- PlankBench$Play.<init>()V -/
abbrev kM_49 : AM := (RX4, cX4_init, 1, none, "<init>", 1)
/-- PlankBench$Play.forget(I)V -/
abbrev kM_50 : AM := (RX4, cX4_forget, 3, none, "forget", 1)
/-- PlankBench$Play.isWon([ILPlankBench$Planks;III)Z -/
abbrev kM_51 : AM := (RX4, cX4_isWon, 9, some .boolean, "isWon", 4)
/-- PlankBench$Play.isWonBy(LPlankBench$Planks;I)Z -/
abbrev kM_52 : AM := (RX4, cX4_isWonBy, 4, some .boolean, "isWonBy", 5)
/-- PlankBench$Play.firstWinning(LPlankBench$Planks;I)I -/
abbrev kM_53 : AM := (RX4, cX4_firstWinning, 5, some .int, "firstWinning", 5)
/-- PlankBench$Rows.has(II)Z -/
abbrev kM_54 : AM := (RX5, cX5_has, 4, some .boolean, "has", 2)
/-- PlankBench$Rows.drop(II)V -/
abbrev kM_55 : AM := (RX5, cX5_drop, 4, none, "drop", 2)
/-- PlankBench$Rows.copy(ILPlankBench$Rows;I)V -/
abbrev kM_56 : AM := (RX5, cX5_copy, 5, none, "copy", 2)
/-- PlankBench$Rows.join(ILPlankBench$Rows;I)V -/
abbrev kM_57 : AM := (RX5, cX5_join, 5, none, "join", 2)
/-- PlankBench$Rows.bitAt(II)I -/
abbrev kM_58 : AM := (RX5, cX5_bitAt, 5, some .int, "bitAt", 3)
/-- PlankBench$Rows.common(ILPlankBench$Rows;II)I -/
abbrev kM_59 : AM := (RX5, cX5_common, 9, some .int, "common", 2)
/-- PlankBench$Teller.<init>()V -/
abbrev kM_60 : AM := (RX6, cX6_init, 1, none, "<init>", 1)
/-- PlankBench$Teller.onlyOption(LPlankBench$Rows;I)I -/
abbrev kM_61 : AM := (RX6, cX6_onlyOption, 2, some .int, "onlyOption", 4)
/-- PlankBench$Teller.findNumber(LPlankBench$Form;I)Z -/
abbrev kM_62 : AM := (RX6, cX6_findNumber, 11, some .boolean, "findNumber", 5)
/-- java/lang/Math.max(JJ)J -/
abbrev kM_63 : AM := (RJ9, cJ9_max_f86c9, 4, some .long, "max", 1)
/-- PlankBench$Teller.greatestRightStop(LPlankBench$Rows;I)J -/
abbrev kM_64 : AM := (RX6, cX6_greatestRightStop, 6, some .long, "greatestRightStop", 3)
/-- java/lang/Math.min(JJ)J -/
abbrev kM_65 : AM := (RJ9, cJ9_min_f86c9, 4, some .long, "min", 1)
/-- PlankBench$Teller.leastLeftStop(LPlankBench$Rows;I)J -/
abbrev kM_66 : AM := (RX6, cX6_leastLeftStop, 6, some .long, "leastLeftStop", 3)
/-- PlankBench$Teller.findStops(LPlankBench$Form;)V -/
abbrev kM_67 : AM := (RX6, cX6_findStops, 3, none, "findStops", 6)
/-- PlankBench$Teller.isSwitch(LPlankBench$Form;I)Z -/
abbrev kM_68 : AM := (RX6, cX6_isSwitch, 5, some .boolean, "isSwitch", 5)
/-- java/lang/Math.floorMod(II)I -/
abbrev kM_69 : AM := (RJ9, cJ9_floorMod_7cf53, 3, some .int, "floorMod", 1)
/-- PlankBench$Teller.turnedCode(I)I -/
abbrev kM_70 : AM := (RX6, cX6_turnedCode, 1, some .int, "turnedCode", 2)
/-- PlankBench$Teller.withOneUpMore(I)I -/
abbrev kM_71 : AM := (RX6, cX6_withOneUpMore, 1, some .int, "withOneUpMore", 2)
/-- PlankBench$Teller.upCode(LPlankBench$Form;II)I -/
abbrev kM_72 : AM := (RX6, cX6_upCode, 8, some .int, "upCode", 5)
/-- PlankBench$Teller.findUps(LPlankBench$Form;)V -/
abbrev kM_73 : AM := (RX6, cX6_findUps, 4, none, "findUps", 6)
/-- PlankBench$Teller.kindOf(LPlankBench$Form;)I -/
abbrev kM_74 : AM := (RX6, cX6_kindOf, 3, some .int, "kindOf", 7)
/-- PlankBench$Teller.stopOf(LPlankBench$Form;II)I -/
abbrev kM_75 : AM := (RX6, cX6_stopOf, 9, some .int, "stopOf", 7)
/-- java/lang/Math.floorDiv(II)I -/
abbrev kM_76 : AM := (RJ9, cJ9_floorDiv_7cf53, 3, some .int, "floorDiv", 1)
/-- PlankBench$Teller.upsOf(LPlankBench$Form;I)I -/
abbrev kM_77 : AM := (RX6, cX6_upsOf, 5, some .int, "upsOf", 7)
/-- PlankBench$Workshop.<init>()V -/
abbrev kM_78 : AM := (RX7, cX7_init, 1, none, "<init>", 3)
/-- PlankBench$Workshop.options(I)LPlankBench$Rows; -/
abbrev kM_79 : AM := (RX7, cX7_options, 2, some (.object "PlankBench$Rows"), "options", 1)
/-- PlankBench$Workshop.openHand()V -/
abbrev kM_80 : AM := (RX7, cX7_openHand, 1, none, "openHand", 3)
/-- PlankBench$Workshop.gatherBars(I)V -/
abbrev kM_81 : AM := (RX7, cX7_gatherBars, 3, none, "gatherBars", 3)
/-- PlankBench$Workshop.weigh(ILPlankBench$Rows;LPlankBench$Rows;)Z -/
abbrev kM_82 : AM := (RX7, cX7_weigh, 6, some .boolean, "weigh", 3)
/-- PlankBench$Workshop.bypass(II)V -/
abbrev kM_83 : AM := (RX7, cX7_bypass, 6, none, "bypass", 3)
/-- PlankBench$Workshop.strike(ILPlankBench$Rows;)V -/
abbrev kM_84 : AM := (RX7, cX7_strike, 4, none, "strike", 3)
/-- PlankBench$Workshop.append()I -/
abbrev kM_85 : AM := (RX7, cX7_append, 3, some .int, "append", 3)
/-- PlankBench$Workshop.settle()I -/
abbrev kM_86 : AM := (RX7, cX7_settle, 2, some .int, "settle", 4)
/-- PlankBench$Workshop.makeNought()I -/
abbrev kM_87 : AM := (RX7, cX7_makeNought, 1, some .int, "makeNought", 5)
/-- PlankBench$Workshop.markNext(LPlankBench$Planks;II)V -/
abbrev kM_88 : AM := (RX7, cX7_markNext, 6, none, "markNext", 4)
/-- PlankBench$Workshop.markRests(LPlankBench$Planks;I)V -/
abbrev kM_89 : AM := (RX7, cX7_markRests, 4, none, "markRests", 5)
/-- PlankBench$Workshop.offerRests(LPlankBench$Planks;II)V -/
abbrev kM_90 : AM := (RX7, cX7_offerRests, 6, none, "offerRests", 4)
/-- PlankBench$Workshop.makeBoard(LPlankBench$Planks;)I -/
abbrev kM_91 : AM := (RX7, cX7_makeBoard, 4, some .int, "makeBoard", 6)
/-- PlankBench$Workshop.makePair(II)I -/
abbrev kM_92 : AM := (RX7, cX7_makePair, 3, some .int, "makePair", 5)
/-- java/lang/Math.abs(I)I -/
abbrev kM_93 : AM := (RJ9, cJ9_abs_0f7a4, 1, some .int, "abs", 1)
/-- PlankBench$Workshop.between(IIII)I -/
abbrev kM_94 : AM := (RX7, cX7_between, 12, some .int, "between", 6)
/-- PlankBench$Workshop.makeNumber(II)I -/
abbrev kM_95 : AM := (RX7, cX7_makeNumber, 9, some .int, "makeNumber", 7)
/-- PlankBench$Workshop.makeUps(IZ)I -/
abbrev kM_96 : AM := (RX7, cX7_makeUps, 10, some .int, "makeUps", 6)
/-- PlankBench$Workshop.offerMade(LPlankBench$Form;IIII)V -/
abbrev kM_97 : AM := (RX7, cX7_offerMade, 9, none, "offerMade", 3)
/-- PlankBench$Workshop.bring(LPlankBench$Form;)I -/
abbrev kM_98 : AM := (RX7, cX7_bring, 4, some .int, "bring", 5)
/-- PlankBench$Workshop.makeOf([LPlankBench$Form;II)I -/
abbrev kM_99 : AM := (RX7, cX7_makeOf, 6, some .int, "makeOf", 6)
/-- PlankBench$Workshop.makeSum(LPlankBench$Form;LPlankBench$Form;)I -/
abbrev kM_100 : AM := (RX7, cX7_makeSum, 6, some .int, "makeSum", 6)
/-- PlankBench$Workshop.copy(LPlankBench$Form;Z)I -/
abbrev kM_101 : AM := (RX7, cX7_copy, 4, some .int, "copy", 3)
/-- PlankBench$Workshop.relation(LPlankBench$Form;LPlankBench$Form;)I -/
abbrev kM_102 : AM := (RX7, cX7_relation, 5, some .int, "relation", 4)
/-- PlankBench.<init>()V -/
abbrev kM_103 : AM := (RX8, cX8_init, 2, none, "<init>", 4)
/-- PlankBench.isBoard(I)Z -/
abbrev kM_104 : AM := (RX8, cX8_isBoard, 1, some .boolean, "isBoard", 1)
/-- PlankBench.row(III)I -/
abbrev kM_105 : AM := (RX8, cX8_row, 4, some .int, "row", 3)
/-- PlankBench.field(II)Z -/
abbrev kM_106 : AM := (RX8, cX8_field, 3, some .boolean, "field", 2)
/-- PlankBench.fields(I)I -/
abbrev kM_107 : AM := (RX8, cX8_fields, 2, some .int, "fields", 3)
/-- PlankBench.parts(I)I -/
abbrev kM_108 : AM := (RX8, cX8_parts, 2, some .int, "parts", 3)
/-- PlankBench.moves(II)I -/
abbrev kM_109 : AM := (RX8, cX8_moves, 3, some .int, "moves", 4)
/-- PlankBench.lay(III)I -/
abbrev kM_110 : AM := (RX8, cX8_lay, 4, some .int, "lay", 4)
/-- PlankBench.lift(I)I -/
abbrev kM_111 : AM := (RX8, cX8_lift, 2, some .int, "lift", 2)
/-- PlankBench.quarter(II)I -/
abbrev kM_112 : AM := (RX8, cX8_quarter, 3, some .int, "quarter", 3)
/-- PlankBench.isSpot(I)Z -/
abbrev kM_113 : AM := (RX8, cX8_isSpot, 1, some .boolean, "isSpot", 1)
/-- PlankBench.keep(II)I -/
abbrev kM_114 : AM := (RX8, cX8_keep, 3, some .int, "keep", 7)
/-- PlankBench.worth(II)I -/
abbrev kM_115 : AM := (RX8, cX8_worth, 3, some .int, "worth", 8)
/-- PlankBench.number(III)I -/
abbrev kM_116 : AM := (RX8, cX8_number, 4, some .int, "number", 8)
/-- PlankBench.up(IZI)I -/
abbrev kM_117 : AM := (RX8, cX8_up, 4, some .int, "up", 8)
/-- PlankBench.isSpotSet(I)Z -/
abbrev kM_118 : AM := (RX8, cX8_isSpotSet, 1, some .boolean, "isSpotSet", 1)
/-- PlankBench.isTooDeep(I)Z -/
abbrev kM_119 : AM := (RX8, cX8_isTooDeep, 3, some .boolean, "isTooDeep", 1)
/-- PlankBench.sizeOf(I)I -/
abbrev kM_120 : AM := (RX8, cX8_sizeOf, 4, some .int, "sizeOf", 1)
/-- PlankBench.game(III)I -/
abbrev kM_121 : AM := (RX8, cX8_game, 4, some .int, "game", 8)
/-- PlankBench.add(III)I -/
abbrev kM_122 : AM := (RX8, cX8_add, 4, some .int, "add", 8)
/-- PlankBench.turn(II)I -/
abbrev kM_123 : AM := (RX8, cX8_turn, 3, some .int, "turn", 8)
/-- PlankBench.option(IIII)I -/
abbrev kM_124 : AM := (RX8, cX8_option, 6, some .int, "option", 8)
/-- PlankBench.told(II)I -/
abbrev kM_125 : AM := (RX8, cX8_told, 4, some .int, "told", 8)
/-- PlankBench.compare(II)I -/
abbrev kM_126 : AM := (RX8, cX8_compare, 3, some .int, "compare", 5)
/-- PlankBench.wins(I)I -/
abbrev kM_127 : AM := (RX8, cX8_wins, 2, some .int, "wins", 5)
/-- PlankBench.isPartOfValue(I)Z -/
abbrev kM_128 : AM := (RX8, cX8_isPartOfValue, 1, some .boolean, "isPartOfValue", 1)
/-- PlankBench.value(II)I -/
abbrev kM_129 : AM := (RX8, cX8_value, 3, some .int, "value", 8)
/-- PlankBench.ups(II)I -/
abbrev kM_130 : AM := (RX8, cX8_ups, 3, some .int, "ups", 8)
/-- PlankBench.stop(III)I -/
abbrev kM_131 : AM := (RX8, cX8_stop, 4, some .int, "stop", 8)
/-- PlankBench.layOut(II)I -/
abbrev kM_132 : AM := (RX8, cX8_layOut, 5, some .int, "layOut", 4)
/-- PlankBench.beginner(II)I -/
abbrev kM_133 : AM := (RX8, cX8_beginner, 4, some .int, "beginner", 6)
/-- PlankBench.best(II)I -/
abbrev kM_134 : AM := (RX8, cX8_best, 5, some .int, "best", 6)
/-- PlankBenchModel.<init>()V -/
abbrev kM_135 : AM := (RX9, cX9_init, 2, none, "<init>", 1)
/-- PlankBenchModel.isBoard(I)Z -/
abbrev kM_136 : AM := (RX9, cX9_isBoard, 1, some .boolean, "isBoard", 1)
/-- PlankBenchModel.isFree(II)Z -/
abbrev kM_137 : AM := (RX9, cX9_isFree, 2, some .boolean, "isFree", 1)
/-- PlankBenchModel.count(I)I -/
abbrev kM_138 : AM := (RX9, cX9_count, 3, some .int, "count", 1)
/-- PlankBenchModel.row(III)I -/
abbrev kM_139 : AM := (RX9, cX9_row, 4, some .int, "row", 2)
/-- PlankBenchModel.field(II)Z -/
abbrev kM_140 : AM := (RX9, cX9_field, 3, some .boolean, "field", 2)
/-- PlankBenchModel.fields(I)I -/
abbrev kM_141 : AM := (RX9, cX9_fields, 2, some .int, "fields", 2)
/-- PlankBenchModel.parts(I)I -/
abbrev kM_142 : AM := (RX9, cX9_parts, 7, some .int, "parts", 2)
/-- PlankBenchModel.second(III)I -/
abbrev kM_143 : AM := (RX9, cX9_second, 4, some .int, "second", 2)
/-- PlankBenchModel.moves(II)I -/
abbrev kM_144 : AM := (RX9, cX9_moves, 5, some .int, "moves", 3)
/-- PlankBenchModel.lay(III)I -/
abbrev kM_145 : AM := (RX9, cX9_lay, 5, some .int, "lay", 3)
/-- PlankBenchModel.lift(I)I -/
abbrev kM_146 : AM := (RX9, cX9_lift, 3, some .int, "lift", 2)
/-- PlankBenchModel.quarter(II)I -/
abbrev kM_147 : AM := (RX9, cX9_quarter, 6, some .int, "quarter", 2)
/-- PlankBenchModel.isLeast(II)Z -/
abbrev kM_148 : AM := (RX9, cX9_isLeast, 3, some .boolean, "isLeast", 1)
/-- PlankBenchModel.leftOf(II)I -/
abbrev kM_149 : AM := (RX9, cX9_leftOf, 3, some .int, "leftOf", 1)
/-- PlankBenchModel.rightOf(II)I -/
abbrev kM_150 : AM := (RX9, cX9_rightOf, 3, some .int, "rightOf", 1)
/-- PlankBenchModel.order(II)I -/
abbrev kM_151 : AM := (RX9, cX9_order, 8, some .int, "order", 2)
/-- PlankBenchModel.once([II)I -/
abbrev kM_152 : AM := (RX9, cX9_once, 6, some .int, "once", 1)
/-- PlankBenchModel.sort([II)V -/
abbrev kM_153 : AM := (RX9, cX9_sort, 6, none, "sort", 3)
/-- PlankBenchModel.compareNew()V -/
abbrev kM_154 : AM := (RX9, cX9_compareNew, 5, none, "compareNew", 2)
/-- PlankBenchModel.replaceLeft()Z -/
abbrev kM_155 : AM := (RX9, cX9_replaceLeft, 6, some .boolean, "replaceLeft", 2)
/-- PlankBenchModel.replaceRight()Z -/
abbrev kM_156 : AM := (RX9, cX9_replaceRight, 6, some .boolean, "replaceRight", 2)
/-- PlankBenchModel.leaveOut()V -/
abbrev kM_157 : AM := (RX9, cX9_leaveOut, 5, none, "leaveOut", 2)
/-- PlankBenchModel.isNew(I)Z -/
abbrev kM_158 : AM := (RX9, cX9_isNew, 4, some .boolean, "isNew", 2)
/-- PlankBenchModel.keepNew()I -/
abbrev kM_159 : AM := (RX9, cX9_keepNew, 2, some .int, "keepNew", 3)
/-- PlankBenchModel.made()I -/
abbrev kM_160 : AM := (RX9, cX9_made, 2, some .int, "made", 4)
/-- PlankBenchModel.clearNew()V -/
abbrev kM_161 : AM := (RX9, cX9_clearNew, 1, none, "clearNew", 1)
/-- PlankBenchModel.begin()V -/
abbrev kM_162 : AM := (RX9, cX9_begin, 2, none, "begin", 5)
/-- PlankBenchModel.load(I)I -/
abbrev kM_163 : AM := (RX9, cX9_load, 6, some .int, "load", 5)
/-- PlankBenchModel.save(II)I -/
abbrev kM_164 : AM := (RX9, cX9_save, 8, some .int, "save", 2)
/-- PlankBenchModel.isSpot(I)Z -/
abbrev kM_165 : AM := (RX9, cX9_isSpot, 1, some .boolean, "isSpot", 1)
/-- PlankBenchModel.addMoves(II)V -/
abbrev kM_166 : AM := (RX9, cX9_addMoves, 5, none, "addMoves", 3)
/-- PlankBenchModel.worth(II)I -/
abbrev kM_167 : AM := (RX9, cX9_worth, 7, some .int, "worth", 6)
/-- PlankBenchModel.madeOf(II)I -/
abbrev kM_168 : AM := (RX9, cX9_madeOf, 3, some .int, "madeOf", 5)
/-- PlankBenchModel.numbered(II)I -/
abbrev kM_169 : AM := (RX9, cX9_numbered, 6, some .int, "numbered", 6)
/-- PlankBenchModel.number(III)I -/
abbrev kM_170 : AM := (RX9, cX9_number, 4, some .int, "number", 7)
/-- PlankBenchModel.followers(I[I)I -/
abbrev kM_171 : AM := (RX9, cX9_followers, 5, some .int, "followers", 2)
/-- PlankBenchModel.summed(II)I -/
abbrev kM_172 : AM := (RX9, cX9_summed, 10, some .int, "summed", 5)
/-- PlankBenchModel.up(IZI)I -/
abbrev kM_173 : AM := (RX9, cX9_up, 8, some .int, "up", 6)
/-- PlankBenchModel.deepOf(I)I -/
abbrev kM_174 : AM := (RX9, cX9_deepOf, 2, some .int, "deepOf", 6)
/-- PlankBenchModel.game(III)I -/
abbrev kM_175 : AM := (RX9, cX9_game, 8, some .int, "game", 7)
/-- PlankBenchModel.add(III)I -/
abbrev kM_176 : AM := (RX9, cX9_add, 6, some .int, "add", 6)
/-- PlankBenchModel.turn(II)I -/
abbrev kM_177 : AM := (RX9, cX9_turn, 7, some .int, "turn", 6)
/-- PlankBenchModel.option(IIII)I -/
abbrev kM_178 : AM := (RX9, cX9_option, 6, some .int, "option", 6)
/-- PlankBenchModel.smaller(JIJI)I -/
abbrev kM_179 : AM := (RX9, cX9_smaller, 10, some .int, "smaller", 1)
/-- PlankBenchModel.setValue(IJI)V -/
abbrev kM_180 : AM := (RX9, cX9_setValue, 8, none, "setValue", 1)
/-- PlankBenchModel.findValue(II)V -/
abbrev kM_181 : AM := (RX9, cX9_findValue, 10, none, "findValue", 2)
/-- PlankBenchModel.findStops(II)V -/
abbrev kM_182 : AM := (RX9, cX9_findStops, 10, none, "findStops", 2)
/-- PlankBenchModel.findValues(I)I -/
abbrev kM_183 : AM := (RX9, cX9_findValues, 3, some .int, "findValues", 3)
/-- PlankBenchModel.isSwitch(I)Z -/
abbrev kM_184 : AM := (RX9, cX9_isSwitch, 5, some .boolean, "isSwitch", 2)
/-- PlankBenchModel.upsOf(I)I -/
abbrev kM_185 : AM := (RX9, cX9_upsOf, 10, some .int, "upsOf", 6)
/-- PlankBenchModel.kindOf(I)I -/
abbrev kM_186 : AM := (RX9, cX9_kindOf, 3, some .int, "kindOf", 7)
/-- PlankBenchModel.told(II)I -/
abbrev kM_187 : AM := (RX9, cX9_told, 4, some .int, "told", 8)
/-- PlankBenchModel.compare(II)I -/
abbrev kM_188 : AM := (RX9, cX9_compare, 5, some .int, "compare", 6)
/-- PlankBenchModel.wins(I)I -/
abbrev kM_189 : AM := (RX9, cX9_wins, 3, some .int, "wins", 6)
/-- PlankBenchModel.value(II)I -/
abbrev kM_190 : AM := (RX9, cX9_value, 4, some .int, "value", 4)
/-- PlankBenchModel.ups(II)I -/
abbrev kM_191 : AM := (RX9, cX9_ups, 5, some .int, "ups", 8)
/-- PlankBenchModel.stop(III)I -/
abbrev kM_192 : AM := (RX9, cX9_stop, 5, some .int, "stop", 4)
/-- PlankBenchModel.findFields(I)I -/
abbrev kM_193 : AM := (RX9, cX9_findFields, 5, some .int, "findFields", 2)
/-- PlankBenchModel.without(IIII)I -/
abbrev kM_194 : AM := (RX9, cX9_without, 8, some .int, "without", 1)
/-- PlankBenchModel.findWins(I)V -/
abbrev kM_195 : AM := (RX9, cX9_findWins, 7, none, "findWins", 2)
/-- PlankBenchModel.beginner(II)I -/
abbrev kM_196 : AM := (RX9, cX9_beginner, 4, some .int, "beginner", 3)
/-- PlankBenchModel.best(II)I -/
abbrev kM_197 : AM := (RX9, cX9_best, 7, some .int, "best", 4)
def k_loops : List (AM × Nat) := [(kM_9, 4),
  (kM_12, 4),
  (kM_13, 6),
  (kM_14, 9),
  (kM_23, 28),
  (kM_24, 7),
  (kM_25, 2),
  (kM_25, 29),
  (kM_26, 10),
  (kM_27, 2),
  (kM_29, 10),
  (kM_31, 14),
  (kM_32, 12),
  (kM_33, 20),
  (kM_35, 18),
  (kM_36, 3),
  (kM_37, 7),
  (kM_37, 108),
  (kM_38, 30),
  (kM_41, 7),
  (kM_43, 21),
  (kM_50, 2),
  (kM_51, 62),
  (kM_53, 13),
  (kM_56, 23),
  (kM_57, 23),
  (kM_58, 10),
  (kM_59, 40),
  (kM_64, 12),
  (kM_66, 12),
  (kM_67, 2),
  (kM_73, 9),
  (kM_75, 58),
  (kM_81, 2),
  (kM_81, 32),
  (kM_81, 81),
  (kM_83, 16),
  (kM_84, 10),
  (kM_85, 85),
  (kM_85, 130),
  (kM_86, 10),
  (kM_88, 3),
  (kM_89, 2),
  (kM_89, 30),
  (kM_90, 3),
  (kM_91, 34),
  (kM_94, 23),
  (kM_95, 65),
  (kM_96, 37),
  (kM_97, 16),
  (kM_98, 4),
  (kM_99, 17),
  (kM_99, 63),
  (kM_100, 47),
  (kM_100, 35),
  (kM_101, 16),
  (kM_102, 44),
  (kM_102, 2),
  (kM_103, 15),
  (kM_103, 51),
  (kM_119, 2),
  (kM_120, 4),
  (kM_132, 24),
  (kM_132, 76),
  (kM_135, 302),
  (kM_138, 4),
  (kM_142, 31),
  (kM_142, 18),
  (kM_144, 23),
  (kM_147, 30),
  (kM_147, 21),
  (kM_151, 120),
  (kM_151, 178),
  (kM_151, 5),
  (kM_152, 15),
  (kM_152, 4),
  (kM_153, 15),
  (kM_153, 2),
  (kM_154, 20),
  (kM_154, 63),
  (kM_154, 123),
  (kM_154, 168),
  (kM_154, 7),
  (kM_155, 78),
  (kM_155, 19),
  (kM_155, 2),
  (kM_156, 78),
  (kM_156, 19),
  (kM_156, 2),
  (kM_157, 17),
  (kM_157, 4),
  (kM_157, 100),
  (kM_157, 145),
  (kM_157, 132),
  (kM_157, 228),
  (kM_158, 34),
  (kM_158, 75),
  (kM_159, 2),
  (kM_159, 64),
  (kM_159, 190),
  (kM_160, 36),
  (kM_163, 30),
  (kM_163, 88),
  (kM_163, 4),
  (kM_164, 2),
  (kM_164, 38),
  (kM_164, 80),
  (kM_164, 31),
  (kM_164, 196),
  (kM_164, 263),
  (kM_164, 137),
  (kM_166, 2),
  (kM_167, 42),
  (kM_167, 83),
  (kM_167, 75),
  (kM_167, 157),
  (kM_169, 10),
  (kM_169, 86),
  (kM_169, 168),
  (kM_169, 70),
  (kM_171, 2),
  (kM_171, 38),
  (kM_171, 80),
  (kM_171, 31),
  (kM_171, 130),
  (kM_172, 24),
  (kM_172, 53),
  (kM_172, 124),
  (kM_172, 188),
  (kM_172, 252),
  (kM_172, 316),
  (kM_172, 92),
  (kM_172, 83),
  (kM_173, 71),
  (kM_175, 40),
  (kM_175, 86),
  (kM_175, 165),
  (kM_175, 214),
  (kM_177, 53),
  (kM_177, 111),
  (kM_177, 25),
  (kM_180, 7),
  (kM_182, 76),
  (kM_182, 11),
  (kM_183, 2),
  (kM_185, 58),
  (kM_185, 12),
  (kM_193, 13),
  (kM_193, 4),
  (kM_194, 54),
  (kM_195, 22),
  (kM_195, 11),
  (kM_195, 2),
  (kM_197, 23)]
def SJ (j : AJ) : Prop := ∀ (n : Nat) (M : AM) (pc : Nat), k_loops[n]? = some (M, pc) → Sound M pc (j n)
set_option maxRecDepth 20000 in
theorem kcf_0 : CF kM_0 yX0_init [true] [] 0 := ⟨rfl, rfl, (by decide +kernel), kw_597, kw_335, ⟨(by decide +kernel), (by decide +kernel)⟩, (by decide +kernel), (by intro x hx; cases hx), rfl, (by decide +kernel)⟩
set_option maxRecDepth 20000 in
theorem kcf_1 : CF kM_1 yX0_setRow [true, true, true] [] 2 := ⟨rfl, rfl, (by decide +kernel), kw_598, kw_335, ⟨(by decide +kernel), (by decide +kernel)⟩, (by decide +kernel), (by intro x hx; cases hx), rfl, (by decide +kernel)⟩
set_option maxRecDepth 20000 in
theorem kcf_2 : CF kM_2 yX0_become [true, true] [] 1 := ⟨rfl, rfl, (by decide +kernel), kw_599, kw_335, ⟨(by decide +kernel), (by decide +kernel)⟩, (by decide +kernel), (by intro x hx; cases hx), rfl, (by decide +kernel)⟩
set_option maxRecDepth 20000 in
theorem kcf_3 : CF kM_3 yX0_freeMask [true] [] 0 := ⟨rfl, rfl, (by decide +kernel), kw_600, kw_335, ⟨(by decide +kernel), (by decide +kernel)⟩, (by decide +kernel), (by intro x hx; cases hx), rfl, (by decide +kernel)⟩
set_option maxRecDepth 20000 in
theorem kcf_4 : CF kM_4 yX0_isFree [true, true] [] 1 := ⟨rfl, rfl, (by decide +kernel), kw_601, kw_335, ⟨(by decide +kernel), (by decide +kernel)⟩, (by decide +kernel), (by intro x hx; cases hx), rfl, (by decide +kernel)⟩
set_option maxRecDepth 20000 in
theorem kcf_5 : CF kM_5 yJ6_bitCount_0f7a4 [true] [] 1 := ⟨rfl, rfl, (by decide +kernel), kw_602, kw_603, ⟨(by decide +kernel), (by decide +kernel)⟩, (by decide +kernel), (by intro x hx; cases hx), rfl, (by decide +kernel)⟩
set_option maxRecDepth 20000 in
theorem kcf_6 : CF kM_6 yX0_freeCount [true] [] 0 := ⟨rfl, rfl, (by decide +kernel), kw_604, kw_335, ⟨(by decide +kernel), (by decide +kernel)⟩, (by decide +kernel), (by intro x hx; cases hx), rfl, (by decide +kernel)⟩
set_option maxRecDepth 20000 in
theorem kcf_7 : CF kM_7 yX0_laidCount [true] [] 0 := ⟨rfl, rfl, (by decide +kernel), kw_605, kw_335, ⟨(by decide +kernel), (by decide +kernel)⟩, (by decide +kernel), (by intro x hx; cases hx), rfl, (by decide +kernel)⟩
set_option maxRecDepth 20000 in
theorem kcf_8 : CF kM_8 yX0_plankMask [true, true, true] [none] 2 := ⟨rfl, rfl, (by decide +kernel), kw_606, kw_335, ⟨(by decide +kernel), (by decide +kernel)⟩, (by decide +kernel), (by intro x hx; simp at hx; exact hx), rfl, (by decide +kernel)⟩
set_option maxRecDepth 20000 in
theorem kcf_9 : CF kM_9 yX0_plankCount [true, true] [none, none] 1 := ⟨rfl, rfl, (by decide +kernel), kw_607, kw_335, ⟨(by decide +kernel), (by decide +kernel)⟩, (by decide +kernel), (by intro x hx; simp at hx; exact hx), rfl, (by decide +kernel)⟩
set_option maxRecDepth 20000 in
theorem kcf_10 : CF kM_10 yX0_put [true, true, true] [none] 2 := ⟨rfl, rfl, (by decide +kernel), kw_608, kw_335, ⟨(by decide +kernel), (by decide +kernel)⟩, (by decide +kernel), (by intro x hx; simp at hx; exact hx), rfl, (by decide +kernel)⟩
set_option maxRecDepth 20000 in
theorem kcf_11 : CF kM_11 yX0_takeBack [true] [] 0 := ⟨rfl, rfl, (by decide +kernel), kw_609, kw_335, ⟨(by decide +kernel), (by decide +kernel)⟩, (by decide +kernel), (by intro x hx; cases hx), rfl, (by decide +kernel)⟩
set_option maxRecDepth 20000 in
theorem kcf_12 : CF kM_12 yX0_turnedMask [true] [none, none, none] 0 := ⟨rfl, rfl, (by decide +kernel), kw_610, kw_335, ⟨(by decide +kernel), (by decide +kernel)⟩, (by decide +kernel), (by intro x hx; simp at hx; exact hx), rfl, (by decide +kernel)⟩
set_option maxRecDepth 20000 in
theorem kcf_13 : CF kM_13 yX0_partOf [true, true] [none, none, none, none] 1 := ⟨rfl, rfl, (by decide +kernel), kw_611, kw_335, ⟨(by decide +kernel), (by decide +kernel)⟩, (by decide +kernel), (by intro x hx; simp at hx; exact hx), rfl, (by decide +kernel)⟩
set_option maxRecDepth 20000 in
theorem kcf_14 : CF kM_14 yX0_partCount [true] [none, none, none] 0 := ⟨rfl, rfl, (by decide +kernel), kw_612, kw_335, ⟨(by decide +kernel), (by decide +kernel)⟩, (by decide +kernel), (by intro x hx; simp at hx; exact hx), rfl, (by decide +kernel)⟩
set_option maxRecDepth 20000 in
theorem kcf_15 : CF kM_15 yJ9_min_7cf53 [true, true] [] 2 := ⟨rfl, rfl, (by decide +kernel), kw_613, kw_614, ⟨(by decide +kernel), (by decide +kernel)⟩, (by decide +kernel), (by intro x hx; cases hx), rfl, (by decide +kernel)⟩
set_option maxRecDepth 20000 in
theorem kcf_16 : CF kM_16 yJ9_max_7cf53 [true, true] [] 2 := ⟨rfl, rfl, (by decide +kernel), kw_615, kw_614, ⟨(by decide +kernel), (by decide +kernel)⟩, (by decide +kernel), (by intro x hx; cases hx), rfl, (by decide +kernel)⟩
set_option maxRecDepth 20000 in
theorem kcf_17 : CF kM_17 yX5_init [true, true] [] 1 := ⟨rfl, rfl, (by decide +kernel), kw_616, kw_36, ⟨(by decide +kernel), (by decide +kernel)⟩, (by decide +kernel), (by intro x hx; cases hx), rfl, (by decide +kernel)⟩
set_option maxRecDepth 20000 in
theorem kcf_18 : CF kM_18 yX1_init [true, true] [] 1 := ⟨rfl, rfl, (by decide +kernel), kw_617, kw_296, ⟨(by decide +kernel), (by decide +kernel)⟩, (by decide +kernel), (by intro x hx; cases hx), rfl, (by decide +kernel)⟩
set_option maxRecDepth 20000 in
theorem kcf_19 : CF kM_19 yX1_options [true, true] [] 1 := ⟨rfl, rfl, (by decide +kernel), kw_618, kw_296, ⟨(by decide +kernel), (by decide +kernel)⟩, (by decide +kernel), (by intro x hx; cases hx), rfl, (by decide +kernel)⟩
set_option maxRecDepth 20000 in
theorem kcf_20 : CF kM_20 yX2_init [true] [] 0 := ⟨rfl, rfl, (by decide +kernel), kw_619, kw_314, ⟨(by decide +kernel), (by decide +kernel)⟩, (by decide +kernel), (by intro x hx; cases hx), rfl, (by decide +kernel)⟩
set_option maxRecDepth 20000 in
theorem kcf_21 : CF kM_21 yX5_wordAt [true, true, true] [] 2 := ⟨rfl, rfl, (by decide +kernel), kw_620, kw_36, ⟨(by decide +kernel), (by decide +kernel)⟩, (by decide +kernel), (by intro x hx; cases hx), rfl, (by decide +kernel)⟩
set_option maxRecDepth 20000 in
theorem kcf_22 : CF kM_22 yJ13_bitCount_95d88 [false] [] 1 := ⟨rfl, rfl, (by decide +kernel), kw_621, kw_622, ⟨(by decide +kernel), (by decide +kernel)⟩, (by decide +kernel), (by intro x hx; cases hx), rfl, (by decide +kernel)⟩
set_option maxRecDepth 20000 in
theorem kcf_23 : CF kM_23 yX5_next [true, true, true] [none, none, none, none, none] 2 := ⟨rfl, rfl, (by decide +kernel), kw_623, kw_36, ⟨(by decide +kernel), (by decide +kernel)⟩, (by decide +kernel), (by intro x hx; simp at hx; exact hx), rfl, (by decide +kernel)⟩
set_option maxRecDepth 20000 in
theorem kcf_24 : CF kM_24 yX2_markOptions [true, true, true] [none] 2 := ⟨rfl, rfl, (by decide +kernel), kw_624, kw_314, ⟨(by decide +kernel), (by decide +kernel)⟩, (by decide +kernel), (by intro x hx; simp at hx; exact hx), rfl, (by decide +kernel)⟩
set_option maxRecDepth 20000 in
theorem kcf_25 : CF kM_25 yX2_markFollowers [true, true, true] [none] 2 := ⟨rfl, rfl, (by decide +kernel), kw_625, kw_314, ⟨(by decide +kernel), (by decide +kernel)⟩, (by decide +kernel), (by intro x hx; simp at hx; exact hx), rfl, (by decide +kernel)⟩
set_option maxRecDepth 20000 in
theorem kcf_26 : CF kM_26 yX2_deepBehind [true, true, true] [none, none] 2 := ⟨rfl, rfl, (by decide +kernel), kw_626, kw_314, ⟨(by decide +kernel), (by decide +kernel)⟩, (by decide +kernel), (by intro x hx; simp at hx; exact hx), rfl, (by decide +kernel)⟩
set_option maxRecDepth 20000 in
theorem kcf_27 : CF kM_27 yX2_findDeeps [true, true, true] [none] 2 := ⟨rfl, rfl, (by decide +kernel), kw_627, kw_314, ⟨(by decide +kernel), (by decide +kernel)⟩, (by decide +kernel), (by intro x hx; simp at hx; exact hx), rfl, (by decide +kernel)⟩
set_option maxRecDepth 20000 in
theorem kcf_28 : CF kM_28 yX5_isRow [true, true] [] 1 := ⟨rfl, rfl, (by decide +kernel), kw_628, kw_36, ⟨(by decide +kernel), (by decide +kernel)⟩, (by decide +kernel), (by intro x hx; cases hx), rfl, (by decide +kernel)⟩
set_option maxRecDepth 20000 in
theorem kcf_29 : CF kM_29 yX5_clear [true, true] [none] 1 := ⟨rfl, rfl, (by decide +kernel), kw_629, kw_36, ⟨(by decide +kernel), (by decide +kernel)⟩, (by decide +kernel), (by intro x hx; simp at hx; exact hx), rfl, (by decide +kernel)⟩
set_option maxRecDepth 20000 in
theorem kcf_30 : CF kM_30 yX5_put [true, true, true] [none] 2 := ⟨rfl, rfl, (by decide +kernel), kw_630, kw_36, ⟨(by decide +kernel), (by decide +kernel)⟩, (by decide +kernel), (by intro x hx; simp at hx; exact hx), rfl, (by decide +kernel)⟩
set_option maxRecDepth 20000 in
theorem kcf_31 : CF kM_31 yX2_rankRow [true, true, true, true, true] [none] 4 := ⟨rfl, rfl, (by decide +kernel), kw_631, kw_314, ⟨(by decide +kernel), (by decide +kernel)⟩, (by decide +kernel), (by intro x hx; simp at hx; exact hx), rfl, (by decide +kernel)⟩
set_option maxRecDepth 20000 in
theorem kcf_32 : CF kM_32 yX5_bitCount [true, true] [none, none] 1 := ⟨rfl, rfl, (by decide +kernel), kw_632, kw_36, ⟨(by decide +kernel), (by decide +kernel)⟩, (by decide +kernel), (by intro x hx; simp at hx; exact hx), rfl, (by decide +kernel)⟩
set_option maxRecDepth 20000 in
theorem kcf_33 : CF kM_33 yX5_ahead [true, true, true] [none, none, none, none, none] 2 := ⟨rfl, rfl, (by decide +kernel), kw_633, kw_36, ⟨(by decide +kernel), (by decide +kernel)⟩, (by decide +kernel), (by intro x hx; simp at hx; exact hx), rfl, (by decide +kernel)⟩
set_option maxRecDepth 20000 in
theorem kcf_34 : CF kM_34 yX2_order [true, true, true] [none, none, none] 3 := ⟨rfl, rfl, (by decide +kernel), kw_634, kw_314, ⟨(by decide +kernel), (by decide +kernel)⟩, (by decide +kernel), (by intro x hx; simp at hx; exact hx), rfl, (by decide +kernel)⟩
set_option maxRecDepth 20000 in
theorem kcf_35 : CF kM_35 yX5_swap [true, true, true] [none, none, none] 2 := ⟨rfl, rfl, (by decide +kernel), kw_635, kw_36, ⟨(by decide +kernel), (by decide +kernel)⟩, (by decide +kernel), (by intro x hx; simp at hx; exact hx), rfl, (by decide +kernel)⟩
set_option maxRecDepth 20000 in
theorem kcf_36 : CF kM_36 yX2_sink [true, true, true, true] [none, none] 3 := ⟨rfl, rfl, (by decide +kernel), kw_636, kw_314, ⟨(by decide +kernel), (by decide +kernel)⟩, (by decide +kernel), (by intro x hx; simp at hx; exact hx), rfl, (by decide +kernel)⟩
set_option maxRecDepth 20000 in
theorem kcf_37 : CF kM_37 yX2_placeLevel [true, true, true, true, true, true] [none, none] 5 := ⟨rfl, rfl, (by decide +kernel), kw_637, kw_314, ⟨(by decide +kernel), (by decide +kernel)⟩, (by decide +kernel), (by intro x hx; simp at hx; exact hx), rfl, (by decide +kernel)⟩
set_option maxRecDepth 20000 in
theorem kcf_38 : CF kM_38 yX2_store [true, true, true, true] [none, none] 3 := ⟨rfl, rfl, (by decide +kernel), kw_638, kw_314, ⟨(by decide +kernel), (by decide +kernel)⟩, (by decide +kernel), (by intro x hx; simp at hx; exact hx), rfl, (by decide +kernel)⟩
set_option maxRecDepth 20000 in
theorem kcf_39 : CF kM_39 yX3_init [true] [] 0 := ⟨rfl, rfl, (by decide +kernel), kw_639, kw_302, ⟨(by decide +kernel), (by decide +kernel)⟩, (by decide +kernel), (by intro x hx; cases hx), rfl, (by decide +kernel)⟩
set_option maxRecDepth 20000 in
theorem kcf_40 : CF kM_40 yX3_clear [true] [] 0 := ⟨rfl, rfl, (by decide +kernel), kw_640, kw_302, ⟨(by decide +kernel), (by decide +kernel)⟩, (by decide +kernel), (by intro x hx; cases hx), rfl, (by decide +kernel)⟩
set_option maxRecDepth 20000 in
theorem kcf_41 : CF kM_41 yX3_narrowed [true, true] [none, none, none] 2 := ⟨rfl, rfl, (by decide +kernel), kw_641, kw_302, ⟨(by decide +kernel), (by decide +kernel)⟩, (by decide +kernel), (by intro x hx; simp at hx; exact hx), rfl, (by decide +kernel)⟩
set_option maxRecDepth 20000 in
theorem kcf_42 : CF kM_42 yX3_note [true, true, true, true, true] [none] 4 := ⟨rfl, rfl, (by decide +kernel), kw_642, kw_302, ⟨(by decide +kernel), (by decide +kernel)⟩, (by decide +kernel), (by intro x hx; simp at hx; exact hx), rfl, (by decide +kernel)⟩
set_option maxRecDepth 20000 in
theorem kcf_43 : CF kM_43 yX3_bring [true, true, true] [none] 2 := ⟨rfl, rfl, (by decide +kernel), kw_643, kw_302, ⟨(by decide +kernel), (by decide +kernel)⟩, (by decide +kernel), (by intro x hx; simp at hx; exact hx), rfl, (by decide +kernel)⟩
set_option maxRecDepth 20000 in
theorem kcf_44 : CF kM_44 yX3_allFields [true] [] 0 := ⟨rfl, rfl, (by decide +kernel), kw_644, kw_302, ⟨(by decide +kernel), (by decide +kernel)⟩, (by decide +kernel), (by intro x hx; cases hx), rfl, (by decide +kernel)⟩
set_option maxRecDepth 20000 in
theorem kcf_45 : CF kM_45 yX8_isSide [true] [] 1 := ⟨rfl, rfl, (by decide +kernel), kw_645, kw_646, ⟨(by decide +kernel), (by decide +kernel)⟩, (by decide +kernel), (by intro x hx; cases hx), rfl, (by decide +kernel)⟩
set_option maxRecDepth 20000 in
theorem kcf_46 : CF kM_46 yX3_count [true, true] [] 1 := ⟨rfl, rfl, (by decide +kernel), kw_647, kw_302, ⟨(by decide +kernel), (by decide +kernel)⟩, (by decide +kernel), (by intro x hx; cases hx), rfl, (by decide +kernel)⟩
set_option maxRecDepth 20000 in
theorem kcf_47 : CF kM_47 yX3_mask [true, true, true] [] 2 := ⟨rfl, rfl, (by decide +kernel), kw_648, kw_302, ⟨(by decide +kernel), (by decide +kernel)⟩, (by decide +kernel), (by intro x hx; cases hx), rfl, (by decide +kernel)⟩
set_option maxRecDepth 20000 in
theorem kcf_48 : CF kM_48 yX3_place [true, true, true] [] 2 := ⟨rfl, rfl, (by decide +kernel), kw_649, kw_302, ⟨(by decide +kernel), (by decide +kernel)⟩, (by decide +kernel), (by intro x hx; cases hx), rfl, (by decide +kernel)⟩
set_option maxRecDepth 20000 in
theorem kcf_49 : CF kM_49 yX4_init [true] [] 0 := ⟨rfl, rfl, (by decide +kernel), kw_650, kw_326, ⟨(by decide +kernel), (by decide +kernel)⟩, (by decide +kernel), (by intro x hx; cases hx), rfl, (by decide +kernel)⟩
set_option maxRecDepth 20000 in
theorem kcf_50 : CF kM_50 yX4_forget [true, true] [none] 1 := ⟨rfl, rfl, (by decide +kernel), kw_651, kw_326, ⟨(by decide +kernel), (by decide +kernel)⟩, (by decide +kernel), (by intro x hx; simp at hx; exact hx), rfl, (by decide +kernel)⟩
set_option maxRecDepth 20000 in
theorem kcf_51 : CF kM_51 yX4_isWon [true, true, true, true, true] [none, none, none, none] 5 := ⟨rfl, rfl, (by decide +kernel), kw_652, kw_326, ⟨(by decide +kernel), (by decide +kernel)⟩, (by decide +kernel), (by intro x hx; simp at hx; exact hx), rfl, (by decide +kernel)⟩
set_option maxRecDepth 20000 in
theorem kcf_52 : CF kM_52 yX4_isWonBy [true, true, true] [none] 2 := ⟨rfl, rfl, (by decide +kernel), kw_653, kw_326, ⟨(by decide +kernel), (by decide +kernel)⟩, (by decide +kernel), (by intro x hx; simp at hx; exact hx), rfl, (by decide +kernel)⟩
set_option maxRecDepth 20000 in
theorem kcf_53 : CF kM_53 yX4_firstWinning [true, true, true] [none, none] 2 := ⟨rfl, rfl, (by decide +kernel), kw_654, kw_326, ⟨(by decide +kernel), (by decide +kernel)⟩, (by decide +kernel), (by intro x hx; simp at hx; exact hx), rfl, (by decide +kernel)⟩
set_option maxRecDepth 20000 in
theorem kcf_54 : CF kM_54 yX5_has [true, true, true] [none] 2 := ⟨rfl, rfl, (by decide +kernel), kw_655, kw_36, ⟨(by decide +kernel), (by decide +kernel)⟩, (by decide +kernel), (by intro x hx; simp at hx; exact hx), rfl, (by decide +kernel)⟩
set_option maxRecDepth 20000 in
theorem kcf_55 : CF kM_55 yX5_drop [true, true, true] [none] 2 := ⟨rfl, rfl, (by decide +kernel), kw_656, kw_36, ⟨(by decide +kernel), (by decide +kernel)⟩, (by decide +kernel), (by intro x hx; simp at hx; exact hx), rfl, (by decide +kernel)⟩
set_option maxRecDepth 20000 in
theorem kcf_56 : CF kM_56 yX5_copy [true, true, true, true] [none] 3 := ⟨rfl, rfl, (by decide +kernel), kw_657, kw_36, ⟨(by decide +kernel), (by decide +kernel)⟩, (by decide +kernel), (by intro x hx; simp at hx; exact hx), rfl, (by decide +kernel)⟩
set_option maxRecDepth 20000 in
theorem kcf_57 : CF kM_57 yX5_join [true, true, true, true] [none] 3 := ⟨rfl, rfl, (by decide +kernel), kw_658, kw_36, ⟨(by decide +kernel), (by decide +kernel)⟩, (by decide +kernel), (by intro x hx; simp at hx; exact hx), rfl, (by decide +kernel)⟩
set_option maxRecDepth 20000 in
theorem kcf_58 : CF kM_58 yX5_bitAt [true, true, true] [none, none] 2 := ⟨rfl, rfl, (by decide +kernel), kw_659, kw_36, ⟨(by decide +kernel), (by decide +kernel)⟩, (by decide +kernel), (by intro x hx; simp at hx; exact hx), rfl, (by decide +kernel)⟩
set_option maxRecDepth 20000 in
theorem kcf_59 : CF kM_59 yX5_common [true, true, true, true, true] [none, none, none, none] 4 := ⟨rfl, rfl, (by decide +kernel), kw_660, kw_36, ⟨(by decide +kernel), (by decide +kernel)⟩, (by decide +kernel), (by intro x hx; simp at hx; exact hx), rfl, (by decide +kernel)⟩
set_option maxRecDepth 20000 in
theorem kcf_60 : CF kM_60 yX6_init [true] [] 0 := ⟨rfl, rfl, (by decide +kernel), kw_661, kw_320, ⟨(by decide +kernel), (by decide +kernel)⟩, (by decide +kernel), (by intro x hx; cases hx), rfl, (by decide +kernel)⟩
set_option maxRecDepth 20000 in
theorem kcf_61 : CF kM_61 yX6_onlyOption [true, true] [] 2 := ⟨rfl, rfl, (by decide +kernel), kw_662, kw_320, ⟨(by decide +kernel), (by decide +kernel)⟩, (by decide +kernel), (by intro x hx; cases hx), rfl, (by decide +kernel)⟩
set_option maxRecDepth 20000 in
theorem kcf_62 : CF kM_62 yX6_findNumber [true, true, true] [none, none, none, none, none, none, none, none] 2 := ⟨rfl, rfl, (by decide +kernel), kw_663, kw_320, ⟨(by decide +kernel), (by decide +kernel)⟩, (by decide +kernel), (by intro x hx; simp at hx; exact hx), rfl, (by decide +kernel)⟩
set_option maxRecDepth 20000 in
theorem kcf_63 : CF kM_63 yJ9_max_f86c9 [false, false] [] 2 := ⟨rfl, rfl, (by decide +kernel), kw_664, kw_614, ⟨(by decide +kernel), (by decide +kernel)⟩, (by decide +kernel), (by intro x hx; cases hx), rfl, (by decide +kernel)⟩
set_option maxRecDepth 20000 in
theorem kcf_64 : CF kM_64 yX6_greatestRightStop [true, true, true] [none, none, none] 2 := ⟨rfl, rfl, (by decide +kernel), kw_665, kw_320, ⟨(by decide +kernel), (by decide +kernel)⟩, (by decide +kernel), (by intro x hx; simp at hx; exact hx), rfl, (by decide +kernel)⟩
set_option maxRecDepth 20000 in
theorem kcf_65 : CF kM_65 yJ9_min_f86c9 [false, false] [] 2 := ⟨rfl, rfl, (by decide +kernel), kw_666, kw_614, ⟨(by decide +kernel), (by decide +kernel)⟩, (by decide +kernel), (by intro x hx; cases hx), rfl, (by decide +kernel)⟩
set_option maxRecDepth 20000 in
theorem kcf_66 : CF kM_66 yX6_leastLeftStop [true, true, true] [none, none, none] 2 := ⟨rfl, rfl, (by decide +kernel), kw_667, kw_320, ⟨(by decide +kernel), (by decide +kernel)⟩, (by decide +kernel), (by intro x hx; simp at hx; exact hx), rfl, (by decide +kernel)⟩
set_option maxRecDepth 20000 in
theorem kcf_67 : CF kM_67 yX6_findStops [true, true] [none] 1 := ⟨rfl, rfl, (by decide +kernel), kw_668, kw_320, ⟨(by decide +kernel), (by decide +kernel)⟩, (by decide +kernel), (by intro x hx; simp at hx; exact hx), rfl, (by decide +kernel)⟩
set_option maxRecDepth 20000 in
theorem kcf_68 : CF kM_68 yX6_isSwitch [true, true, true] [none, none] 2 := ⟨rfl, rfl, (by decide +kernel), kw_669, kw_320, ⟨(by decide +kernel), (by decide +kernel)⟩, (by decide +kernel), (by intro x hx; simp at hx; exact hx), rfl, (by decide +kernel)⟩
set_option maxRecDepth 20000 in
theorem kcf_69 : CF kM_69 yJ9_floorMod_7cf53 [true, true] [none] 2 := ⟨rfl, rfl, (by decide +kernel), kw_670, kw_614, ⟨(by decide +kernel), (by decide +kernel)⟩, (by decide +kernel), (by intro x hx; simp at hx; exact hx), rfl, (by decide +kernel)⟩
set_option maxRecDepth 20000 in
theorem kcf_70 : CF kM_70 yX6_turnedCode [true] [] 1 := ⟨rfl, rfl, (by decide +kernel), kw_671, kw_320, ⟨(by decide +kernel), (by decide +kernel)⟩, (by decide +kernel), (by intro x hx; cases hx), rfl, (by decide +kernel)⟩
set_option maxRecDepth 20000 in
theorem kcf_71 : CF kM_71 yX6_withOneUpMore [true] [] 1 := ⟨rfl, rfl, (by decide +kernel), kw_672, kw_320, ⟨(by decide +kernel), (by decide +kernel)⟩, (by decide +kernel), (by intro x hx; cases hx), rfl, (by decide +kernel)⟩
set_option maxRecDepth 20000 in
theorem kcf_72 : CF kM_72 yX6_upCode [true, true, true, true] [none, none, none, none] 3 := ⟨rfl, rfl, (by decide +kernel), kw_673, kw_320, ⟨(by decide +kernel), (by decide +kernel)⟩, (by decide +kernel), (by intro x hx; simp at hx; exact hx), rfl, (by decide +kernel)⟩
set_option maxRecDepth 20000 in
theorem kcf_73 : CF kM_73 yX6_findUps [true, true] [none, none] 1 := ⟨rfl, rfl, (by decide +kernel), kw_674, kw_320, ⟨(by decide +kernel), (by decide +kernel)⟩, (by decide +kernel), (by intro x hx; simp at hx; exact hx), rfl, (by decide +kernel)⟩
set_option maxRecDepth 20000 in
theorem kcf_74 : CF kM_74 yX6_kindOf [true, true] [none] 1 := ⟨rfl, rfl, (by decide +kernel), kw_675, kw_320, ⟨(by decide +kernel), (by decide +kernel)⟩, (by decide +kernel), (by intro x hx; simp at hx; exact hx), rfl, (by decide +kernel)⟩
set_option maxRecDepth 20000 in
theorem kcf_75 : CF kM_75 yX6_stopOf [true, true, true, true] [none, none, none, none, none] 3 := ⟨rfl, rfl, (by decide +kernel), kw_676, kw_320, ⟨(by decide +kernel), (by decide +kernel)⟩, (by decide +kernel), (by intro x hx; simp at hx; exact hx), rfl, (by decide +kernel)⟩
set_option maxRecDepth 20000 in
theorem kcf_76 : CF kM_76 yJ9_floorDiv_7cf53 [true, true] [none] 2 := ⟨rfl, rfl, (by decide +kernel), kw_677, kw_614, ⟨(by decide +kernel), (by decide +kernel)⟩, (by decide +kernel), (by intro x hx; simp at hx; exact hx), rfl, (by decide +kernel)⟩
set_option maxRecDepth 20000 in
theorem kcf_77 : CF kM_77 yX6_upsOf [true, true, true] [none, none] 2 := ⟨rfl, rfl, (by decide +kernel), kw_678, kw_320, ⟨(by decide +kernel), (by decide +kernel)⟩, (by decide +kernel), (by intro x hx; simp at hx; exact hx), rfl, (by decide +kernel)⟩
set_option maxRecDepth 20000 in
theorem kcf_78 : CF kM_78 yX7_init [true] [] 0 := ⟨rfl, rfl, (by decide +kernel), kw_679, kw_308, ⟨(by decide +kernel), (by decide +kernel)⟩, (by decide +kernel), (by intro x hx; cases hx), rfl, (by decide +kernel)⟩
set_option maxRecDepth 20000 in
theorem kcf_79 : CF kM_79 yX7_options [true, true] [] 1 := ⟨rfl, rfl, (by decide +kernel), kw_680, kw_308, ⟨(by decide +kernel), (by decide +kernel)⟩, (by decide +kernel), (by intro x hx; cases hx), rfl, (by decide +kernel)⟩
set_option maxRecDepth 20000 in
theorem kcf_80 : CF kM_80 yX7_openHand [true] [] 0 := ⟨rfl, rfl, (by decide +kernel), kw_681, kw_308, ⟨(by decide +kernel), (by decide +kernel)⟩, (by decide +kernel), (by intro x hx; cases hx), rfl, (by decide +kernel)⟩
set_option maxRecDepth 20000 in
theorem kcf_81 : CF kM_81 yX7_gatherBars [true, true] [none] 1 := ⟨rfl, rfl, (by decide +kernel), kw_682, kw_308, ⟨(by decide +kernel), (by decide +kernel)⟩, (by decide +kernel), (by intro x hx; simp at hx; exact hx), rfl, (by decide +kernel)⟩
set_option maxRecDepth 20000 in
theorem kcf_82 : CF kM_82 yX7_weigh [true, true, true, true] [none, none] 3 := ⟨rfl, rfl, (by decide +kernel), kw_683, kw_308, ⟨(by decide +kernel), (by decide +kernel)⟩, (by decide +kernel), (by intro x hx; simp at hx; exact hx), rfl, (by decide +kernel)⟩
set_option maxRecDepth 20000 in
theorem kcf_83 : CF kM_83 yX7_bypass [true, true, true] [none, none, none] 2 := ⟨rfl, rfl, (by decide +kernel), kw_684, kw_308, ⟨(by decide +kernel), (by decide +kernel)⟩, (by decide +kernel), (by intro x hx; simp at hx; exact hx), rfl, (by decide +kernel)⟩
set_option maxRecDepth 20000 in
theorem kcf_84 : CF kM_84 yX7_strike [true, true, true] [none] 2 := ⟨rfl, rfl, (by decide +kernel), kw_685, kw_308, ⟨(by decide +kernel), (by decide +kernel)⟩, (by decide +kernel), (by intro x hx; simp at hx; exact hx), rfl, (by decide +kernel)⟩
set_option maxRecDepth 20000 in
theorem kcf_85 : CF kM_85 yX7_append [true] [none, none] 0 := ⟨rfl, rfl, (by decide +kernel), kw_686, kw_308, ⟨(by decide +kernel), (by decide +kernel)⟩, (by decide +kernel), (by intro x hx; simp at hx; exact hx), rfl, (by decide +kernel)⟩
set_option maxRecDepth 20000 in
theorem kcf_86 : CF kM_86 yX7_settle [true] [none] 0 := ⟨rfl, rfl, (by decide +kernel), kw_687, kw_308, ⟨(by decide +kernel), (by decide +kernel)⟩, (by decide +kernel), (by intro x hx; simp at hx; exact hx), rfl, (by decide +kernel)⟩
set_option maxRecDepth 20000 in
theorem kcf_87 : CF kM_87 yX7_makeNought [true] [] 0 := ⟨rfl, rfl, (by decide +kernel), kw_688, kw_308, ⟨(by decide +kernel), (by decide +kernel)⟩, (by decide +kernel), (by intro x hx; cases hx), rfl, (by decide +kernel)⟩
set_option maxRecDepth 20000 in
theorem kcf_88 : CF kM_88 yX7_markNext [true, true, true, true] [none, none] 3 := ⟨rfl, rfl, (by decide +kernel), kw_689, kw_308, ⟨(by decide +kernel), (by decide +kernel)⟩, (by decide +kernel), (by intro x hx; simp at hx; exact hx), rfl, (by decide +kernel)⟩
set_option maxRecDepth 20000 in
theorem kcf_89 : CF kM_89 yX7_markRests [true, true, true] [none] 2 := ⟨rfl, rfl, (by decide +kernel), kw_690, kw_308, ⟨(by decide +kernel), (by decide +kernel)⟩, (by decide +kernel), (by intro x hx; simp at hx; exact hx), rfl, (by decide +kernel)⟩
set_option maxRecDepth 20000 in
theorem kcf_90 : CF kM_90 yX7_offerRests [true, true, true, true] [none, none] 3 := ⟨rfl, rfl, (by decide +kernel), kw_691, kw_308, ⟨(by decide +kernel), (by decide +kernel)⟩, (by decide +kernel), (by intro x hx; simp at hx; exact hx), rfl, (by decide +kernel)⟩
set_option maxRecDepth 20000 in
theorem kcf_91 : CF kM_91 yX7_makeBoard [true, true] [none, none] 1 := ⟨rfl, rfl, (by decide +kernel), kw_692, kw_308, ⟨(by decide +kernel), (by decide +kernel)⟩, (by decide +kernel), (by intro x hx; simp at hx; exact hx), rfl, (by decide +kernel)⟩
set_option maxRecDepth 20000 in
theorem kcf_92 : CF kM_92 yX7_makePair [true, true, true] [] 2 := ⟨rfl, rfl, (by decide +kernel), kw_693, kw_308, ⟨(by decide +kernel), (by decide +kernel)⟩, (by decide +kernel), (by intro x hx; cases hx), rfl, (by decide +kernel)⟩
set_option maxRecDepth 20000 in
theorem kcf_93 : CF kM_93 yJ9_abs_0f7a4 [true] [] 1 := ⟨rfl, rfl, (by decide +kernel), kw_694, kw_614, ⟨(by decide +kernel), (by decide +kernel)⟩, (by decide +kernel), (by intro x hx; cases hx), rfl, (by decide +kernel)⟩
set_option maxRecDepth 20000 in
theorem kcf_94 : CF kM_94 yX7_between [true, true, true, true, true] [none, none, none, none, none, none, none] 4 := ⟨rfl, rfl, (by decide +kernel), kw_695, kw_308, ⟨(by decide +kernel), (by decide +kernel)⟩, (by decide +kernel), (by intro x hx; simp at hx; exact hx), rfl, (by decide +kernel)⟩
set_option maxRecDepth 20000 in
theorem kcf_95 : CF kM_95 yX7_makeNumber [true, true, true] [none, none, none, none, none, none] 2 := ⟨rfl, rfl, (by decide +kernel), kw_696, kw_308, ⟨(by decide +kernel), (by decide +kernel)⟩, (by decide +kernel), (by intro x hx; simp at hx; exact hx), rfl, (by decide +kernel)⟩
set_option maxRecDepth 20000 in
theorem kcf_96 : CF kM_96 yX7_makeUps [true, true, true] [none, none, none, none, none, none, none] 2 := ⟨rfl, rfl, (by decide +kernel), kw_697, kw_308, ⟨(by decide +kernel), (by decide +kernel)⟩, (by decide +kernel), (by intro x hx; simp at hx; exact hx), rfl, (by decide +kernel)⟩
set_option maxRecDepth 20000 in
theorem kcf_97 : CF kM_97 yX7_offerMade [true, true, true, true, true, true] [none, none, none] 5 := ⟨rfl, rfl, (by decide +kernel), kw_698, kw_308, ⟨(by decide +kernel), (by decide +kernel)⟩, (by decide +kernel), (by intro x hx; simp at hx; exact hx), rfl, (by decide +kernel)⟩
set_option maxRecDepth 20000 in
theorem kcf_98 : CF kM_98 yX7_bring [true, true] [none, none] 1 := ⟨rfl, rfl, (by decide +kernel), kw_699, kw_308, ⟨(by decide +kernel), (by decide +kernel)⟩, (by decide +kernel), (by intro x hx; simp at hx; exact hx), rfl, (by decide +kernel)⟩
set_option maxRecDepth 20000 in
theorem kcf_99 : CF kM_99 yX7_makeOf [true, true, true, true] [none, none] 3 := ⟨rfl, rfl, (by decide +kernel), kw_700, kw_308, ⟨(by decide +kernel), (by decide +kernel)⟩, (by decide +kernel), (by intro x hx; simp at hx; exact hx), rfl, (by decide +kernel)⟩
set_option maxRecDepth 20000 in
theorem kcf_100 : CF kM_100 yX7_makeSum [true, true, true] [none, none, none] 2 := ⟨rfl, rfl, (by decide +kernel), kw_701, kw_308, ⟨(by decide +kernel), (by decide +kernel)⟩, (by decide +kernel), (by intro x hx; simp at hx; exact hx), rfl, (by decide +kernel)⟩
set_option maxRecDepth 20000 in
theorem kcf_101 : CF kM_101 yX7_copy [true, true, true] [none] 2 := ⟨rfl, rfl, (by decide +kernel), kw_702, kw_308, ⟨(by decide +kernel), (by decide +kernel)⟩, (by decide +kernel), (by intro x hx; simp at hx; exact hx), rfl, (by decide +kernel)⟩
set_option maxRecDepth 20000 in
theorem kcf_102 : CF kM_102 yX7_relation [true, true, true] [none, none] 2 := ⟨rfl, rfl, (by decide +kernel), kw_703, kw_308, ⟨(by decide +kernel), (by decide +kernel)⟩, (by decide +kernel), (by intro x hx; simp at hx; exact hx), rfl, (by decide +kernel)⟩
set_option maxRecDepth 20000 in
theorem kcf_103 : CF kM_103 yX8_init [true] [none] 0 := ⟨rfl, rfl, (by decide +kernel), kw_704, kw_646, ⟨(by decide +kernel), (by decide +kernel)⟩, (by decide +kernel), (by intro x hx; simp at hx; exact hx), rfl, (by decide +kernel)⟩
set_option maxRecDepth 20000 in
theorem kcf_104 : CF kM_104 yX8_isBoard [true] [] 1 := ⟨rfl, rfl, (by decide +kernel), kw_705, kw_646, ⟨(by decide +kernel), (by decide +kernel)⟩, (by decide +kernel), (by intro x hx; cases hx), rfl, (by decide +kernel)⟩
set_option maxRecDepth 20000 in
theorem kcf_105 : CF kM_105 yX8_row [true, true, true, true] [] 3 := ⟨rfl, rfl, (by decide +kernel), kw_706, kw_646, ⟨(by decide +kernel), (by decide +kernel)⟩, (by decide +kernel), (by intro x hx; cases hx), rfl, (by decide +kernel)⟩
set_option maxRecDepth 20000 in
theorem kcf_106 : CF kM_106 yX8_field [true, true, true] [] 2 := ⟨rfl, rfl, (by decide +kernel), kw_707, kw_646, ⟨(by decide +kernel), (by decide +kernel)⟩, (by decide +kernel), (by intro x hx; cases hx), rfl, (by decide +kernel)⟩
set_option maxRecDepth 20000 in
theorem kcf_107 : CF kM_107 yX8_fields [true, true] [] 1 := ⟨rfl, rfl, (by decide +kernel), kw_708, kw_646, ⟨(by decide +kernel), (by decide +kernel)⟩, (by decide +kernel), (by intro x hx; cases hx), rfl, (by decide +kernel)⟩
set_option maxRecDepth 20000 in
theorem kcf_108 : CF kM_108 yX8_parts [true, true] [] 1 := ⟨rfl, rfl, (by decide +kernel), kw_709, kw_646, ⟨(by decide +kernel), (by decide +kernel)⟩, (by decide +kernel), (by intro x hx; cases hx), rfl, (by decide +kernel)⟩
set_option maxRecDepth 20000 in
theorem kcf_109 : CF kM_109 yX8_moves [true, true, true] [] 2 := ⟨rfl, rfl, (by decide +kernel), kw_710, kw_646, ⟨(by decide +kernel), (by decide +kernel)⟩, (by decide +kernel), (by intro x hx; cases hx), rfl, (by decide +kernel)⟩
set_option maxRecDepth 20000 in
theorem kcf_110 : CF kM_110 yX8_lay [true, true, true, true] [] 3 := ⟨rfl, rfl, (by decide +kernel), kw_711, kw_646, ⟨(by decide +kernel), (by decide +kernel)⟩, (by decide +kernel), (by intro x hx; cases hx), rfl, (by decide +kernel)⟩
set_option maxRecDepth 20000 in
theorem kcf_111 : CF kM_111 yX8_lift [true, true] [] 1 := ⟨rfl, rfl, (by decide +kernel), kw_712, kw_646, ⟨(by decide +kernel), (by decide +kernel)⟩, (by decide +kernel), (by intro x hx; cases hx), rfl, (by decide +kernel)⟩
set_option maxRecDepth 20000 in
theorem kcf_112 : CF kM_112 yX8_quarter [true, true, true] [] 2 := ⟨rfl, rfl, (by decide +kernel), kw_713, kw_646, ⟨(by decide +kernel), (by decide +kernel)⟩, (by decide +kernel), (by intro x hx; cases hx), rfl, (by decide +kernel)⟩
set_option maxRecDepth 20000 in
theorem kcf_113 : CF kM_113 yX8_isSpot [true] [] 1 := ⟨rfl, rfl, (by decide +kernel), kw_714, kw_646, ⟨(by decide +kernel), (by decide +kernel)⟩, (by decide +kernel), (by intro x hx; cases hx), rfl, (by decide +kernel)⟩
set_option maxRecDepth 20000 in
theorem kcf_114 : CF kM_114 yX8_keep [true, true, true] [] 2 := ⟨rfl, rfl, (by decide +kernel), kw_715, kw_646, ⟨(by decide +kernel), (by decide +kernel)⟩, (by decide +kernel), (by intro x hx; cases hx), rfl, (by decide +kernel)⟩
set_option maxRecDepth 20000 in
theorem kcf_115 : CF kM_115 yX8_worth [true, true, true] [] 2 := ⟨rfl, rfl, (by decide +kernel), kw_716, kw_646, ⟨(by decide +kernel), (by decide +kernel)⟩, (by decide +kernel), (by intro x hx; cases hx), rfl, (by decide +kernel)⟩
set_option maxRecDepth 20000 in
theorem kcf_116 : CF kM_116 yX8_number [true, true, true, true] [] 3 := ⟨rfl, rfl, (by decide +kernel), kw_717, kw_646, ⟨(by decide +kernel), (by decide +kernel)⟩, (by decide +kernel), (by intro x hx; cases hx), rfl, (by decide +kernel)⟩
set_option maxRecDepth 20000 in
theorem kcf_117 : CF kM_117 yX8_up [true, true, true, true] [] 3 := ⟨rfl, rfl, (by decide +kernel), kw_718, kw_646, ⟨(by decide +kernel), (by decide +kernel)⟩, (by decide +kernel), (by intro x hx; cases hx), rfl, (by decide +kernel)⟩
set_option maxRecDepth 20000 in
theorem kcf_118 : CF kM_118 yX8_isSpotSet [true] [] 1 := ⟨rfl, rfl, (by decide +kernel), kw_719, kw_646, ⟨(by decide +kernel), (by decide +kernel)⟩, (by decide +kernel), (by intro x hx; cases hx), rfl, (by decide +kernel)⟩
set_option maxRecDepth 20000 in
theorem kcf_119 : CF kM_119 yX8_isTooDeep [true, true] [none] 1 := ⟨rfl, rfl, (by decide +kernel), kw_720, kw_646, ⟨(by decide +kernel), (by decide +kernel)⟩, (by decide +kernel), (by intro x hx; simp at hx; exact hx), rfl, (by decide +kernel)⟩
set_option maxRecDepth 20000 in
theorem kcf_120 : CF kM_120 yX8_sizeOf [true, true] [none, none] 1 := ⟨rfl, rfl, (by decide +kernel), kw_721, kw_646, ⟨(by decide +kernel), (by decide +kernel)⟩, (by decide +kernel), (by intro x hx; simp at hx; exact hx), rfl, (by decide +kernel)⟩
set_option maxRecDepth 20000 in
theorem kcf_121 : CF kM_121 yX8_game [true, true, true, true] [] 3 := ⟨rfl, rfl, (by decide +kernel), kw_722, kw_646, ⟨(by decide +kernel), (by decide +kernel)⟩, (by decide +kernel), (by intro x hx; cases hx), rfl, (by decide +kernel)⟩
set_option maxRecDepth 20000 in
theorem kcf_122 : CF kM_122 yX8_add [true, true, true, true] [] 3 := ⟨rfl, rfl, (by decide +kernel), kw_723, kw_646, ⟨(by decide +kernel), (by decide +kernel)⟩, (by decide +kernel), (by intro x hx; cases hx), rfl, (by decide +kernel)⟩
set_option maxRecDepth 20000 in
theorem kcf_123 : CF kM_123 yX8_turn [true, true, true] [] 2 := ⟨rfl, rfl, (by decide +kernel), kw_724, kw_646, ⟨(by decide +kernel), (by decide +kernel)⟩, (by decide +kernel), (by intro x hx; cases hx), rfl, (by decide +kernel)⟩
set_option maxRecDepth 20000 in
theorem kcf_124 : CF kM_124 yX8_option [true, true, true, true, true] [none] 4 := ⟨rfl, rfl, (by decide +kernel), kw_725, kw_646, ⟨(by decide +kernel), (by decide +kernel)⟩, (by decide +kernel), (by intro x hx; simp at hx; exact hx), rfl, (by decide +kernel)⟩
set_option maxRecDepth 20000 in
theorem kcf_125 : CF kM_125 yX8_told [true, true, true] [none] 2 := ⟨rfl, rfl, (by decide +kernel), kw_726, kw_646, ⟨(by decide +kernel), (by decide +kernel)⟩, (by decide +kernel), (by intro x hx; simp at hx; exact hx), rfl, (by decide +kernel)⟩
set_option maxRecDepth 20000 in
theorem kcf_126 : CF kM_126 yX8_compare [true, true, true] [] 2 := ⟨rfl, rfl, (by decide +kernel), kw_727, kw_646, ⟨(by decide +kernel), (by decide +kernel)⟩, (by decide +kernel), (by intro x hx; cases hx), rfl, (by decide +kernel)⟩
set_option maxRecDepth 20000 in
theorem kcf_127 : CF kM_127 yX8_wins [true, true] [] 1 := ⟨rfl, rfl, (by decide +kernel), kw_728, kw_646, ⟨(by decide +kernel), (by decide +kernel)⟩, (by decide +kernel), (by intro x hx; cases hx), rfl, (by decide +kernel)⟩
set_option maxRecDepth 20000 in
theorem kcf_128 : CF kM_128 yX8_isPartOfValue [true] [] 1 := ⟨rfl, rfl, (by decide +kernel), kw_729, kw_646, ⟨(by decide +kernel), (by decide +kernel)⟩, (by decide +kernel), (by intro x hx; cases hx), rfl, (by decide +kernel)⟩
set_option maxRecDepth 20000 in
theorem kcf_129 : CF kM_129 yX8_value [true, true, true] [] 2 := ⟨rfl, rfl, (by decide +kernel), kw_730, kw_646, ⟨(by decide +kernel), (by decide +kernel)⟩, (by decide +kernel), (by intro x hx; cases hx), rfl, (by decide +kernel)⟩
set_option maxRecDepth 20000 in
theorem kcf_130 : CF kM_130 yX8_ups [true, true, true] [] 2 := ⟨rfl, rfl, (by decide +kernel), kw_731, kw_646, ⟨(by decide +kernel), (by decide +kernel)⟩, (by decide +kernel), (by intro x hx; cases hx), rfl, (by decide +kernel)⟩
set_option maxRecDepth 20000 in
theorem kcf_131 : CF kM_131 yX8_stop [true, true, true, true] [] 3 := ⟨rfl, rfl, (by decide +kernel), kw_732, kw_646, ⟨(by decide +kernel), (by decide +kernel)⟩, (by decide +kernel), (by intro x hx; cases hx), rfl, (by decide +kernel)⟩
set_option maxRecDepth 20000 in
theorem kcf_132 : CF kM_132 yX8_layOut [true, true, true] [none, none] 2 := ⟨rfl, rfl, (by decide +kernel), kw_733, kw_646, ⟨(by decide +kernel), (by decide +kernel)⟩, (by decide +kernel), (by intro x hx; simp at hx; exact hx), rfl, (by decide +kernel)⟩
set_option maxRecDepth 20000 in
theorem kcf_133 : CF kM_133 yX8_beginner [true, true, true] [none] 2 := ⟨rfl, rfl, (by decide +kernel), kw_734, kw_646, ⟨(by decide +kernel), (by decide +kernel)⟩, (by decide +kernel), (by intro x hx; simp at hx; exact hx), rfl, (by decide +kernel)⟩
set_option maxRecDepth 20000 in
theorem kcf_134 : CF kM_134 yX8_best [true, true, true] [none, none] 2 := ⟨rfl, rfl, (by decide +kernel), kw_735, kw_646, ⟨(by decide +kernel), (by decide +kernel)⟩, (by decide +kernel), (by intro x hx; simp at hx; exact hx), rfl, (by decide +kernel)⟩
set_option maxRecDepth 20000 in
theorem kcf_135 : CF kM_135 yX9_init [true] [none] 0 := ⟨rfl, rfl, (by decide +kernel), kw_736, kw_737, ⟨(by decide +kernel), (by decide +kernel)⟩, (by decide +kernel), (by intro x hx; simp at hx; exact hx), rfl, (by decide +kernel)⟩
set_option maxRecDepth 20000 in
theorem kcf_136 : CF kM_136 yX9_isBoard [true] [] 1 := ⟨rfl, rfl, (by decide +kernel), kw_738, kw_737, ⟨(by decide +kernel), (by decide +kernel)⟩, (by decide +kernel), (by intro x hx; cases hx), rfl, (by decide +kernel)⟩
set_option maxRecDepth 20000 in
theorem kcf_137 : CF kM_137 yX9_isFree [true, true] [] 2 := ⟨rfl, rfl, (by decide +kernel), kw_739, kw_737, ⟨(by decide +kernel), (by decide +kernel)⟩, (by decide +kernel), (by intro x hx; cases hx), rfl, (by decide +kernel)⟩
set_option maxRecDepth 20000 in
theorem kcf_138 : CF kM_138 yX9_count [true] [none, none] 1 := ⟨rfl, rfl, (by decide +kernel), kw_740, kw_737, ⟨(by decide +kernel), (by decide +kernel)⟩, (by decide +kernel), (by intro x hx; simp at hx; exact hx), rfl, (by decide +kernel)⟩
set_option maxRecDepth 20000 in
theorem kcf_139 : CF kM_139 yX9_row [true, true, true, true] [] 3 := ⟨rfl, rfl, (by decide +kernel), kw_741, kw_737, ⟨(by decide +kernel), (by decide +kernel)⟩, (by decide +kernel), (by intro x hx; cases hx), rfl, (by decide +kernel)⟩
set_option maxRecDepth 20000 in
theorem kcf_140 : CF kM_140 yX9_field [true, true, true] [] 2 := ⟨rfl, rfl, (by decide +kernel), kw_742, kw_737, ⟨(by decide +kernel), (by decide +kernel)⟩, (by decide +kernel), (by intro x hx; cases hx), rfl, (by decide +kernel)⟩
set_option maxRecDepth 20000 in
theorem kcf_141 : CF kM_141 yX9_fields [true, true] [] 1 := ⟨rfl, rfl, (by decide +kernel), kw_743, kw_737, ⟨(by decide +kernel), (by decide +kernel)⟩, (by decide +kernel), (by intro x hx; cases hx), rfl, (by decide +kernel)⟩
set_option maxRecDepth 20000 in
theorem kcf_142 : CF kM_142 yX9_parts [true, true] [none, none, none, none, none] 1 := ⟨rfl, rfl, (by decide +kernel), kw_744, kw_737, ⟨(by decide +kernel), (by decide +kernel)⟩, (by decide +kernel), (by intro x hx; simp at hx; exact hx), rfl, (by decide +kernel)⟩
set_option maxRecDepth 20000 in
theorem kcf_143 : CF kM_143 yX9_second [true, true, true] [none] 3 := ⟨rfl, rfl, (by decide +kernel), kw_745, kw_737, ⟨(by decide +kernel), (by decide +kernel)⟩, (by decide +kernel), (by intro x hx; simp at hx; exact hx), rfl, (by decide +kernel)⟩
set_option maxRecDepth 20000 in
theorem kcf_144 : CF kM_144 yX9_moves [true, true, true] [none, none] 2 := ⟨rfl, rfl, (by decide +kernel), kw_746, kw_737, ⟨(by decide +kernel), (by decide +kernel)⟩, (by decide +kernel), (by intro x hx; simp at hx; exact hx), rfl, (by decide +kernel)⟩
set_option maxRecDepth 20000 in
theorem kcf_145 : CF kM_145 yX9_lay [true, true, true, true] [none] 3 := ⟨rfl, rfl, (by decide +kernel), kw_747, kw_737, ⟨(by decide +kernel), (by decide +kernel)⟩, (by decide +kernel), (by intro x hx; simp at hx; exact hx), rfl, (by decide +kernel)⟩
set_option maxRecDepth 20000 in
theorem kcf_146 : CF kM_146 yX9_lift [true, true] [none] 1 := ⟨rfl, rfl, (by decide +kernel), kw_748, kw_737, ⟨(by decide +kernel), (by decide +kernel)⟩, (by decide +kernel), (by intro x hx; simp at hx; exact hx), rfl, (by decide +kernel)⟩
set_option maxRecDepth 20000 in
theorem kcf_147 : CF kM_147 yX9_quarter [true, true, true] [none, none, none] 2 := ⟨rfl, rfl, (by decide +kernel), kw_749, kw_737, ⟨(by decide +kernel), (by decide +kernel)⟩, (by decide +kernel), (by intro x hx; simp at hx; exact hx), rfl, (by decide +kernel)⟩
set_option maxRecDepth 20000 in
theorem kcf_148 : CF kM_148 yX9_isLeast [true, true, true] [] 2 := ⟨rfl, rfl, (by decide +kernel), kw_750, kw_737, ⟨(by decide +kernel), (by decide +kernel)⟩, (by decide +kernel), (by intro x hx; cases hx), rfl, (by decide +kernel)⟩
set_option maxRecDepth 20000 in
theorem kcf_149 : CF kM_149 yX9_leftOf [true, true, true] [] 2 := ⟨rfl, rfl, (by decide +kernel), kw_751, kw_737, ⟨(by decide +kernel), (by decide +kernel)⟩, (by decide +kernel), (by intro x hx; cases hx), rfl, (by decide +kernel)⟩
set_option maxRecDepth 20000 in
theorem kcf_150 : CF kM_150 yX9_rightOf [true, true, true] [] 2 := ⟨rfl, rfl, (by decide +kernel), kw_752, kw_737, ⟨(by decide +kernel), (by decide +kernel)⟩, (by decide +kernel), (by intro x hx; cases hx), rfl, (by decide +kernel)⟩
set_option maxRecDepth 20000 in
theorem kcf_151 : CF kM_151 yX9_order [true, true, true] [none, none, none, none, none] 2 := ⟨rfl, rfl, (by decide +kernel), kw_753, kw_737, ⟨(by decide +kernel), (by decide +kernel)⟩, (by decide +kernel), (by intro x hx; simp at hx; exact hx), rfl, (by decide +kernel)⟩
set_option maxRecDepth 20000 in
theorem kcf_152 : CF kM_152 yX9_once [true, true] [none, none, none, none] 2 := ⟨rfl, rfl, (by decide +kernel), kw_754, kw_737, ⟨(by decide +kernel), (by decide +kernel)⟩, (by decide +kernel), (by intro x hx; simp at hx; exact hx), rfl, (by decide +kernel)⟩
set_option maxRecDepth 20000 in
theorem kcf_153 : CF kM_153 yX9_sort [true, true, true] [none, none, none] 2 := ⟨rfl, rfl, (by decide +kernel), kw_755, kw_737, ⟨(by decide +kernel), (by decide +kernel)⟩, (by decide +kernel), (by intro x hx; simp at hx; exact hx), rfl, (by decide +kernel)⟩
set_option maxRecDepth 20000 in
theorem kcf_154 : CF kM_154 yX9_compareNew [true] [none, none, none, none] 0 := ⟨rfl, rfl, (by decide +kernel), kw_756, kw_737, ⟨(by decide +kernel), (by decide +kernel)⟩, (by decide +kernel), (by intro x hx; simp at hx; exact hx), rfl, (by decide +kernel)⟩
set_option maxRecDepth 20000 in
theorem kcf_155 : CF kM_155 yX9_replaceLeft [true] [none, none, none, none, none] 0 := ⟨rfl, rfl, (by decide +kernel), kw_757, kw_737, ⟨(by decide +kernel), (by decide +kernel)⟩, (by decide +kernel), (by intro x hx; simp at hx; exact hx), rfl, (by decide +kernel)⟩
set_option maxRecDepth 20000 in
theorem kcf_156 : CF kM_156 yX9_replaceRight [true] [none, none, none, none, none] 0 := ⟨rfl, rfl, (by decide +kernel), kw_758, kw_737, ⟨(by decide +kernel), (by decide +kernel)⟩, (by decide +kernel), (by intro x hx; simp at hx; exact hx), rfl, (by decide +kernel)⟩
set_option maxRecDepth 20000 in
theorem kcf_157 : CF kM_157 yX9_leaveOut [true] [none, none, none, none] 0 := ⟨rfl, rfl, (by decide +kernel), kw_759, kw_737, ⟨(by decide +kernel), (by decide +kernel)⟩, (by decide +kernel), (by intro x hx; simp at hx; exact hx), rfl, (by decide +kernel)⟩
set_option maxRecDepth 20000 in
theorem kcf_158 : CF kM_158 yX9_isNew [true, true] [none, none] 1 := ⟨rfl, rfl, (by decide +kernel), kw_760, kw_737, ⟨(by decide +kernel), (by decide +kernel)⟩, (by decide +kernel), (by intro x hx; simp at hx; exact hx), rfl, (by decide +kernel)⟩
set_option maxRecDepth 20000 in
theorem kcf_159 : CF kM_159 yX9_keepNew [true] [none] 0 := ⟨rfl, rfl, (by decide +kernel), kw_761, kw_737, ⟨(by decide +kernel), (by decide +kernel)⟩, (by decide +kernel), (by intro x hx; simp at hx; exact hx), rfl, (by decide +kernel)⟩
set_option maxRecDepth 20000 in
theorem kcf_160 : CF kM_160 yX9_made [true] [none] 0 := ⟨rfl, rfl, (by decide +kernel), kw_762, kw_737, ⟨(by decide +kernel), (by decide +kernel)⟩, (by decide +kernel), (by intro x hx; simp at hx; exact hx), rfl, (by decide +kernel)⟩
set_option maxRecDepth 20000 in
theorem kcf_161 : CF kM_161 yX9_clearNew [true] [] 0 := ⟨rfl, rfl, (by decide +kernel), kw_763, kw_737, ⟨(by decide +kernel), (by decide +kernel)⟩, (by decide +kernel), (by intro x hx; cases hx), rfl, (by decide +kernel)⟩
set_option maxRecDepth 20000 in
theorem kcf_162 : CF kM_162 yX9_begin [true] [none] 0 := ⟨rfl, rfl, (by decide +kernel), kw_764, kw_737, ⟨(by decide +kernel), (by decide +kernel)⟩, (by decide +kernel), (by intro x hx; simp at hx; exact hx), rfl, (by decide +kernel)⟩
set_option maxRecDepth 20000 in
theorem kcf_163 : CF kM_163 yX9_load [true, true] [none, none, none, none] 1 := ⟨rfl, rfl, (by decide +kernel), kw_765, kw_737, ⟨(by decide +kernel), (by decide +kernel)⟩, (by decide +kernel), (by intro x hx; simp at hx; exact hx), rfl, (by decide +kernel)⟩
set_option maxRecDepth 20000 in
theorem kcf_164 : CF kM_164 yX9_save [true, true, true] [none, none, none, none, none] 2 := ⟨rfl, rfl, (by decide +kernel), kw_766, kw_737, ⟨(by decide +kernel), (by decide +kernel)⟩, (by decide +kernel), (by intro x hx; simp at hx; exact hx), rfl, (by decide +kernel)⟩
set_option maxRecDepth 20000 in
theorem kcf_165 : CF kM_165 yX9_isSpot [true] [] 1 := ⟨rfl, rfl, (by decide +kernel), kw_767, kw_737, ⟨(by decide +kernel), (by decide +kernel)⟩, (by decide +kernel), (by intro x hx; cases hx), rfl, (by decide +kernel)⟩
set_option maxRecDepth 20000 in
theorem kcf_166 : CF kM_166 yX9_addMoves [true, true, true] [none, none] 2 := ⟨rfl, rfl, (by decide +kernel), kw_768, kw_737, ⟨(by decide +kernel), (by decide +kernel)⟩, (by decide +kernel), (by intro x hx; simp at hx; exact hx), rfl, (by decide +kernel)⟩
set_option maxRecDepth 20000 in
theorem kcf_167 : CF kM_167 yX9_worth [true, true, true] [none, none, none, none] 2 := ⟨rfl, rfl, (by decide +kernel), kw_769, kw_737, ⟨(by decide +kernel), (by decide +kernel)⟩, (by decide +kernel), (by intro x hx; simp at hx; exact hx), rfl, (by decide +kernel)⟩
set_option maxRecDepth 20000 in
theorem kcf_168 : CF kM_168 yX9_madeOf [true, true, true] [] 2 := ⟨rfl, rfl, (by decide +kernel), kw_770, kw_737, ⟨(by decide +kernel), (by decide +kernel)⟩, (by decide +kernel), (by intro x hx; cases hx), rfl, (by decide +kernel)⟩
set_option maxRecDepth 20000 in
theorem kcf_169 : CF kM_169 yX9_numbered [true, true, true] [none, none, none] 2 := ⟨rfl, rfl, (by decide +kernel), kw_771, kw_737, ⟨(by decide +kernel), (by decide +kernel)⟩, (by decide +kernel), (by intro x hx; simp at hx; exact hx), rfl, (by decide +kernel)⟩
set_option maxRecDepth 20000 in
theorem kcf_170 : CF kM_170 yX9_number [true, true, true, true] [] 3 := ⟨rfl, rfl, (by decide +kernel), kw_772, kw_737, ⟨(by decide +kernel), (by decide +kernel)⟩, (by decide +kernel), (by intro x hx; cases hx), rfl, (by decide +kernel)⟩
set_option maxRecDepth 20000 in
theorem kcf_171 : CF kM_171 yX9_followers [true, true, true] [none, none] 2 := ⟨rfl, rfl, (by decide +kernel), kw_773, kw_737, ⟨(by decide +kernel), (by decide +kernel)⟩, (by decide +kernel), (by intro x hx; simp at hx; exact hx), rfl, (by decide +kernel)⟩
set_option maxRecDepth 20000 in
theorem kcf_172 : CF kM_172 yX9_summed [true, true, true] [none, none, none, none, none, none, none] 2 := ⟨rfl, rfl, (by decide +kernel), kw_774, kw_737, ⟨(by decide +kernel), (by decide +kernel)⟩, (by decide +kernel), (by intro x hx; simp at hx; exact hx), rfl, (by decide +kernel)⟩
set_option maxRecDepth 20000 in
theorem kcf_173 : CF kM_173 yX9_up [true, true, true, true] [none, none, none, none] 3 := ⟨rfl, rfl, (by decide +kernel), kw_775, kw_737, ⟨(by decide +kernel), (by decide +kernel)⟩, (by decide +kernel), (by intro x hx; simp at hx; exact hx), rfl, (by decide +kernel)⟩
set_option maxRecDepth 20000 in
theorem kcf_174 : CF kM_174 yX9_deepOf [true, true] [] 1 := ⟨rfl, rfl, (by decide +kernel), kw_776, kw_737, ⟨(by decide +kernel), (by decide +kernel)⟩, (by decide +kernel), (by intro x hx; cases hx), rfl, (by decide +kernel)⟩
set_option maxRecDepth 20000 in
theorem kcf_175 : CF kM_175 yX9_game [true, true, true, true] [none, none, none, none] 3 := ⟨rfl, rfl, (by decide +kernel), kw_777, kw_737, ⟨(by decide +kernel), (by decide +kernel)⟩, (by decide +kernel), (by intro x hx; simp at hx; exact hx), rfl, (by decide +kernel)⟩
set_option maxRecDepth 20000 in
theorem kcf_176 : CF kM_176 yX9_add [true, true, true, true] [none, none] 3 := ⟨rfl, rfl, (by decide +kernel), kw_778, kw_737, ⟨(by decide +kernel), (by decide +kernel)⟩, (by decide +kernel), (by intro x hx; simp at hx; exact hx), rfl, (by decide +kernel)⟩
set_option maxRecDepth 20000 in
theorem kcf_177 : CF kM_177 yX9_turn [true, true, true] [none, none, none, none] 2 := ⟨rfl, rfl, (by decide +kernel), kw_779, kw_737, ⟨(by decide +kernel), (by decide +kernel)⟩, (by decide +kernel), (by intro x hx; simp at hx; exact hx), rfl, (by decide +kernel)⟩
set_option maxRecDepth 20000 in
theorem kcf_178 : CF kM_178 yX9_option [true, true, true, true, true] [none] 4 := ⟨rfl, rfl, (by decide +kernel), kw_780, kw_737, ⟨(by decide +kernel), (by decide +kernel)⟩, (by decide +kernel), (by intro x hx; simp at hx; exact hx), rfl, (by decide +kernel)⟩
set_option maxRecDepth 20000 in
theorem kcf_179 : CF kM_179 yX9_smaller [true, false, true, false] [none, none, none, none] 4 := ⟨rfl, rfl, (by decide +kernel), kw_781, kw_737, ⟨(by decide +kernel), (by decide +kernel)⟩, (by decide +kernel), (by intro x hx; simp at hx; exact hx), rfl, (by decide +kernel)⟩
set_option maxRecDepth 20000 in
theorem kcf_180 : CF kM_180 yX9_setValue [true, false, true, true] [none, none, none] 3 := ⟨rfl, rfl, (by decide +kernel), kw_782, kw_737, ⟨(by decide +kernel), (by decide +kernel)⟩, (by decide +kernel), (by intro x hx; simp at hx; exact hx), rfl, (by decide +kernel)⟩
set_option maxRecDepth 20000 in
theorem kcf_181 : CF kM_181 yX9_findValue [true, true, true] [none, none, none, none, none, none, none] 2 := ⟨rfl, rfl, (by decide +kernel), kw_783, kw_737, ⟨(by decide +kernel), (by decide +kernel)⟩, (by decide +kernel), (by intro x hx; simp at hx; exact hx), rfl, (by decide +kernel)⟩
set_option maxRecDepth 20000 in
theorem kcf_182 : CF kM_182 yX9_findStops [true, true, true] [none, none, none, none, none, none, none] 2 := ⟨rfl, rfl, (by decide +kernel), kw_784, kw_737, ⟨(by decide +kernel), (by decide +kernel)⟩, (by decide +kernel), (by intro x hx; simp at hx; exact hx), rfl, (by decide +kernel)⟩
set_option maxRecDepth 20000 in
theorem kcf_183 : CF kM_183 yX9_findValues [true, true] [none] 1 := ⟨rfl, rfl, (by decide +kernel), kw_785, kw_737, ⟨(by decide +kernel), (by decide +kernel)⟩, (by decide +kernel), (by intro x hx; simp at hx; exact hx), rfl, (by decide +kernel)⟩
set_option maxRecDepth 20000 in
theorem kcf_184 : CF kM_184 yX9_isSwitch [true, true] [none, none, none] 1 := ⟨rfl, rfl, (by decide +kernel), kw_786, kw_737, ⟨(by decide +kernel), (by decide +kernel)⟩, (by decide +kernel), (by intro x hx; simp at hx; exact hx), rfl, (by decide +kernel)⟩
set_option maxRecDepth 20000 in
theorem kcf_185 : CF kM_185 yX9_upsOf [true, true] [none, none, none, none, none, none, none, none] 1 := ⟨rfl, rfl, (by decide +kernel), kw_787, kw_737, ⟨(by decide +kernel), (by decide +kernel)⟩, (by decide +kernel), (by intro x hx; simp at hx; exact hx), rfl, (by decide +kernel)⟩
set_option maxRecDepth 20000 in
theorem kcf_186 : CF kM_186 yX9_kindOf [true, true] [none] 1 := ⟨rfl, rfl, (by decide +kernel), kw_788, kw_737, ⟨(by decide +kernel), (by decide +kernel)⟩, (by decide +kernel), (by intro x hx; simp at hx; exact hx), rfl, (by decide +kernel)⟩
set_option maxRecDepth 20000 in
theorem kcf_187 : CF kM_187 yX9_told [true, true, true] [none] 2 := ⟨rfl, rfl, (by decide +kernel), kw_789, kw_737, ⟨(by decide +kernel), (by decide +kernel)⟩, (by decide +kernel), (by intro x hx; simp at hx; exact hx), rfl, (by decide +kernel)⟩
set_option maxRecDepth 20000 in
theorem kcf_188 : CF kM_188 yX9_compare [true, true, true] [none, none] 2 := ⟨rfl, rfl, (by decide +kernel), kw_790, kw_737, ⟨(by decide +kernel), (by decide +kernel)⟩, (by decide +kernel), (by intro x hx; simp at hx; exact hx), rfl, (by decide +kernel)⟩
set_option maxRecDepth 20000 in
theorem kcf_189 : CF kM_189 yX9_wins [true, true] [none] 1 := ⟨rfl, rfl, (by decide +kernel), kw_791, kw_737, ⟨(by decide +kernel), (by decide +kernel)⟩, (by decide +kernel), (by intro x hx; simp at hx; exact hx), rfl, (by decide +kernel)⟩
set_option maxRecDepth 20000 in
theorem kcf_190 : CF kM_190 yX9_value [true, true, true] [none] 2 := ⟨rfl, rfl, (by decide +kernel), kw_792, kw_737, ⟨(by decide +kernel), (by decide +kernel)⟩, (by decide +kernel), (by intro x hx; simp at hx; exact hx), rfl, (by decide +kernel)⟩
set_option maxRecDepth 20000 in
theorem kcf_191 : CF kM_191 yX9_ups [true, true, true] [none, none] 2 := ⟨rfl, rfl, (by decide +kernel), kw_793, kw_737, ⟨(by decide +kernel), (by decide +kernel)⟩, (by decide +kernel), (by intro x hx; simp at hx; exact hx), rfl, (by decide +kernel)⟩
set_option maxRecDepth 20000 in
theorem kcf_192 : CF kM_192 yX9_stop [true, true, true, true] [none] 3 := ⟨rfl, rfl, (by decide +kernel), kw_794, kw_737, ⟨(by decide +kernel), (by decide +kernel)⟩, (by decide +kernel), (by intro x hx; simp at hx; exact hx), rfl, (by decide +kernel)⟩
set_option maxRecDepth 20000 in
theorem kcf_193 : CF kM_193 yX9_findFields [true, true] [none, none, none] 1 := ⟨rfl, rfl, (by decide +kernel), kw_795, kw_737, ⟨(by decide +kernel), (by decide +kernel)⟩, (by decide +kernel), (by intro x hx; simp at hx; exact hx), rfl, (by decide +kernel)⟩
set_option maxRecDepth 20000 in
theorem kcf_194 : CF kM_194 yX9_without [true, true, true, true, true] [none, none, none] 4 := ⟨rfl, rfl, (by decide +kernel), kw_796, kw_737, ⟨(by decide +kernel), (by decide +kernel)⟩, (by decide +kernel), (by intro x hx; simp at hx; exact hx), rfl, (by decide +kernel)⟩
set_option maxRecDepth 20000 in
theorem kcf_195 : CF kM_195 yX9_findWins [true, true] [none, none, none, none, none] 1 := ⟨rfl, rfl, (by decide +kernel), kw_797, kw_737, ⟨(by decide +kernel), (by decide +kernel)⟩, (by decide +kernel), (by intro x hx; simp at hx; exact hx), rfl, (by decide +kernel)⟩
set_option maxRecDepth 20000 in
theorem kcf_196 : CF kM_196 yX9_beginner [true, true, true] [none] 2 := ⟨rfl, rfl, (by decide +kernel), kw_798, kw_737, ⟨(by decide +kernel), (by decide +kernel)⟩, (by decide +kernel), (by intro x hx; simp at hx; exact hx), rfl, (by decide +kernel)⟩
set_option maxRecDepth 20000 in
theorem kcf_197 : CF kM_197 yX9_best [true, true, true] [none, none, none, none] 2 := ⟨rfl, rfl, (by decide +kernel), kw_799, kw_737, ⟨(by decide +kernel), (by decide +kernel)⟩, (by decide +kernel), (by intro x hx; simp at hx; exact hx), rfl, (by decide +kernel)⟩
