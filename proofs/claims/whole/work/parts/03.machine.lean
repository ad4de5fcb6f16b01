/-! THE TABLES: methods, fields, constants, calls, by numbers -/
abbrev Mrow : Type := MethodName × ByteArray × Nat × Option FieldType × Bool × Nat × Nat × Nat × Bool
def mt_0 : List Mrow := [(yX0_isKind, cX0_isKind, 1, some .boolean, true, 0, 0, 1, false),
  (yX0_isUnder, cX0_isUnder, 4, some .boolean, true, 0, 1, 2, false),
  (yX0_eats, cX0_eats, 3, some .int, true, 0, 1, 3, false),
  (yX0_poetEats, cX0_poetEats, 1, some .int, true, 0, 0, 1, false),
  (yX0_writes, cX0_writes, 2, some .int, true, 0, 0, 2, false),
  (yX0_isKept, cX0_isKept, 3, some .boolean, true, 0, 0, 3, false),
  (yX0_nameOf, cX0_nameOf, 1, some (.object "java/lang/String"), true, 0, 0, 1, false),
  (yX1_become, cX1_become, 2, none, false, 1, 0, 1, false),
  (yX1_isFull, cX1_isFull, 1, some .boolean, false, 1, 0, 0, false),
  (yX1_addWriter, cX1_addWriter, 5, some .int, false, 1, 1, 3, false),
  (yX1_row, cX1_row, 2, some (.array .int), false, 1, 0, 1, false),
  (yX1_eats, cX1_eats, 2, some .int, false, 1, 2, 1, false),
  (yX1_writes, cX1_writes, 2, some .int, false, 1, 1, 1, false),
  (yX1_nextLetter, cX1_nextLetter, 2, some .int, false, 1, 1, 1, false),
  (yX1_putNextLetter, cX1_putNextLetter, 3, none, false, 1, 2, 2, false),
  (yX1_draw, cX1_draw, 1, some .int, false, 1, 0, 0, false)]
def mt_1 : List Mrow := [(yX1_passDays, cX1_passDays, 4, none, false, 1, 5, 2, false),
  (yX1_dayGoesBy, cX1_dayGoesBy, 3, none, false, 1, 4, 1, false),
  (yX1_eatCatch, cX1_eatCatch, 7, none, false, 1, 3, 3, false),
  (yX1_keepBones, cX1_keepBones, 6, none, false, 1, 1, 3, false),
  (yX1_writeLetters, cX1_writeLetters, 5, none, false, 1, 2, 1, false),
  (yX1_cookSoup, cX1_cookSoup, 2, none, false, 1, 0, 0, false),
  (yX1_sumOf, cX1_sumOf, 5, some .int, false, 1, 1, 1, false),
  (yX1_lettersInJar, cX1_lettersInJar, 3, some .int, false, 1, 0, 0, false),
  (yX1_writersWhoWait, cX1_writersWhoWait, 3, some .int, false, 1, 2, 0, false),
  (yX1_lettersLacking, cX1_lettersLacking, 3, some .int, false, 1, 0, 0, false),
  (yX1_writersWhoStarve, cX1_writersWhoStarve, 3, some .int, false, 1, 0, 0, false),
  (yX1_spotsHeld, cX1_spotsHeld, 3, some .int, false, 1, 0, 0, false),
  (yX2_isMissing, cX2_isMissing, 1, some .boolean, false, 2, 0, 0, false),
  (yX2_begin, cX2_begin, 4, none, false, 2, 0, 2, false),
  (yX2_lowestBits, cX2_lowestBits, 2, some .int, false, 2, 0, 1, false),
  (yX2_has, cX2_has, 3, some .boolean, false, 2, 0, 2, false)]
def mt_2 : List Mrow := [(yX3_add, cX3_add, 2, none, false, 3, 0, 1, false),
  (yX3_readInto, cX3_readInto, 3, some .int, false, 3, 5, 1, false),
  (yX3_readItem, cX3_readItem, 3, some .boolean, false, 3, 4, 1, false),
  (yX3_readWriter, cX3_readWriter, 5, some .boolean, false, 3, 3, 2, false),
  (yX3_readFish, cX3_readFish, 3, some .boolean, false, 3, 3, 1, false),
  (yX3_readJar, cX3_readJar, 3, some .boolean, false, 3, 3, 1, false),
  (yX3_isName, cX3_isName, 3, some .boolean, false, 3, 0, 1, false),
  (yX3_isNumber, cX3_isNumber, 2, some .boolean, false, 3, 0, 1, false),
  (yX3_takeNumber, cX3_takeNumber, 2, some .int, false, 3, 2, 0, false),
  (yX3_toNextToken, cX3_toNextToken, 1, none, false, 3, 1, 0, false),
  (yX3_isSmallLetter, cX3_isSmallLetter, 1, some .boolean, true, 3, 0, 1, false),
  (yX3_isDigit, cX3_isDigit, 1, some .boolean, true, 3, 0, 1, false),
  (yX4_jar, cX4_jar, 4, some .int, false, 4, 2, 2, false),
  (yX4_bones, cX4_bones, 2, some .int, false, 4, 2, 1, false),
  (yX4_fish, cX4_fish, 6, some .int, false, 4, 2, 3, false),
  (yX4_fishOf, cX4_fishOf, 3, some .int, false, 4, 2, 2, false)]
def mt_3 : List Mrow := [(yX4_writer, cX4_writer, 3, some .int, false, 4, 2, 2, false),
  (yX4_of, cX4_of, 3, some .int, false, 4, 3, 2, false),
  (yX4_change, cX4_change, 6, some .int, false, 4, 2, 3, false),
  (yX4_keeps, cX4_keeps, 6, some .int, false, 4, 2, 2, false),
  (yX4_spells, cX4_spells, 5, some .int, false, 4, 2, 1, false),
  (yX4_go, cX4_go, 2, some .int, false, 4, 6, 1, false),
  (yX4_now, cX4_now, 2, some .int, false, 4, 3, 1, false),
  (yX4_ahead, cX4_ahead, 4, some .int, false, 4, 6, 3, false),
  (yX4_later, cX4_later, 3, some .int, false, 4, 6, 2, false),
  (yX4_when, cX4_when, 4, some .int, false, 4, 5, 2, false),
  (yX4_starves, cX4_starves, 2, some .int, false, 4, 6, 1, false),
  (yX4_out, cX4_out, 2, some .int, false, 4, 6, 1, false),
  (yX4_daysUntilNone, cX4_daysUntilNone, 4, some .int, false, 4, 5, 2, false),
  (yX4_catchFor, cX4_catchFor, 6, some .int, false, 4, 6, 1, false),
  (yX4_fewest, cX4_fewest, 6, some .int, false, 4, 6, 4, false),
  (yX4_letterFor, cX4_letterFor, 6, some .int, false, 4, 6, 2, false)]
def mt_4 : List Mrow := [(yX4_kindFor, cX4_kindFor, 6, some .int, false, 4, 6, 2, false),
  (yX4_away, cX4_away, 7, some .int, false, 4, 6, 3, false),
  (yX4_bonesFor, cX4_bonesFor, 7, some .int, false, 4, 6, 2, false),
  (yX4_fits, cX4_fits, 6, some .int, false, 4, 6, 2, false),
  (yX4_kinds, cX4_kinds, 6, some .int, false, 4, 6, 2, false),
  (yX4_findingOf, cX4_findingOf, 3, some .int, false, 4, 2, 2, false),
  (yX4_goesAsTold, cX4_goesAsTold, 4, some .boolean, false, 4, 5, 2, false),
  (yX4_texts, cX4_texts, 6, some .int, false, 4, 2, 1, false),
  (yX4_choices, cX4_choices, 5, some .long, true, 4, 0, 2, true),
  (yX4_catches, cX4_catches, 4, some .int, false, 4, 5, 1, false),
  (yX4_odds, cX4_odds, 11, some .long, false, 4, 2, 2, true),
  (yX4_commonDivisor, cX4_commonDivisor, 11, some .long, true, 4, 0, 2, true),
  (yX4_seed, cX4_seed, 3, some .int, false, 4, 0, 1, false),
  (yX4_feed, cX4_feed, 4, some .int, false, 4, 2, 2, false),
  (yX4_wipe, cX4_wipe, 2, some .int, false, 4, 0, 0, false),
  (yX4_text, cX4_text, 2, some .int, false, 4, 6, 0, false)]
def mt_5 : List Mrow := [(yX4_hold, cX4_hold, 3, some .int, false, 4, 2, 2, false),
  (yX4_as, cX4_as, 4, some .int, false, 4, 2, 2, false),
  (yX4_sheet, cX4_sheet, 4, some .int, false, 4, 2, 3, false),
  (yX4_write, cX4_write, 5, some .int, false, 4, 2, 3, false),
  (yX4_copy, cX4_copy, 8, some .int, false, 4, 2, 5, false),
  (yX4_load, cX4_load, 4, some .int, false, 4, 2, 1, false),
  (yX4_judge, cX4_judge, 4, some .int, false, 4, 2, 1, false),
  (yX4_image, cX4_image, 1, some .int, false, 4, 1, 0, false),
  (yX4_undo, cX4_undo, 1, some .int, false, 4, 2, 0, false),
  (yX4_tear, cX4_tear, 2, some .int, false, 4, 0, 0, false),
  (yX4_count, cX4_count, 2, some .int, false, 4, 2, 1, false),
  (yX4_status, cX4_status, 4, some .int, false, 4, 2, 1, false),
  (yX4_finding, cX4_finding, 2, some .int, false, 4, 1, 1, false),
  (yX4_isWriter, cX4_isWriter, 2, some .boolean, false, 4, 0, 1, false),
  (yX4_isLetter, cX4_isLetter, 1, some .boolean, true, 4, 1, 1, false),
  (yX4_isFish, cX4_isFish, 1, some .boolean, true, 4, 1, 1, false)]
def mt_6 : List Mrow := [(yX4_isSheet, cX4_isSheet, 1, some .boolean, true, 4, 1, 1, false),
  (yX4_within, cX4_within, 2, some .boolean, true, 4, 0, 2, false),
  (yX4_digit, cX4_digit, 2, some .int, true, 4, 0, 2, false),
  (yX4_bone, cX4_bone, 2, some .int, true, 4, 0, 2, false),
  (yX4_lettersOf, cX4_lettersOf, 1, some .int, true, 4, 1, 1, false),
  (yX4_howOften, cX4_howOften, 4, some .int, true, 4, 1, 2, false),
  (yX5_isIn, cX5_isIn, 6, some .boolean, true, 5, 0, 3, true),
  (yX5_finds, cX5_finds, 2, some .int, false, 5, 0, 1, false),
  (yX5_becomes, cX5_becomes, 4, some .int, false, 5, 0, 2, false),
  (yX5_copyRow, cX5_copyRow, 3, none, true, 5, 0, 2, false),
  (yX5_isLetter10, cX5_isLetter10, 1, some .boolean, true, 5, 0, 1, false),
  (yX5_isFish, cX5_isFish, 1, some .boolean, true, 5, 0, 1, false),
  (yX5_isWriter, cX5_isWriter, 2, some .boolean, false, 5, 0, 1, false),
  (yX5_at, cX5_at, 2, some .int, true, 5, 0, 2, false),
  (yX5_its, cX5_its, 3, some .int, false, 5, 0, 2, false),
  (yX5_least, cX5_least, 2, some .int, true, 5, 0, 2, false)]
def mt_7 : List Mrow := [(yX5_greatest, cX5_greatest, 2, some .int, true, 5, 0, 2, false),
  (yX5_orNone, cX5_orNone, 2, some .int, false, 5, 1, 1, false),
  (yX5_many, cX5_many, 3, some .int, true, 5, 0, 1, false),
  (yX5_digit, cX5_digit, 2, some .int, true, 5, 0, 2, false),
  (yX5_jar, cX5_jar, 3, some .int, false, 5, 1, 2, false),
  (yX5_bones, cX5_bones, 2, some .int, false, 5, 1, 1, false),
  (yX5_fish, cX5_fish, 4, some .int, false, 5, 1, 3, false),
  (yX5_lettersOf, cX5_lettersOf, 1, some .int, true, 5, 0, 1, false),
  (yX5_fishOf, cX5_fishOf, 3, some .int, false, 5, 1, 2, false),
  (yX5_comes, cX5_comes, 4, none, false, 5, 1, 2, false),
  (yX5_writer, cX5_writer, 3, some .int, false, 5, 2, 2, false),
  (yX5_eats, cX5_eats, 3, some .int, false, 5, 1, 1, false),
  (yX5_writesMost, cX5_writesMost, 2, some .int, false, 5, 1, 1, false),
  (yX5_next, cX5_next, 2, some .int, false, 5, 1, 1, false),
  (yX5_isKeptBy, cX5_isKeptBy, 3, some .boolean, true, 5, 0, 3, false),
  (yX5_of, cX5_of, 3, some .int, false, 5, 2, 2, false)]
def mt_8 : List Mrow := [(yX5_greatestOf, cX5_greatestOf, 1, some .int, true, 5, 0, 1, false),
  (yX5_change, cX5_change, 5, some .int, false, 5, 1, 3, false),
  (yX5_keeps, cX5_keeps, 6, some .int, false, 5, 1, 2, false),
  (yX5_spellsOf, cX5_spellsOf, 7, some .int, false, 5, 1, 1, false),
  (yX5_spells, cX5_spells, 2, some .int, false, 5, 2, 1, false),
  (yX5_eatsOne, cX5_eatsOne, 5, none, false, 5, 1, 2, false),
  (yX5_writesOne, cX5_writesOne, 2, none, false, 5, 2, 1, false),
  (yX5_dayBut, cX5_dayBut, 7, none, false, 5, 3, 1, false),
  (yX5_goes, cX5_goes, 3, none, false, 5, 4, 1, false),
  (yX5_sumOf, cX5_sumOf, 4, some .int, false, 5, 1, 1, false),
  (yX5_jarAll, cX5_jarAll, 3, some .int, false, 5, 0, 0, false),
  (yX5_go, cX5_go, 2, some .int, false, 5, 5, 1, false),
  (yX5_waiting, cX5_waiting, 3, some .int, false, 5, 2, 0, false),
  (yX5_lacking, cX5_lacking, 3, some .int, false, 5, 0, 0, false),
  (yX5_thin, cX5_thin, 3, some .int, false, 5, 1, 0, false),
  (yX5_now, cX5_now, 2, some .int, false, 5, 3, 1, false)]
def mt_9 : List Mrow := [(yX5_thenAt, cX5_thenAt, 4, some .int, false, 5, 5, 2, false),
  (yX5_ahead, cX5_ahead, 4, some .int, false, 5, 6, 3, false),
  (yX5_later, cX5_later, 3, some .int, false, 5, 6, 2, false),
  (yX5_when, cX5_when, 4, some .int, false, 5, 4, 2, false),
  (yX5_whenNone, cX5_whenNone, 3, some .int, false, 5, 4, 1, false),
  (yX5_starves, cX5_starves, 2, some .int, false, 5, 5, 1, false),
  (yX5_out, cX5_out, 2, some .int, false, 5, 5, 1, false),
  (yX5_catchFor, cX5_catchFor, 6, some .int, false, 5, 5, 1, false),
  (yX5_fewest, cX5_fewest, 8, some .int, false, 5, 6, 4, false),
  (yX5_wordWith, cX5_wordWith, 4, some .int, false, 5, 2, 2, false),
  (yX5_isAsked, cX5_isAsked, 3, some .boolean, false, 5, 1, 2, false),
  (yX5_letterFor, cX5_letterFor, 8, some .int, false, 5, 6, 2, false),
  (yX5_kindFor, cX5_kindFor, 8, some .int, false, 5, 6, 2, false),
  (yX5_away, cX5_away, 7, some .int, false, 5, 4, 3, false),
  (yX5_bonesFor, cX5_bonesFor, 7, some .int, false, 5, 5, 2, false),
  (yX5_isTold, cX5_isTold, 6, some .boolean, false, 5, 4, 2, false)]
def mt_10 : List Mrow := [(yX5_wantsFor, cX5_wantsFor, 3, some .int, false, 5, 2, 2, false),
  (yX5_fits, cX5_fits, 7, some .int, false, 5, 5, 2, false),
  (yX5_kinds, cX5_kinds, 7, some .int, false, 5, 5, 2, false),
  (yX5_texts, cX5_texts, 4, some .int, false, 5, 2, 1, false),
  (yX5_draw, cX5_draw, 1, some .int, false, 5, 0, 0, false),
  (yX5_catches, cX5_catches, 4, some .int, false, 5, 4, 1, false),
  (yX5_odds, cX5_odds, 13, some .long, false, 5, 1, 2, true),
  (yX5_seed, cX5_seed, 2, some .int, false, 5, 1, 1, false),
  (yX5_feed, cX5_feed, 4, some .int, false, 5, 1, 2, false),
  (yX5_wipe, cX5_wipe, 2, some .int, false, 5, 0, 0, false),
  (yX5_isLetter, cX5_isLetter, 1, some .boolean, true, 5, 0, 1, false),
  (yX5_isDigit, cX5_isDigit, 1, some .boolean, true, 5, 0, 1, false),
  (yX5_byteAt, cX5_byteAt, 2, some .int, false, 5, 0, 1, false),
  (yX5_nextToken, cX5_nextToken, 2, none, false, 5, 1, 0, false),
  (yX5_has3, cX5_has3, 5, some .boolean, false, 5, 1, 4, false),
  (yX5_isWord, cX5_isWord, 2, some .boolean, false, 5, 0, 1, false)]
def mt_11 : List Mrow := [(yX5_fails, cX5_fails, 1, some .boolean, false, 5, 0, 0, false),
  (yX5_isFour, cX5_isFour, 5, some .boolean, false, 5, 2, 4, false),
  (yX5_isFive, cX5_isFive, 6, some .boolean, false, 5, 2, 5, false),
  (yX5_isSix, cX5_isSix, 7, some .boolean, false, 5, 2, 6, false),
  (yX5_isNumber, cX5_isNumber, 3, some .boolean, false, 5, 1, 2, false),
  (yX5_kindHere, cX5_kindHere, 1, some .int, false, 5, 3, 0, false),
  (yX5_perhaps, cX5_perhaps, 4, some .boolean, false, 5, 2, 3, false),
  (yX5_writerHere, cX5_writerHere, 3, some .boolean, false, 5, 3, 1, false),
  (yX5_fishHere, cX5_fishHere, 2, some .boolean, false, 5, 3, 0, false),
  (yX5_jarHere, cX5_jarHere, 1, some .boolean, false, 5, 3, 0, false),
  (yX5_itemHere, cX5_itemHere, 2, some .boolean, false, 5, 4, 0, false),
  (yX5_text, cX5_text, 3, some .int, false, 5, 5, 0, false),
  (yX5_hold, cX5_hold, 3, some .int, false, 5, 1, 2, false),
  (yX5_isUnder, cX5_isUnder, 2, some .boolean, true, 5, 0, 2, false),
  (yX5_as, cX5_as, 4, some .int, false, 5, 1, 2, false),
  (yX5_isSheet, cX5_isSheet, 1, some .boolean, true, 5, 0, 1, false)]
def mt_12 : List Mrow := [(yX5_sheet, cX5_sheet, 5, some .int, false, 5, 1, 3, false),
  (yX5_write, cX5_write, 4, some .int, false, 5, 1, 3, false),
  (yX5_copy, cX5_copy, 10, some .int, false, 5, 1, 5, false),
  (yX5_wants, cX5_wants, 2, some .int, false, 5, 1, 1, false),
  (yX5_load, cX5_load, 3, some .int, false, 5, 2, 1, false),
  (yX5_judge, cX5_judge, 3, some .int, false, 5, 2, 1, false),
  (yX5_image, cX5_image, 1, some .int, false, 5, 1, 0, false),
  (yX5_undo, cX5_undo, 1, some .int, false, 5, 1, 0, false),
  (yX5_tear, cX5_tear, 2, some .int, false, 5, 0, 0, false),
  (yX5_count, cX5_count, 4, some .int, false, 5, 2, 1, false),
  (yX5_status, cX5_status, 2, some .int, false, 5, 1, 1, false),
  (yJ6_bitCount_0f7a4, cJ6_bitCount_0f7a4, 1, some .int, true, 6, 0, 1, false),
  (yL_law, cL_law, 4, some .boolean, true, 7, 7, 1, false)]
def mts : List (List Mrow) := [mt_0, mt_1, mt_2, mt_3, mt_4, mt_5, mt_6, mt_7, mt_8, mt_9, mt_10, mt_11, mt_12]
def mt0 : Mrow := (⟨"", "", ""⟩, ⟨#[]⟩, 0, none, false, 0, 99, 0, false)
def mt (M : Nat) : Mrow := (mts.getD (M / 16) []).getD (M % 16) mt0
def kIL (oc : Nat) : List (Nat × (Int32 × Nat)) := match oc with
  | 1 => [(79, ((1103515245), 496)), (96, ((99999), 367))]
  | 4 => [(140, ((99999), 339)), (257, ((-1000001), 225))]
  | 5 => [(37, ((-1000001), 777)), (38, ((-1000004), 943)), (77, ((-1000002), 811)), (132, ((99999), 881)), (133, ((-1000005), 882)), (188, ((1103515245), 1030)), (267, ((-1000006), 1008)), (271, ((-1000003), 1128)), (275, ((-1000007), 1133))]
  | 6 => [(265, ((1431655765), 252)), (266, ((858993459), 253)), (267, ((252645135), 254))]
  | _ => []
def kI (oc k : Nat) : Option Int32 := ((kIL oc).lookup k).map (fun e => e.1)
def kSL (oc : Nat) : List (Nat × (Nat × Nat)) := match oc with
  | 0 => [(27, (60, 620)), (29, (61, 621)), (31, (62, 622)), (33, (63, 623)), (35, (64, 624)), (37, (65, 625)), (39, (66, 626))]
  | 3 => [(38, (67, 546)), (47, (68, 612)), (68, (69, 632)), (78, (70, 633)), (87, (71, 611))]
  | _ => []
def kS (oc k : Nat) : Option Nat := ((kSL oc).lookup k).map (fun e => e.1)
def kLL (oc : Nat) : List (Nat × (Int64 × Nat)) := match oc with
  | 5 => [(47, ((999), 769)), (60, ((20), 793)), (62, ((2), 798)), (73, ((6), 809)), (75, ((9999), 810)), (94, ((7), 827)), (105, ((4), 854)), (130, ((60), 880)), (157, ((100), 927)), (165, ((40), 960)), (186, ((9), 1021)), (280, ((-1), 1170))]
  | _ => []
def kL (oc k : Nat) : Option Int64 := ((kLL oc).lookup k).map (fun e => e.1)
def flL (oc : Nat) : List (Nat × (Nat × Nat × Nat)) := match oc with
  | 1 => [(9, (0, 0, 87)), (15, (0, 1, 90)), (18, (0, 2, 93)), (21, (0, 3, 96)), (24, (0, 4, 98)), (27, (0, 5, 99)), (30, (0, 6, 101)), (33, (0, 7, 103)), (36, (0, 8, 105)), (39, (0, 9, 107)), (43, (0, 10, 109)), (46, (0, 11, 111))]
  | 2 => [(9, (1, 0, 172)), (15, (1, 1, 174)), (19, (1, 2, 176))]
  | 3 => [(9, (2, 0, 147)), (15, (2, 1, 148)), (19, (2, 2, 150)), (22, (2, 3, 151)), (25, (2, 4, 152)), (28, (2, 5, 153)), (84, (0, 1, 92)), (89, (0, 2, 95)), (92, (0, 0, 89))]
  | 4 => [(10, (3, 0, 186)), (16, (3, 1, 187)), (19, (3, 2, 188)), (22, (3, 3, 189)), (28, (3, 4, 190)), (35, (3, 5, 191)), (39, (3, 6, 192)), (43, (3, 7, 193)), (60, (0, 0, 88)), (66, (0, 1, 91)), (69, (0, 2, 94)), (116, (0, 3, 97)), (136, (0, 10, 110)), (165, (0, 7, 104)), (172, (0, 6, 102)), (182, (0, 9, 108)), (198, (1, 1, 175)), (201, (1, 0, 173)), (203, (0, 5, 100)), (219, (0, 11, 112)), (222, (2, 1, 149)), (230, (0, 8, 106)), (242, (1, 2, 177))]
  | 5 => [(7, (4, 0, 713)), (13, (4, 1, 714)), (16, (4, 2, 715)), (19, (4, 3, 716)), (22, (4, 5, 718)), (25, (4, 6, 719)), (28, (4, 8, 721)), (31, (4, 9, 722)), (34, (4, 10, 723)), (192, (4, 7, 720)), (196, (4, 13, 726)), (199, (4, 12, 725)), (211, (4, 11, 724)), (214, (4, 14, 727)), (217, (4, 15, 728)), (276, (4, 4, 717))]
  | _ => []
def fl (oc k : Nat) : Option (Nat × Nat) := ((flL oc).lookup k).map (fun e => (e.1, e.2.1))
def gsL (oc : Nat) : List (Nat × (Nat × Nat × Bool)) := match oc with
  | 0 => [(13, (56, 648, false))]
  | 1 => [(76, (54, 445, true))]
  | 4 => [(109, (55, 314, false)), (258, (54, 247, false))]
  | _ => []
def gs (oc k : Nat) : Option Nat := ((gsL oc).lookup k).map (fun e => e.1)
def csL (oc : Nat) : List (Nat × (Nat × Nat × Bool)) := match oc with
  | 0 => [(9, (0, 647, false)), (17, (3, 286, false)), (21, (300, 289, false))]
  | 1 => [(49, (303, 405, false)), (55, (8, 270, false)), (59, (2, 283, false)), (65, (4, 296, false)), (69, (98, 303, true)), (72, (13, 365, false)), (80, (17, 344, false)), (84, (18, 348, false)), (88, (20, 360, false)), (91, (300, 366, false)), (97, (301, 353, false)), (100, (21, 368, false)), (103, (11, 352, false)), (105, (19, 354, false)), (108, (99, 358, true)), (111, (5, 359, false)), (115, (12, 364, false)), (117, (10, 376, false))]
  | 3 => [(31, (41, 531, false)), (34, (34, 542, false)), (40, (38, 547, false)), (44, (36, 599, false)), (49, (37, 613, false)), (54, (6, 617, false)), (58, (35, 627, false)), (62, (8, 631, false)), (70, (39, 603, false)), (74, (40, 607, false)), (80, (9, 634, false)), (94, (310, 551, false)), (99, (311, 561, false)), (103, (42, 535, false)), (106, (43, 538, false)), (109, (301, 541, false))]
  | 4 => [(48, (94, 215, false)), (52, (97, 218, false)), (56, (92, 221, false)), (63, (95, 234, false)), (72, (100, 241, false)), (75, (203, 249, false)), (80, (0, 259, false)), (85, (8, 262, false)), (89, (9, 266, false)), (93, (93, 275, false)), (96, (11, 279, false)), (99, (12, 292, false)), (102, (13, 299, false)), (105, (10, 306, false)), (112, (99, 244, false)), (119, (5, 320, false)), (122, (98, 327, false)), (125, (101, 328, false)), (128, (300, 331, false)), (133, (301, 332, false)), (141, (16, 340, false)), (145, (22, 372, false)), (148, (23, 381, false)), (152, (24, 385, false)), (155, (25, 389, false)), (158, (26, 393, false)), (161, (7, 401, false)), (168, (17, 416, false)), (175, (60, 421, false)), (179, (14, 441, false)), (185, (69, 462, false)), (188, (70, 473, false)), (192, (96, 466, false)), (195, (28, 469, false)), (206, (72, 485, false)), (210, (15, 492, false)), (213, (75, 501, false)), (217, (302, 504, false)), (223, (32, 515, false)), (226, (33, 527, false)), (233, (1, 644, false)), (236, (29, 654, false)), (239, (30, 662, false)), (245, (31, 670, false)), (248, (303, 674, false)), (254, (27, 699, false))]
  | 5 => [(39, (103, 778, false)), (43, (106, 766, false)), (49, (102, 770, false)), (53, (104, 773, false)), (57, (107, 790, false)), (64, (119, 799, false)), (67, (114, 802, false)), (70, (109, 816, false)), (78, (121, 812, false)), (82, (110, 832, false)), (85, (112, 836, false)), (88, (115, 847, false)), (91, (108, 823, false)), (96, (123, 828, false)), (99, (124, 839, false)), (102, (125, 843, false)), (107, (128, 855, false)), (110, (126, 862, false)), (114, (111, 873, false)), (117, (131, 869, false)), (120, (133, 891, false)), (123, (134, 895, false)), (127, (135, 887, false)), (134, (136, 883, false)), (137, (137, 899, false)), (140, (138, 907, false)), (144, (140, 911, false)), (147, (141, 915, false)), (150, (142, 919, false)), (153, (105, 932, false)), (159, (144, 928, false)), (162, (148, 948, false)), (167, (113, 965, false)), (170, (154, 973, false)), (174, (153, 977, false)), (177, (195, 1001, false)), (180, (160, 997, false)), (183, (159, 1009, false)), (189, (164, 1026, false)), (202, (172, 1055, false)), (205, (170, 1059, false)), (208, (171, 1062, false)), (220, (175, 1077, false)), (223, (174, 1081, false)), (227, (176, 1097, false)), (231, (179, 1073, false)), (235, (177, 1085, false)), (238, (178, 1089, false)), (242, (173, 1051, false)), (245, (180, 1105, false)), (248, (182, 1101, false)), (252, (181, 1069, false)), (255, (183, 1093, false)), (258, (184, 1109, false)), (261, (185, 1113, false)), (264, (186, 1065, false)), (268, (189, 1125, false)), (272, (191, 1005, false))]
  | 7 => [(13, (44, 211, false)), (17, (116, 762, false)), (18, (45, 226, false)), (22, (117, 782, false)), (23, (46, 230, false)), (27, (118, 786, false)), (28, (47, 237, false)), (31, (120, 794, false)), (32, (48, 255, false)), (35, (122, 805, false)), (36, (49, 271, false)), (39, (127, 819, false)), (40, (50, 310, false)), (43, (129, 850, false)), (44, (51, 316, false)), (47, (130, 858, false)), (48, (52, 323, false)), (51, (132, 865, false)), (52, (53, 335, false)), (55, (139, 876, false)), (56, (54, 377, false)), (59, (143, 903, false)), (60, (55, 397, false)), (63, (145, 923, false)), (64, (56, 408, false)), (67, (146, 935, false)), (68, (57, 412, false)), (71, (147, 939, false)), (72, (58, 417, false)), (75, (149, 944, false)), (76, (59, 425, false)), (79, (150, 952, false)), (80, (61, 429, false)), (83, (151, 956, false)), (84, (62, 433, false)), (88, (152, 961, false)), (89, (63, 437, false)), (92, (155, 969, false)), (93, (64, 446, false)), (96, (156, 981, false)), (97, (65, 450, false)), (100, (157, 985, false)), (101, (66, 454, false)), (104, (158, 989, false)), (105, (67, 458, false)), (108, (161, 993, false)), (109, (68, 477, false)), (112, (162, 1013, false)), (113, (71, 481, false)), (116, (163, 1017, false)), (117, (73, 488, false)), (120, (165, 1022, false)), (121, (74, 497, false)), (125, (166, 1031, false)), (126, (76, 507, false)), (129, (167, 1035, false)), (130, (77, 511, false)), (133, (168, 1039, false)), (134, (78, 519, false)), (138, (169, 1043, false)), (139, (79, 523, false)), (142, (187, 1047, false)), (143, (80, 636, false)), (146, (188, 1117, false)), (147, (81, 640, false)), (150, (190, 1121, false)), (151, (82, 650, false)), (154, (192, 1129, false)), (155, (83, 658, false)), (158, (193, 1134, false)), (159, (84, 666, false)), (163, (194, 1138, false)), (164, (85, 675, false)), (167, (196, 1142, false)), (168, (86, 679, false)), (171, (197, 1146, false)), (172, (87, 683, false)), (175, (198, 1150, false)), (176, (88, 687, false)), (179, (199, 1154, false)), (180, (89, 691, false)), (183, (200, 1158, false)), (184, (90, 695, false)), (187, (201, 1162, false)), (188, (91, 703, false)), (191, (202, 1166, false))]
  | _ => []
def cs (oc k : Nat) : Option Nat := ((csL oc).lookup k).map (fun e => e.1)
def stx (i : Nat) : List Nat := match i with
  | 0 => [112, 111, 101, 116]
  | 1 => [115, 99, 104, 111, 108, 97, 114]
  | 2 => [108, 97, 119, 121, 101, 114]
  | 3 => [99, 101, 110, 115, 111, 114]
  | 4 => [99, 104, 105, 108, 100]
  | 5 => [119, 105, 100, 111, 119]
  | 6 => [119, 114, 105, 116, 101, 114]
  | 7 => [102, 105, 115, 104]
  | 8 => [106, 97, 114]
  | 9 => [119, 111, 114, 100]
  | 10 => [102, 97, 116]
  | 11 => [99, 97, 116, 99, 104]
  | _ => []
def slen (i : Nat) : Nat := (stx i).length
def sch (i k : Nat) : Int32 := nI ((stx i).getD k 0)
/-! THE ABSTRACT MACHINE. Its world: numbers of cells 0 .. 53 (w.1 a k: number k of cell a; w.2: the row of longs), the script (57; its length 58 0).
0 BoneWords; 1, 11, 21 Reefs (their rows behind each); 31 the row of Sheets, 32, 34, 36, 38 Sheets (row behind each); 40 Tape, 41 its bytes; 42 found; 43 rows; 44 BoneWordsModel, 45 .. 53 its rows; 54 TENS, 55 MOST, 56 UNDER; 60 .. 71 Strings. -/
abbrev Wd : Type := (Nat → Nat → Int32) × (Nat → Int64)
abbrev Lc : Type := List (Option Value)
abbrev Lk : Type := List (Option Int64)
abbrev Cf : Type := Nat × Lc × Lk × List Value × Wd
abbrev Rs : Type := List Value × Wd
abbrev St1 : Type := Option Cf
def nx (pc : Nat) (L : Lc) (K : Lk) (st : List Value) (w : Wd) : St1 := some (pc, L, K, st, w)
/-- the world with another cell -/
def put (w : Wd) (a : Nat) (f : Nat → Int32) : Wd := (fun b => if b = a then f else w.1 b, w.2)
/-- the world with another number -/
def st2 (w : Wd) (a k : Nat) (v : Int32) : Wd := put w a (upd (w.1 a) k v)
/-- the class of an object -/
def okc (a : Nat) : Option Nat := match a with
  | 0 => some 3 | 1 => some 0 | 11 => some 0 | 21 => some 0 | 32 => some 1 | 34 => some 1 | 36 => some 1 | 38 => some 1 | 40 => some 2 | 44 => some 4 | _ => none
/-- how many fields a class has -/
def nfc (c : Nat) : Nat := match c with
  | 0 => 12 | 1 => 3 | 2 => 6 | 3 => 8 | _ => 16
/-- what cell a field of references holds -/
def frc (c a k : Nat) : Option Nat := match c with
  | 0 => if k < 9 then some (a + 1 + k) else none
  | 1 => if k = 0 then some (a + 1) else none
  | 2 => if k = 0 then some 41 else none
  | 3 => match k with | 0 => some 1 | 1 => some 11 | 2 => some 21 | 4 => some 31 | 5 => some 40 | 6 => some 42 | 7 => some 43 | _ => none
  | _ => match k with | 0 => some 45 | 1 => some 46 | 2 => some 47 | 3 => some 48 | 5 => some 49 | 6 => some 50 | 8 => some 51 | 9 => some 52 | 10 => some 53 | _ => none
/-- a field of booleans -/
def fzc (c k : Nat) : Bool := (c == 3 && k == 3) || (c == 4 && k == 4)
/-- the length of a row of ints -/
def al (a : Nat) : Nat := match a with
  | 2 => 10 | 3 => 6 | 4 => 6 | 5 => 8 | 6 => 8 | 7 => 8 | 8 => 8 | 9 => 8 | 10 => 10
  | 12 => 10 | 13 => 6 | 14 => 6 | 15 => 8 | 16 => 8 | 17 => 8 | 18 => 8 | 19 => 8 | 20 => 10
  | 22 => 10 | 23 => 6 | 24 => 6 | 25 => 8 | 26 => 8 | 27 => 8 | 28 => 8 | 29 => 8 | 30 => 10
  | 33 => 40 | 35 => 40 | 37 => 40 | 39 => 40 | 41 => 120 | 42 => 7
  | 45 => 75 | 46 => 75 | 47 => 75 | 48 => 75 | 49 => 8 | 50 => 120 | 51 => 4 | 52 => 4 | 53 => 160 | _ => 0
/-- the static rows -/
def sl (a : Nat) : Nat := match a with | 54 => 4 | 55 => 5 | 56 => 7 | _ => 0
def sv (a k : Nat) : Int32 := match a with
  | 54 => ([1000, 100, 10, 1] : List Int32).getD k 0
  | 55 => ([6, 9999, 3, 99, 9999] : List Int32).getD k 0
  | _ => ([-1, 0, 0, 2, 3, 0, 1] : List Int32).getD k 0
def wds (st : List Value) : Nat := (st.map fun v => v.category).sum
def swt (x : Int32) : Int → List Int → Int → Int
  | _, [], d => d
  | lo, o :: os, d => if x = Int32.ofInt lo then o else swt x (lo + 1) os d
def jp (pc : Nat) (off : Int) : Nat := ((pc : Int) + off).toNat
def klI (K : Lk) (i : Nat) : Lk := (K.set i none).set (i - 1) none
def mB (M : Nat) : ByteArray := (mt M).2.1
def mN (M : Nat) : MethodName := (mt M).1
def mX (M : Nat) : Nat := (mt M).2.2.1
def mR (M : Nat) : Option FieldType := (mt M).2.2.2.1
def mS (M : Nat) : Bool := (mt M).2.2.2.2.1
def mC (M : Nat) : Nat := (mt M).2.2.2.2.2.1
def mV (M : Nat) : Nat := (mt M).2.2.2.2.2.2.1
def mA (M : Nat) : Nat := (mt M).2.2.2.2.2.2.2.1
def mJ (M : Nat) : Bool := (mt M).2.2.2.2.2.2.2.2
/-- the locals at the entry: as many slots as the method has -/
def enL : Nat → List Value → Lc
  | 0, _ => []
  | n + 1, .int x :: vs => some (.int x) :: enL n vs
  | n + 1, .ref x :: vs => some (.ref x) :: enL n vs
  | 1, .long _ :: _ => [none]
  | n + 2, .long _ :: vs => none :: none :: enL n vs
  | n + 1, _ => List.replicate (n + 1) none
def enK : Nat → List Value → Lk
  | 0, _ => []
  | n + 1, .int _ :: vs => none :: enK n vs
  | n + 1, .ref _ :: vs => none :: enK n vs
  | 1, .long _ :: _ => [none]
  | n + 2, .long x :: vs => some x :: none :: enK n vs
  | n + 1, _ => List.replicate (n + 1) none
def exA (oc pc : Nat) (i : Instr × Nat) (L : Lc) (K : Lk) (st : List Value) (w : Wd) : St1 := match i with
  | (.iconst v, 1) => nx (pc + 1) L K (.int (Int32.ofInt v) :: st) w
  | (.bipush v, 2) => nx (pc + 2) L K (.int (Int8.ofInt v).toInt32 :: st) w
  | (.sipush v, 3) => nx (pc + 3) L K (.int (Int16.ofInt v).toInt32 :: st) w
  | (.lconst v, 1) => nx (pc + 1) L K (.long (Int64.ofNat (v : Nat)) :: st) w
  | (.ldc k, 2) => match kI oc k with
    | some v => nx (pc + 2) L K (.int v :: st) w
    | none => match kS oc k with
      | some a => nx (pc + 2) L K (.ref a :: st) w
      | none => none
  | (.ldc_w k, 3) => match kI oc k with
    | some v => nx (pc + 3) L K (.int v :: st) w
    | none => none
  | (.ldc2_w k, 3) => match kL oc k with
    | some v => nx (pc + 3) L K (.long v :: st) w
    | none => none
  | _ => none
def ldI (pc i : Nat) (L : Lc) (K : Lk) (st : List Value) (w : Wd) : St1 := match L[i]? with
  | some (some (.int x)) => nx pc L K (.int x :: st) w
  | _ => none
def ldR (pc i : Nat) (L : Lc) (K : Lk) (st : List Value) (w : Wd) : St1 := match L[i]? with
  | some (some (.ref x)) => nx pc L K (.ref x :: st) w
  | _ => none
def ldL (pc i : Nat) (L : Lc) (K : Lk) (st : List Value) (w : Wd) : St1 := match K[i]? with
  | some (some x) => nx pc L K (.long x :: st) w
  | _ => none
def exB (pc : Nat) (i : Instr × Nat) (L : Lc) (K : Lk) (st : List Value) (w : Wd) : St1 := match i with
  | (.iload_n k, 1) => ldI (pc + 1) k L K st w
  | (.iload k, 2) => ldI (pc + 2) k L K st w
  | (.aload_n k, 1) => ldR (pc + 1) k L K st w
  | (.aload k, 2) => ldR (pc + 2) k L K st w
  | (.lload_n k, 1) => ldL (pc + 1) k L K st w
  | (.lload k, 2) => ldL (pc + 2) k L K st w
  | _ => none
def stI (pc i : Nat) (L : Lc) (K : Lk) (st : List Value) (w : Wd) : St1 := match st with
  | .int x :: st => if i < L.length then nx pc (L.set i (some (.int x))) (klI K i) st w else none
  | _ => none
def stR (pc i : Nat) (L : Lc) (K : Lk) (st : List Value) (w : Wd) : St1 := match st with
  | .ref x :: st => if i < L.length then nx pc (L.set i (some (.ref x))) (klI K i) st w else none
  | _ => none
def stL (pc i : Nat) (L : Lc) (K : Lk) (st : List Value) (w : Wd) : St1 := match st with
  | .long x :: st => if i + 1 < L.length then nx pc ((L.set i none).set (i + 1) none) (((K.set (i - 1) none).set (i + 1) none).set i (some x)) st w else none
  | _ => none
def exC (pc : Nat) (i : Instr × Nat) (L : Lc) (K : Lk) (st : List Value) (w : Wd) : St1 := match i with
  | (.istore_n k, 1) => stI (pc + 1) k L K st w
  | (.istore k, 2) => stI (pc + 2) k L K st w
  | (.astore_n k, 1) => stR (pc + 1) k L K st w
  | (.astore k, 2) => stR (pc + 2) k L K st w
  | (.lstore_n k, 1) => stL (pc + 1) k L K st w
  | (.lstore k, 2) => stL (pc + 2) k L K st w
  | (.iinc k n, 3) => match L[k]? with
    | some (some (.int x)) => nx (pc + 3) (L.set k (some (.int (x + Int32.ofInt n)))) (klI K k) st w
    | _ => none
  | _ => none
def ii (pc : Nat) (L : Lc) (K : Lk) (st : List Value) (w : Wd) (f : Int32 → Int32 → Int32) : St1 := match st with
  | .int y :: .int x :: st => nx pc L K (.int (f x y) :: st) w
  | _ => none
def exD (pc : Nat) (i : Instr × Nat) (L : Lc) (K : Lk) (st : List Value) (w : Wd) : St1 := match i with
  | (.iadd, 1) => ii (pc + 1) L K st w (fun x y => x + y)
  | (.isub, 1) => ii (pc + 1) L K st w (fun x y => x - y)
  | (.imul, 1) => ii (pc + 1) L K st w (fun x y => x * y)
  | (.iand, 1) => ii (pc + 1) L K st w (fun x y => x &&& y)
  | (.ior, 1) => ii (pc + 1) L K st w (fun x y => x ||| y)
  | (.ishl, 1) => ii (pc + 1) L K st w (fun x y => x <<< (y &&& 31))
  | (.ishr, 1) => ii (pc + 1) L K st w (fun x y => x >>> (y &&& 31))
  | (.iushr, 1) => ii (pc + 1) L K st w (fun x y => (x.toUInt32 >>> (y.toUInt32 &&& Int32.toUInt32 31)).toInt32)
  | (.idiv, 1) => match st with
    | .int y :: .int x :: st => if y = 0 then none else nx (pc + 1) L K (.int (x / y) :: st) w
    | _ => none
  | (.irem, 1) => match st with
    | .int y :: .int x :: st => if y = 0 then none else nx (pc + 1) L K (.int (x - x / y * y) :: st) w
    | _ => none
  | _ => none
def exE (pc : Nat) (i : Instr × Nat) (L : Lc) (K : Lk) (st : List Value) (w : Wd) : St1 := match i with
  | (.ladd, 1) => match st with
    | .long y :: .long x :: st => nx (pc + 1) L K (.long (x + y) :: st) w
    | _ => none
  | (.lmul, 1) => match st with
    | .long y :: .long x :: st => nx (pc + 1) L K (.long (x * y) :: st) w
    | _ => none
  | (.ldiv, 1) => match st with
    | .long y :: .long x :: st => if y = 0 then none else nx (pc + 1) L K (.long (x / y) :: st) w
    | _ => none
  | (.lrem, 1) => match st with
    | .long y :: .long x :: st => if y = 0 then none else nx (pc + 1) L K (.long (x - x / y * y) :: st) w
    | _ => none
  | (.lcmp, 1) => match st with
    | .long y :: .long x :: st => nx (pc + 1) L K (.int (lg_cmp x y) :: st) w
    | _ => none
  | (.i2l, 1) => match st with
    | .int x :: st => nx (pc + 1) L K (.long x.toInt64 :: st) w
    | _ => none
  | (.l2i, 1) => match st with
    | .long x :: st => nx (pc + 1) L K (.int x.toInt32 :: st) w
    | _ => none
  | (.i2b, 1) => match st with
    | .int x :: st => nx (pc + 1) L K (.int x.toInt8.toInt32 :: st) w
    | _ => none
  | (.i2s, 1) => match st with
    | .int x :: st => nx (pc + 1) L K (.int x.toInt16.toInt32 :: st) w
    | _ => none
  | _ => none
def if1 (pc tgt : Nat) (L : Lc) (K : Lk) (st : List Value) (w : Wd) (f : Int32 → Bool) : St1 := match st with
  | .int x :: st => if f x = true then nx tgt L K st w else nx (pc + 3) L K st w
  | _ => none
def if2 (pc tgt : Nat) (L : Lc) (K : Lk) (st : List Value) (w : Wd) (f : Int32 → Int32 → Bool) : St1 := match st with
  | .int y :: .int x :: st => if f x y = true then nx tgt L K st w else nx (pc + 3) L K st w
  | _ => none
def exF (pc : Nat) (i : Instr × Nat) (L : Lc) (K : Lk) (st : List Value) (w : Wd) : St1 := match i with
  | (.ifCond .eq o, 3) => if (pc : Int) + o < 0 then none else if1 pc (jp pc o) L K st w (fun x => decide (x = 0))
  | (.ifCond .ne o, 3) => if (pc : Int) + o < 0 then none else if1 pc (jp pc o) L K st w (fun x => decide (¬ x = 0))
  | (.ifCond .lt o, 3) => if (pc : Int) + o < 0 then none else if1 pc (jp pc o) L K st w (fun x => decide (x < 0))
  | (.ifCond .ge o, 3) => if (pc : Int) + o < 0 then none else if1 pc (jp pc o) L K st w (fun x => decide (0 ≤ x))
  | (.ifCond .gt o, 3) => if (pc : Int) + o < 0 then none else if1 pc (jp pc o) L K st w (fun x => decide (0 < x))
  | (.ifCond .le o, 3) => if (pc : Int) + o < 0 then none else if1 pc (jp pc o) L K st w (fun x => decide (x ≤ 0))
  | (.if_icmp .eq o, 3) => if (pc : Int) + o < 0 then none else if2 pc (jp pc o) L K st w (fun x y => decide (x = y))
  | (.if_icmp .ne o, 3) => if (pc : Int) + o < 0 then none else if2 pc (jp pc o) L K st w (fun x y => decide (¬ x = y))
  | (.if_icmp .lt o, 3) => if (pc : Int) + o < 0 then none else if2 pc (jp pc o) L K st w (fun x y => decide (x < y))
  | (.if_icmp .ge o, 3) => if (pc : Int) + o < 0 then none else if2 pc (jp pc o) L K st w (fun x y => decide (y ≤ x))
  | (.if_icmp .gt o, 3) => if (pc : Int) + o < 0 then none else if2 pc (jp pc o) L K st w (fun x y => decide (y < x))
  | (.if_icmp .le o, 3) => if (pc : Int) + o < 0 then none else if2 pc (jp pc o) L K st w (fun x y => decide (x ≤ y))
  | (.goto o, 3) => if (pc : Int) + o < 0 then none else nx (jp pc o) L K st w
  | _ => none
def exT (pc : Nat) (i : Instr × Nat) (L : Lc) (K : Lk) (st : List Value) (w : Wd) : St1 := match i with
  | (.tableswitch d lo hi os, _) => match st with
    | .int x :: st => if (decide (0 ≤ lo) && decide (hi < 1000) && decide (hi + 1 = lo + os.toList.length) && decide (0 ≤ d) && os.toList.all (fun o => decide (0 ≤ o))) = true then nx (jp pc (swt x lo os.toList d)) L K st w else none
    | _ => none
  | (.dup, 1) => match st with
    | .int x :: st => nx (pc + 1) L K (.int x :: .int x :: st) w
    | .ref x :: st => nx (pc + 1) L K (.ref x :: .ref x :: st) w
    | _ => none
  | (.dup2, 1) => match st with
    | .int y :: .ref x :: st => nx (pc + 1) L K (.int y :: .ref x :: .int y :: .ref x :: st) w
    | _ => none
  | (.pop, 1) => match st with
    | .int _ :: st => nx (pc + 1) L K st w
    | _ => none
  | _ => none
def exG (oc pc : Nat) (i : Instr × Nat) (L : Lc) (K : Lk) (st : List Value) (w : Wd) : St1 := match i with
  | (.getfield k, 3) => match st with
    | .ref a :: st => match fl oc k with
      | some (c, f) => if okc a = some c then (match frc c a f with
        | some b => nx (pc + 3) L K (.ref b :: st) w
        | none => nx (pc + 3) L K (.int (w.1 a f) :: st) w) else none
      | none => none
    | _ => none
  | (.putfield k, 3) => match st with
    | .int v :: .ref a :: st => match fl oc k with
      | some (c, f) => if okc a = some c ∧ frc c a f = none ∧ (fzc c f = true → v = 0 ∨ v = 1) then nx (pc + 3) L K st (st2 w a f v) else none
      | none => none
    | _ => none
  | (.getstatic k, 3) => match gs oc k with
    | some a => nx (pc + 3) L K (.ref a :: st) w
    | none => none
  | (.iaload, 1) => match st with
    | .int j :: .ref a :: st =>
      if a < 54 then (if j < 0 ∨ al a ≤ j.toNatClampNeg then none else nx (pc + 1) L K (.int (w.1 a j.toNatClampNeg) :: st) w)
      else if a < 57 then (if j < 0 ∨ sl a ≤ j.toNatClampNeg then none else nx (pc + 1) L K (.int (sv a j.toNatClampNeg) :: st) w)
      else if a = 57 then (if j < 0 ∨ (w.1 58 0).toNatClampNeg ≤ j.toNatClampNeg then none else nx (pc + 1) L K (.int (w.1 57 j.toNatClampNeg) :: st) w)
      else none
    | _ => none
  | (.iastore, 1) => match st with
    | .int v :: .int j :: .ref a :: st => if a < 54 then (if j < 0 ∨ al a ≤ j.toNatClampNeg then none else nx (pc + 1) L K st (st2 w a j.toNatClampNeg v)) else none
    | _ => none
  | (.laload, 1) => match st with
    | .int j :: .ref a :: st => if a = 43 then (if j < 0 ∨ 5 ≤ j.toNatClampNeg then none else nx (pc + 1) L K (.long (w.2 j.toNatClampNeg) :: st) w) else none
    | _ => none
  | (.lastore, 1) => match st with
    | .long v :: .int j :: .ref a :: st => if a = 43 then (if j < 0 ∨ 5 ≤ j.toNatClampNeg then none else nx (pc + 1) L K st (w.1, vp_updL w.2 j.toNatClampNeg v)) else none
    | _ => none
  | (.aaload, 1) => match st with
    | .int j :: .ref a :: st => if a = 31 then (if j < 0 ∨ 4 ≤ j.toNatClampNeg then none else nx (pc + 1) L K (.ref (32 + 2 * j.toNatClampNeg) :: st) w) else none
    | _ => none
  | (.arraylength, 1) => match st with
    | .ref a :: st => if a = 57 then nx (pc + 1) L K (.int (w.1 58 0) :: st) w else none
    | _ => none
  | _ => none
/-- Math.max, Math.min, Math.max over longs, System.arraycopy -/
def exP (t pc : Nat) (L : Lc) (K : Lk) (st : List Value) (w : Wd) : St1 := match t with
  | 300 => match st with
    | .int y :: .int x :: st => if wds st ≤ 20 then nx (pc + 3) L K (.int (if x < y then y else x) :: st) w else none
    | _ => none
  | 301 => match st with
    | .int y :: .int x :: st => if wds st ≤ 20 then nx (pc + 3) L K (.int (if y < x then y else x) :: st) w else none
    | _ => none
  | 302 => match st with
    | .long y :: .long x :: st => if wds st ≤ 20 then nx (pc + 3) L K (.long (if y < x then x else y) :: st) w else none
    | _ => none
  | 303 => match st with
    | .int n :: .int dp :: .ref b :: .int sp :: .ref a :: st =>
      if wds st ≤ 20 ∧ a < 54 ∧ b < 54 ∧ 0 < al a ∧ 0 < al b ∧ ¬ sp < 0 ∧ ¬ dp < 0 ∧ ¬ n < 0 ∧ sp.toNatClampNeg + n.toNatClampNeg ≤ al a ∧ dp.toNatClampNeg + n.toNatClampNeg ≤ al b then
        (if n.toNatClampNeg = al b then nx (pc + 3) L K st (put w b (fun k => w.1 a (sp.toNatClampNeg + k)))
        else nx (pc + 3) L K st (put w b (va_cpy (w.1 a) (w.1 b) sp.toNatClampNeg dp.toNatClampNeg n.toNatClampNeg)))
      else none
    | _ => none
  | _ => none
def exI (call : Nat → List Value → Wd → Option Rs) (M pc : Nat) (i : Instr × Nat) (L : Lc) (K : Lk) (st : List Value) (w : Wd) : St1 := match i with
  | (.invokestatic k, 3) => match cs (mC M) k with
    | some t => if t < 300 then
        (if mS t = true ∧ mV t < mV M ∧ mA t ≤ st.length ∧ wds (st.take (mA t)) ≤ mX t ∧ wds (st.drop (mA t)) ≤ 8 then (match call t (st.take (mA t)).reverse w with
          | some (r, w1) => nx (pc + 3) L K (r ++ st.drop (mA t)) w1
          | none => none) else none)
        else exP t pc L K st w
    | none => none
  | (.invokevirtual k, 3) => match cs (mC M) k with
    | some t => if t < 300 then
        (if mS t = false ∧ mV t < mV M ∧ wds (st.take (mA t)) + 1 ≤ mX t ∧ wds (st.drop (mA t + 1)) ≤ 8 then (match st.drop (mA t) with
          | .ref b :: _ => if okc b = some (mC t - 1) then (match call t (.ref b :: (st.take (mA t)).reverse) w with
            | some (r, w1) => nx (pc + 3) L K (r ++ st.drop (mA t + 1)) w1
            | none => none) else none
          | _ => none) else none)
        else if t = 310 then (match st with
          | .ref b :: st => if 60 ≤ b ∧ b < 72 ∧ wds st ≤ 8 then nx (pc + 3) L K (.int (nI (slen (b - 60))) :: st) w else none
          | _ => none)
        else if t = 311 then (match st with
          | .int j :: .ref b :: st => if 60 ≤ b ∧ b < 72 ∧ wds st ≤ 8 ∧ ¬ j < 0 ∧ j.toNatClampNeg < slen (b - 60) then nx (pc + 3) L K (.int (sch (b - 60) j.toNatClampNeg) :: st) w else none
          | _ => none)
        else none
    | none => none
  | _ => none
/-- the ends of a method -/
def exR (M : Nat) (i : Instr × Nat) (st : List Value) (w : Wd) : Option Rs := match i with
  | (.ireturn, 1) => match st with
    | [.int v] => match mR M with
      | some .int => some ([.int v], w)
      | some .boolean => if v = 0 ∨ v = 1 then some ([.int v], w) else none
      | _ => none
    | _ => none
  | (.lreturn, 1) => match st with
    | [.long v] => match mR M with
      | some .long => some ([.long v], w)
      | _ => none
    | _ => none
  | (.areturn, 1) => match st with
    | [.ref a] => match mR M with
      | some (.array .int) => some ([.ref a], w)
      | some (.object _) => some ([.ref a], w)
      | _ => none
    | _ => none
  | (.return_, 1) => match st with
    | [] => match mR M with
      | none => some ([], w)
      | _ => none
    | _ => none
  | _ => none
def exN (call : Nat → List Value → Wd → Option Rs) (M pc : Nat) (i : Instr × Nat) (L : Lc) (K : Lk) (st : List Value) (w : Wd) : St1 :=
  (exA (mC M) pc i L K st w).or ((exB pc i L K st w).or ((exC pc i L K st w).or ((exD pc i L K st w).or ((exE pc i L K st w).or ((exF pc i L K st w).or ((exT pc i L K st w).or ((exG (mC M) pc i L K st w).or (exI call M pc i L K st w))))))))
def ex (call : Nat → List Value → Wd → Option Rs) (M pc : Nat) (i : Instr × Nat) (L : Lc) (K : Lk) (st : List Value) (w : Wd) : Option (Cf ⊕ Rs) := match exN call M pc i L K st w with
  | some c => some (.inl c)
  | none => match exR M i st w with
    | some r => some (.inr r)
    | none => none
def stp (call : Nat → List Value → Wd → Option Rs) (M pc : Nat) (L : Lc) (K : Lk) (st : List Value) (w : Wd) : Option (Cf ⊕ Rs) := match decode (mB M) pc with
  | .ok i => ex call M pc i L K st w
  | .error _ => none
def run (call : Nat → List Value → Wd → Option Rs) (M : Nat) : Nat → Cf → Option Rs
  | 0, _ => none
  | n + 1, c => match stp call M c.1 c.2.1 c.2.2.1 c.2.2.2.1 c.2.2.2.2 with
    | none => none
    | some (.inr r) => some r
    | some (.inl c') => run call M n c'
theorem run_mono (call : Nat → List Value → Wd → Option Rs) (M : Nat) : ∀ (n : Nat) (c : Cf) (r : Rs), run call M n c = some r → run call M (n + 1) c = some r := by
  intro n
  induction n with
  | zero => intro c r h; cases h
  | succ n ih =>
    intro c r h
    rw [run] at h ⊢
    cases hs : stp call M c.1 c.2.1 c.2.2.1 c.2.2.2.1 c.2.2.2.2 with
    | none => rw [hs] at h; cases h
    | some x =>
      rw [hs] at h
      cases x with
      | inl c' => exact ih c' r h
      | inr r' => exact h
theorem run_le (call : Nat → List Value → Wd → Option Rs) (M : Nat) {n k : Nat} (h : n ≤ k) {c : Cf} {r : Rs} (hr : run call M n c = some r) : run call M k c = some r := by
  induction h with
  | refl => exact hr
  | step _ ih => exact run_mono call M _ c r ih
noncomputable def lim (call : Nat → List Value → Wd → Option Rs) (M : Nat) (c : Cf) : Option Rs := by
  classical exact if h : ∃ n, (run call M n c).isSome = true then run call M h.choose c else none
theorem lim_of {call : Nat → List Value → Wd → Option Rs} {M n : Nat} {c : Cf} {r : Rs} (h : run call M n c = some r) : lim call M c = some r := by
  have hx : ∃ n, (run call M n c).isSome = true := ⟨n, by rw [h]; rfl⟩
  have e : lim call M c = run call M hx.choose c := by unfold lim; exact dif_pos hx
  rw [e]
  have h2 := hx.choose_spec
  obtain ⟨r2, h3⟩ := Option.isSome_iff_exists.mp h2
  rw [h3]
  rcases Nat.le_total n hx.choose with q | q
  · rw [run_le call M q h] at h3; exact h3.symm
  · rw [run_le call M q h3] at h; exact h
theorem lim_ex {call : Nat → List Value → Wd → Option Rs} {M : Nat} {c : Cf} {r : Rs} (h : lim call M c = some r) : ∃ n, run call M n c = some r := by
  unfold lim at h
  split at h
  · exact ⟨_, h⟩
  · cases h
theorem lim_none {call : Nat → List Value → Wd → Option Rs} {M : Nat} {c : Cf} (h : ∀ n, run call M n c = none) : lim call M c = none := by
  cases hl : lim call M c with
  | none => rfl
  | some r => obtain ⟨n, hn⟩ := lim_ex hl; rw [h n] at hn; cases hn
theorem lim_step (call : Nat → List Value → Wd → Option Rs) (M : Nat) (c : Cf) : lim call M c = match stp call M c.1 c.2.1 c.2.2.1 c.2.2.2.1 c.2.2.2.2 with
    | none => none
    | some (.inr r) => some r
    | some (.inl c') => lim call M c' := by
  cases hs : stp call M c.1 c.2.1 c.2.2.1 c.2.2.2.1 c.2.2.2.2 with
  | none =>
    refine lim_none fun n => ?_
    cases n with
    | zero => rfl
    | succ n => rw [run, hs]
  | some x =>
    cases x with
    | inr r => exact lim_of (n := 1) (by rw [run, hs])
    | inl c' =>
      show lim call M c = lim call M c'
      cases h2 : lim call M c' with
      | some r =>
        obtain ⟨n, hn⟩ := lim_ex h2
        exact lim_of (n := n + 1) (by rw [run, hs]; exact hn)
      | none =>
        refine lim_none fun n => ?_
        cases n with
        | zero => rfl
        | succ n =>
          rw [run, hs]
          show run call M n c' = none
          cases h3 : run call M n c' with
          | none => rfl
          | some r => rw [lim_of h3] at h2; cases h2
def en0 (M : Nat) (args : List Value) (w : Wd) : Cf := (0, enL (mX M) args, if mJ M = true then enK (mX M) args else [], [], w)
/-- what methods of levels below v answer -/
noncomputable def CL : Nat → Nat → List Value → Wd → Option Rs
  | 0, _, _, _ => none
  | v + 1, M, args, w => if mV M = v then lim (CL v) M (en0 M args w) else CL v M args w
theorem CL_up {v M : Nat} (h : mV M < v) (k : Nat) (args : List Value) (w : Wd) : CL (v + k) M args w = CL v M args w := by
  induction k with
  | zero => rfl
  | succ k ih =>
    show (if mV M = v + k then lim (CL (v + k)) M (en0 M args w) else CL (v + k) M args w) = _
    rw [if_neg (by omega), ih]
noncomputable def CALL (M : Nat) (args : List Value) (w : Wd) : Option Rs := CL (mV M + 1) M args w
noncomputable def RUN (M pc : Nat) (L : Lc) (K : Lk) (st : List Value) (w : Wd) : Option Rs := lim (CL (mV M)) M (pc, L, K, st, w)
theorem CALL_lt {v M : Nat} (h : mV M < v) (args : List Value) (w : Wd) : CL v M args w = CALL M args w := by
  obtain ⟨k, hk⟩ := Nat.le.dest (Nat.succ_le_of_lt h)
  rw [← hk]
  exact CL_up (Nat.lt_succ_self _) k args w
theorem CALL_run (M : Nat) (args : List Value) (w : Wd) : CALL M args w = RUN M 0 (enL (mX M) args) (if mJ M = true then enK (mX M) args else []) [] w := by
  show (if mV M = mV M then lim (CL (mV M)) M (en0 M args w) else CL (mV M) M args w) = _
  rw [if_pos rfl]
  rfl
theorem RUN_step {M pc : Nat} {cc : ByteArray} {i : Instr × Nat} {L : Lc} {K : Lk} {st : List Value} {w : Wd} (hB : mB M = cc) (hd : decode cc pc = .ok i) : RUN M pc L K st w = match ex (CL (mV M)) M pc i L K st w with
    | none => none
    | some (.inr r) => some r
    | some (.inl c) => RUN M c.1 c.2.1 c.2.2.1 c.2.2.2.1 c.2.2.2.2 := by
  show lim (CL (mV M)) M (pc, L, K, st, w) = _
  rw [lim_step]
  have e : stp (CL (mV M)) M pc L K st w = ex (CL (mV M)) M pc i L K st w := by unfold stp; rw [hB, hd]
  show (match stp (CL (mV M)) M pc L K st w with
    | none => none
    | some (.inr r) => some r
    | some (.inl c') => lim (CL (mV M)) M c') = _
  rw [e]
  rfl
theorem RUN_to {M pc : Nat} {cc : ByteArray} {i : Instr × Nat} {L : Lc} {K : Lk} {st : List Value} {w : Wd} {pc' : Nat} {L' : Lc} {K' : Lk} {st' : List Value} {w' : Wd} (hB : mB M = cc) (hd : decode cc pc = .ok i) (he : exN (CL (mV M)) M pc i L K st w = nx pc' L' K' st' w') : RUN M pc L K st w = RUN M pc' L' K' st' w' := by
  rw [RUN_step hB hd, ex, he]; rfl
theorem RUN_end {M pc : Nat} {cc : ByteArray} {i : Instr × Nat} {L : Lc} {K : Lk} {st : List Value} {w : Wd} {r : Rs} (hB : mB M = cc) (hd : decode cc pc = .ok i) (he : ex (CL (mV M)) M pc i L K st w = some (.inr r)) : RUN M pc L K st w = some r := by
  rw [RUN_step hB hd, he]
theorem RUN_if {M pc : Nat} {cc : ByteArray} {i : Instr × Nat} {L : Lc} {K : Lk} {st : List Value} {w : Wd} {p1 p2 : Nat} {st' : List Value} {c : Prop} {b : Bool} (hB : mB M = cc) (hd : decode cc pc = .ok i) (he : exN (CL (mV M)) M pc i L K st w = if b = true then nx p1 L K st' w else nx p2 L K st' w) (dc : Decidable c) (hc : b = decide c) : RUN M pc L K st w = if c then RUN M p1 L K st' w else RUN M p2 L K st' w := by
  subst hc
  by_cases h : c
  · rw [if_pos h]; exact RUN_to hB hd (by rw [he, if_pos (decide_eq_true h)])
  · rw [if_neg h]; exact RUN_to hB hd (by rw [he, if_neg (by simpa using h)])
theorem RUN_call {M pc t : Nat} {cc : ByteArray} {i : Instr × Nat} {L : Lc} {K : Lk} {st as rest : List Value} {w : Wd} (hB : mB M = cc) (hd : decode cc pc = .ok i) (hR : exR M i st w = none) (hv : mV t < mV M) (he : exN (CL (mV M)) M pc i L K st w = match CL (mV M) t as w with
    | some (r, w1) => nx (pc + 3) L K (r ++ rest) w1
    | none => none) : RUN M pc L K st w = match CALL t as w with
    | some (r, w1) => RUN M (pc + 3) L K (r ++ rest) w1
    | none => none := by
  rw [CALL_lt hv] at he
  cases hc : CALL t as w with
  | none =>
    rw [hc] at he
    rw [RUN_step hB hd, ex, he]
    show (match (match exR M i st w with | some r => some (.inr r) | none => none : Option (Cf ⊕ Rs)) with
      | none => none
      | some (.inr r) => some r
      | some (.inl c) => RUN M c.1 c.2.1 c.2.2.1 c.2.2.2.1 c.2.2.2.2) = none
    rw [hR]
  | some x =>
    rw [hc] at he
    exact RUN_to hB hd he
