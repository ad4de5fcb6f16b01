/-! THE TABLES: methods, fields, constants, calls, by numbers -/
abbrev Mrow : Type := MethodName × ByteArray × Nat × Option FieldType × Bool × Nat × Nat × Nat × Bool
def mt_0 : List Mrow := [(yX0_isKind, cX0_isKind, 1, some .boolean, true, 0, 0, 1, false),
  (yX0_isUnder, cX0_isUnder, 4, some .boolean, true, 0, 1, 2, false),
  (yX0_eats, cX0_eats, 3, some .int, true, 0, 1, 3, false),
  (yX0_poetEats, cX0_poetEats, 1, some .int, true, 0, 0, 1, false),
  (yX0_writes, cX0_writes, 2, some .int, true, 0, 0, 2, false),
  (yX0_isKept, cX0_isKept, 3, some .boolean, true, 0, 0, 3, false),
  (yX0_nameOf, cX0_nameOf, 1, some (.object "java/lang/String"), true, 0, 0, 1, false),
  (yX1_become, cX1_become, 2, none, false, 1, 0, 1, false),
  (yX1_isFull, cX1_isFull, 1, some .boolean, false, 1, 0, 0, false),
  (yX1_addWriter, cX1_addWriter, 5, some .int, false, 1, 1, 3, false),
  (yX1_row, cX1_row, 2, some (.array .int), false, 1, 0, 1, false),
  (yX1_eats, cX1_eats, 2, some .int, false, 1, 2, 1, false),
  (yX1_writes, cX1_writes, 2, some .int, false, 1, 1, 1, false),
  (yX1_nextLetter, cX1_nextLetter, 2, some .int, false, 1, 1, 1, false),
  (yX1_putNextLetter, cX1_putNextLetter, 3, none, false, 1, 2, 2, false),
  (yX1_draw, cX1_draw, 1, some .int, false, 1, 0, 0, false)]
def mt_1 : List Mrow := [(yX1_passDays, cX1_passDays, 4, none, false, 1, 5, 2, false),
  (yX1_dayGoesBy, cX1_dayGoesBy, 3, none, false, 1, 4, 1, false),
  (yX1_eatCatch, cX1_eatCatch, 7, none, false, 1, 3, 3, false),
  (yX1_keepBones, cX1_keepBones, 6, none, false, 1, 1, 3, false),
  (yX1_writeLetters, cX1_writeLetters, 5, none, false, 1, 2, 1, false),
  (yX1_cookSoup, cX1_cookSoup, 2, none, false, 1, 0, 0, false),
  (yX1_sumOf, cX1_sumOf, 5, some .int, false, 1, 1, 1, false),
  (yX1_lettersInJar, cX1_lettersInJar, 3, some .int, false, 1, 0, 0, false),
  (yX1_writersWhoWait, cX1_writersWhoWait, 3, some .int, false, 1, 2, 0, false),
  (yX1_lettersLacking, cX1_lettersLacking, 3, some .int, false, 1, 0, 0, false),
  (yX1_writersWhoStarve, cX1_writersWhoStarve, 3, some .int, false, 1, 0, 0, false),
  (yX1_spotsHeld, cX1_spotsHeld, 3, some .int, false, 1, 0, 0, false),
  (yX2_isMissing, cX2_isMissing, 1, some .boolean, false, 2, 0, 0, false),
  (yX2_begin, cX2_begin, 4, none, false, 2, 0, 2, false),
  (yX2_lowestBits, cX2_lowestBits, 2, some .int, false, 2, 0, 1, false),
  (yX2_has, cX2_has, 3, some .boolean, false, 2, 0, 2, false)]
def mt_2 : List Mrow := [(yX3_add, cX3_add, 2, none, false, 3, 0, 1, false),
  (yX3_readInto, cX3_readInto, 3, some .int, false, 3, 5, 1, false),
  (yX3_readItem, cX3_readItem, 3, some .boolean, false, 3, 4, 1, false),
  (yX3_readWriter, cX3_readWriter, 5, some .boolean, false, 3, 3, 2, false),
  (yX3_readFish, cX3_readFish, 3, some .boolean, false, 3, 3, 1, false),
  (yX3_readJar, cX3_readJar, 3, some .boolean, false, 3, 3, 1, false),
  (yX3_isName, cX3_isName, 3, some .boolean, false, 3, 0, 1, false),
  (yX3_isNumber, cX3_isNumber, 2, some .boolean, false, 3, 0, 1, false),
  (yX3_takeNumber, cX3_takeNumber, 2, some .int, false, 3, 2, 0, false),
  (yX3_toNextToken, cX3_toNextToken, 1, none, false, 3, 1, 0, false),
  (yX3_isSmallLetter, cX3_isSmallLetter, 1, some .boolean, true, 3, 0, 1, false),
  (yX3_isDigit, cX3_isDigit, 1, some .boolean, true, 3, 0, 1, false),
  (yX4_jar, cX4_jar, 4, some .int, false, 4, 2, 2, false),
  (yX4_bones, cX4_bones, 2, some .int, false, 4, 2, 1, false),
  (yX4_fish, cX4_fish, 6, some .int, false, 4, 2, 3, false),
  (yX4_fishOf, cX4_fishOf, 3, some .int, false, 4, 2, 2, false)]
def mt_3 : List Mrow := [(yX4_writer, cX4_writer, 3, some .int, false, 4, 2, 2, false),
  (yX4_of, cX4_of, 3, some .int, false, 4, 3, 2, false),
  (yX4_change, cX4_change, 6, some .int, false, 4, 2, 3, false),
  (yX4_keeps, cX4_keeps, 6, some .int, false, 4, 2, 2, false),
  (yX4_spells, cX4_spells, 5, some .int, false, 4, 2, 1, false),
  (yX4_go, cX4_go, 2, some .int, false, 4, 6, 1, false),
  (yX4_now, cX4_now, 2, some .int, false, 4, 3, 1, false),
  (yX4_ahead, cX4_ahead, 4, some .int, false, 4, 6, 3, false),
  (yX4_later, cX4_later, 3, some .int, false, 4, 6, 2, false),
  (yX4_when, cX4_when, 4, some .int, false, 4, 5, 2, false),
  (yX4_starves, cX4_starves, 2, some .int, false, 4, 6, 1, false),
  (yX4_out, cX4_out, 2, some .int, false, 4, 6, 1, false),
  (yX4_daysUntilNone, cX4_daysUntilNone, 4, some .int, false, 4, 5, 2, false),
  (yX4_catchFor, cX4_catchFor, 6, some .int, false, 4, 6, 1, false),
  (yX4_fewest, cX4_fewest, 6, some .int, false, 4, 6, 4, false),
  (yX4_letterFor, cX4_letterFor, 6, some .int, false, 4, 6, 2, false)]
def mt_4 : List Mrow := [(yX4_kindFor, cX4_kindFor, 6, some .int, false, 4, 6, 2, false),
  (yX4_away, cX4_away, 7, some .int, false, 4, 6, 3, false),
  (yX4_bonesFor, cX4_bonesFor, 7, some .int, false, 4, 6, 2, false),
  (yX4_fits, cX4_fits, 6, some .int, false, 4, 6, 2, false),
  (yX4_kinds, cX4_kinds, 6, some .int, false, 4, 6, 2, false),
  (yX4_findingOf, cX4_findingOf, 3, some .int, false, 4, 2, 2, false),
  (yX4_goesAsTold, cX4_goesAsTold, 4, some .boolean, false, 4, 5, 2, false),
  (yX4_texts, cX4_texts, 6, some .int, false, 4, 2, 1, false),
  (yX4_choices, cX4_choices, 5, some .long, true, 4, 0, 2, true),
  (yX4_catches, cX4_catches, 4, some .int, false, 4, 5, 1, false),
  (yX4_odds, cX4_odds, 11, some .long, false, 4, 2, 2, true),
  (yX4_commonDivisor, cX4_commonDivisor, 11, some .long, true, 4, 0, 2, true),
  (yX4_seed, cX4_seed, 3, some .int, false, 4, 0, 1, false),
  (yX4_feed, cX4_feed, 4, some .int, false, 4, 2, 2, false),
  (yX4_wipe, cX4_wipe, 2, some .int, false, 4, 0, 0, false),
  (yX4_text, cX4_text, 2, some .int, false, 4, 6, 0, false)]
def mt_5 : List Mrow := [(yX4_hold, cX4_hold, 3, some .int, false, 4, 2, 2, false),
  (yX4_as, cX4_as, 4, some .int, false, 4, 2, 2, false),
  (yX4_sheet, cX4_sheet, 4, some .int, false, 4, 2, 3, false),
  (yX4_write, cX4_write, 5, some .int, false, 4, 2, 3, false),
  (yX4_copy, cX4_copy, 8, some .int, false, 4, 2, 5, false),
  (yX4_load, cX4_load, 4, some .int, false, 4, 2, 1, false),
  (yX4_judge, cX4_judge, 4, some .int, false, 4, 2, 1, false),
  (yX4_image, cX4_image, 1, some .int, false, 4, 1, 0, false),
  (yX4_undo, cX4_undo, 1, some .int, false, 4, 2, 0, false),
  (yX4_tear, cX4_tear, 2, some .int, false, 4, 0, 0, false),
  (yX4_count, cX4_count, 2, some .int, false, 4, 2, 1, false),
  (yX4_status, cX4_status, 4, some .int, false, 4, 2, 1, false),
  (yX4_finding, cX4_finding, 2, some .int, false, 4, 1, 1, false),
  (yX4_isWriter, cX4_isWriter, 2, some .boolean, false, 4, 0, 1, false),
  (yX4_isLetter, cX4_isLetter, 1, some .boolean, true, 4, 1, 1, false),
  (yX4_isFish, cX4_isFish, 1, some .boolean, true, 4, 1, 1, false)]
def mt_6 : List Mrow := [(yX4_isSheet, cX4_isSheet, 1, some .boolean, true, 4, 1, 1, false),
  (yX4_within, cX4_within, 2, some .boolean, true, 4, 0, 2, false),
  (yX4_digit, cX4_digit, 2, some .int, true, 4, 0, 2, false),
  (yX4_bone, cX4_bone, 2, some .int, true, 4, 0, 2, false),
  (yX4_lettersOf, cX4_lettersOf, 1, some .int, true, 4, 1, 1, false),
  (yX4_howOften, cX4_howOften, 4, some .int, true, 4, 1, 2, false),
  (yX5_isIn, cX5_isIn, 6, some .boolean, true, 5, 0, 3, true),
  (yX5_finds, cX5_finds, 2, some .int, false, 5, 0, 1, false),
  (yX5_becomes, cX5_becomes, 4, some .int, false, 5, 0, 2, false),
  (yX5_copyRow, cX5_copyRow, 3, none, true, 5, 0, 2, false),
  (yX5_isLetter10, cX5_isLetter10, 1, some .boolean, true, 5, 0, 1, false),
  (yX5_isFish, cX5_isFish, 1, some .boolean, true, 5, 0, 1, false),
  (yX5_isWriter, cX5_isWriter, 2, some .boolean, false, 5, 0, 1, false),
  (yX5_at, cX5_at, 2, some .int, true, 5, 0, 2, false),
  (yX5_its, cX5_its, 3, some .int, false, 5, 0, 2, false),
  (yX5_least, cX5_least, 2, some .int, true, 5, 0, 2, false)]
def mt_7 : List Mrow := [(yX5_greatest, cX5_greatest, 2, some .int, true, 5, 0, 2, false),
  (yX5_orNone, cX5_orNone, 2, some .int, false, 5, 1, 1, false),
  (yX5_many, cX5_many, 3, some .int, true, 5, 0, 1, false),
  (yX5_digit, cX5_digit, 2, some .int, true, 5, 0, 2, false),
  (yX5_jar, cX5_jar, 3, some .int, false, 5, 1, 2, false),
  (yX5_bones, cX5_bones, 2, some .int, false, 5, 1, 1, false),
  (yX5_fish, cX5_fish, 4, some .int, false, 5, 1, 3, false),
  (yX5_lettersOf, cX5_lettersOf, 1, some .int, true, 5, 0, 1, false),
  (yX5_fishOf, cX5_fishOf, 3, some .int, false, 5, 1, 2, false),
  (yX5_comes, cX5_comes, 4, none, false, 5, 1, 2, false),
  (yX5_writer, cX5_writer, 3, some .int, false, 5, 2, 2, false),
  (yX5_eats, cX5_eats, 3, some .int, false, 5, 1, 1, false),
  (yX5_writesMost, cX5_writesMost, 2, some .int, false, 5, 1, 1, false),
  (yX5_next, cX5_next, 2, some .int, false, 5, 1, 1, false),
  (yX5_isKeptBy, cX5_isKeptBy, 3, some .boolean, true, 5, 0, 3, false),
  (yX5_of, cX5_of, 3, some .int, false, 5, 2, 2, false)]
def mt_8 : List Mrow := [(yX5_greatestOf, cX5_greatestOf, 1, some .int, true, 5, 0, 1, false),
  (yX5_change, cX5_change, 5, some .int, false, 5, 1, 3, false),
  (yX5_keeps, cX5_keeps, 6, some .int, false, 5, 1, 2, false),
  (yX5_spellsOf, cX5_spellsOf, 7, some .int, false, 5, 1, 1, false),
  (yX5_spells, cX5_spells, 2, some .int, false, 5, 2, 1, false),
  (yX5_eatsOne, cX5_eatsOne, 5, none, false, 5, 1, 2, false),
  (yX5_writesOne, cX5_writesOne, 2, none, false, 5, 2, 1, false),
  (yX5_dayBut, cX5_dayBut, 7, none, false, 5, 3, 1, false),
  (yX5_goes, cX5_goes, 3, none, false, 5, 4, 1, false),
  (yX5_sumOf, cX5_sumOf, 4, some .int, false, 5, 1, 1, false),
  (yX5_jarAll, cX5_jarAll, 3, some .int, false, 5, 0, 0, false),
  (yX5_go, cX5_go, 2, some .int, false, 5, 5, 1, false),
  (yX5_waiting, cX5_waiting, 3, some .int, false, 5, 2, 0, false),
  (yX5_lacking, cX5_lacking, 3, some .int, false, 5, 0, 0, false),
  (yX5_thin, cX5_thin, 3, some .int, false, 5, 1, 0, false),
  (yX5_now, cX5_now, 2, some .int, false, 5, 3, 1, false)]
def mt_9 : List Mrow := [(yX5_thenAt, cX5_thenAt, 4, some .int, false, 5, 5, 2, false),
  (yX5_ahead, cX5_ahead, 4, some .int, false, 5, 6, 3, false),
  (yX5_later, cX5_later, 3, some .int, false, 5, 6, 2, false),
  (yX5_when, cX5_when, 4, some .int, false, 5, 4, 2, false),
  (yX5_whenNone, cX5_whenNone, 3, some .int, false, 5, 4, 1, false),
  (yX5_starves, cX5_starves, 2, some .int, false, 5, 5, 1, false),
  (yX5_out, cX5_out, 2, some .int, false, 5, 5, 1, false),
  (yX5_catchFor, cX5_catchFor, 6, some .int, false, 5, 5, 1, false),
  (yX5_fewest, cX5_fewest, 8, some .int, false, 5, 6, 4, false),
  (yX5_wordWith, cX5_wordWith, 4, some .int, false, 5, 2, 2, false),
  (yX5_isAsked, cX5_isAsked, 3, some .boolean, false, 5, 1, 2, false),
  (yX5_letterFor, cX5_letterFor, 8, some .int, false, 5, 6, 2, false),
  (yX5_kindFor, cX5_kindFor, 8, some .int, false, 5, 6, 2, false),
  (yX5_away, cX5_away, 7, some .int, false, 5, 4, 3, false),
  (yX5_bonesFor, cX5_bonesFor, 7, some .int, false, 5, 5, 2, false),
  (yX5_isTold, cX5_isTold, 6, some .boolean, false, 5, 4, 2, false)]
def mt_10 : List Mrow := [(yX5_wantsFor, cX5_wantsFor, 3, some .int, false, 5, 2, 2, false),
  (yX5_fits, cX5_fits, 7, some .int, false, 5, 5, 2, false),
  (yX5_kinds, cX5_kinds, 7, some .int, false, 5, 5, 2, false),
  (yX5_texts, cX5_texts, 4, some .int, false, 5, 2, 1, false),
  (yX5_draw, cX5_draw, 1, some .int, false, 5, 0, 0, false),
  (yX5_catches, cX5_catches, 4, some .int, false, 5, 4, 1, false),
  (yX5_odds, cX5_odds, 13, some .long, false, 5, 1, 2, true),
  (yX5_seed, cX5_seed, 2, some .int, false, 5, 1, 1, false),
  (yX5_feed, cX5_feed, 4, some .int, false, 5, 1, 2, false),
  (yX5_wipe, cX5_wipe, 2, some .int, false, 5, 0, 0, false),
  (yX5_isLetter, cX5_isLetter, 1, some .boolean, true, 5, 0, 1, false),
  (yX5_isDigit, cX5_isDigit, 1, some .boolean, true, 5, 0, 1, false),
  (yX5_byteAt, cX5_byteAt, 2, some .int, false, 5, 0, 1, false),
  (yX5_nextToken, cX5_nextToken, 2, none, false, 5, 1, 0, false),
  (yX5_has3, cX5_has3, 5, some .boolean, false, 5, 1, 4, false),
  (yX5_isWord, cX5_isWord, 2, some .boolean, false, 5, 0, 1, false)]
def mt_11 : List Mrow := [(yX5_fails, cX5_fails, 1, some .boolean, false, 5, 0, 0, false),
  (yX5_isFour, cX5_isFour, 5, some .boolean, false, 5, 2, 4, false),
  (yX5_isFive, cX5_isFive, 6, some .boolean, false, 5, 2, 5, false),
  (yX5_isSix, cX5_isSix, 7, some .boolean, false, 5, 2, 6, false),
  (yX5_isNumber, cX5_isNumber, 3, some .boolean, false, 5, 1, 2, false),
  (yX5_kindHere, cX5_kindHere, 1, some .int, false, 5, 3, 0, false),
  (yX5_perhaps, cX5_perhaps, 4, some .boolean, false, 5, 2, 3, false),
  (yX5_writerHere, cX5_writerHere, 3, some .boolean, false, 5, 3, 1, false),
  (yX5_fishHere, cX5_fishHere, 2, some .boolean, false, 5, 3, 0, false),
  (yX5_jarHere, cX5_jarHere, 1, some .boolean, false, 5, 3, 0, false),
  (yX5_itemHere, cX5_itemHere, 2, some .boolean, false, 5, 4, 0, false),
  (yX5_text, cX5_text, 3, some .int, false, 5, 5, 0, false),
  (yX5_hold, cX5_hold, 3, some .int, false, 5, 1, 2, false),
  (yX5_isUnder, cX5_isUnder, 2, some .boolean, true, 5, 0, 2, false),
  (yX5_as, cX5_as, 4, some .int, false, 5, 1, 2, false),
  (yX5_isSheet, cX5_isSheet, 1, some .boolean, true, 5, 0, 1, false)]
def mt_12 : List Mrow := [(yX5_sheet, cX5_sheet, 5, some .int, false, 5, 1, 3, false),
  (yX5_write, cX5_write, 4, some .int, false, 5, 1, 3, false),
  (yX5_copy, cX5_copy, 10, some .int, false, 5, 1, 5, false),
  (yX5_wants, cX5_wants, 2, some .int, false, 5, 1, 1, false),
  (yX5_load, cX5_load, 3, some .int, false, 5, 2, 1, false),
  (yX5_judge, cX5_judge, 3, some .int, false, 5, 2, 1, false),
  (yX5_image, cX5_image, 1, some .int, false, 5, 1, 0, false),
  (yX5_undo, cX5_undo, 1, some .int, false, 5, 1, 0, false),
  (yX5_tear, cX5_tear, 2, some .int, false, 5, 0, 0, false),
  (yX5_count, cX5_count, 4, some .int, false, 5, 2, 1, false),
  (yX5_status, cX5_status, 2, some .int, false, 5, 1, 1, false),
  (yJ6_bitCount_0f7a4, cJ6_bitCount_0f7a4, 1, some .int, true, 6, 0, 1, false),
  (yL_law, cL_law, 4, some .boolean, true, 7, 7, 1, false)]
def mts : List (List Mrow) := [mt_0, mt_1, mt_2, mt_3, mt_4, mt_5, mt_6, mt_7, mt_8, mt_9, mt_10, mt_11, mt_12]
def mt0 : Mrow := (⟨"", "", ""⟩, ⟨#[]⟩, 0, none, false, 0, 99, 0, false)
def mt (M : Nat) : Mrow := (mts.getD (M / 16) []).getD (M % 16) mt0
def kI (oc k : Nat) : Option Int32 := match oc with
  | 1 => match k with
    | 79 => some (1103515245)
    | 96 => some (99999)
    | _ => none
  | 4 => match k with
    | 140 => some (99999)
    | 257 => some (-1000001)
    | _ => none
  | 5 => match k with
    | 37 => some (-1000001)
    | 38 => some (-1000004)
    | 77 => some (-1000002)
    | 132 => some (99999)
    | 133 => some (-1000005)
    | 188 => some (1103515245)
    | 267 => some (-1000006)
    | 271 => some (-1000003)
    | 275 => some (-1000007)
    | _ => none
  | 6 => match k with
    | 265 => some (1431655765)
    | 266 => some (858993459)
    | 267 => some (252645135)
    | _ => none
  | _ => none
def kS (oc k : Nat) : Option Nat := match oc with
  | 0 => match k with
    | 27 => some 60
    | 29 => some 61
    | 31 => some 62
    | 33 => some 63
    | 35 => some 64
    | 37 => some 65
    | 39 => some 66
    | _ => none
  | 3 => match k with
    | 38 => some 67
    | 47 => some 68
    | 68 => some 69
    | 78 => some 70
    | 87 => some 71
    | _ => none
  | _ => none
def kL (oc k : Nat) : Option Int64 := match oc with
  | 5 => match k with
    | 47 => some (999)
    | 60 => some (20)
    | 62 => some (2)
    | 73 => some (6)
    | 75 => some (9999)
    | 94 => some (7)
    | 105 => some (4)
    | 130 => some (60)
    | 157 => some (100)
    | 165 => some (40)
    | 186 => some (9)
    | 280 => some (-1)
    | _ => none
  | _ => none
def fl (oc k : Nat) : Option (Nat × Nat) := match oc with
  | 1 => match k with
    | 9 => some (0, 0)
    | 15 => some (0, 1)
    | 18 => some (0, 2)
    | 21 => some (0, 3)
    | 24 => some (0, 4)
    | 27 => some (0, 5)
    | 30 => some (0, 6)
    | 33 => some (0, 7)
    | 36 => some (0, 8)
    | 39 => some (0, 9)
    | 43 => some (0, 10)
    | 46 => some (0, 11)
    | _ => none
  | 2 => match k with
    | 9 => some (1, 0)
    | 15 => some (1, 1)
    | 19 => some (1, 2)
    | _ => none
  | 3 => match k with
    | 9 => some (2, 0)
    | 15 => some (2, 1)
    | 19 => some (2, 2)
    | 22 => some (2, 3)
    | 25 => some (2, 4)
    | 28 => some (2, 5)
    | 84 => some (0, 1)
    | 89 => some (0, 2)
    | 92 => some (0, 0)
    | _ => none
  | 4 => match k with
    | 10 => some (3, 0)
    | 16 => some (3, 1)
    | 19 => some (3, 2)
    | 22 => some (3, 3)
    | 28 => some (3, 4)
    | 35 => some (3, 5)
    | 39 => some (3, 6)
    | 43 => some (3, 7)
    | 60 => some (0, 0)
    | 66 => some (0, 1)
    | 69 => some (0, 2)
    | 116 => some (0, 3)
    | 136 => some (0, 10)
    | 165 => some (0, 7)
    | 172 => some (0, 6)
    | 182 => some (0, 9)
    | 198 => some (1, 1)
    | 201 => some (1, 0)
    | 203 => some (0, 5)
    | 219 => some (0, 11)
    | 222 => some (2, 1)
    | 230 => some (0, 8)
    | 242 => some (1, 2)
    | _ => none
  | 5 => match k with
    | 7 => some (4, 0)
    | 13 => some (4, 1)
    | 16 => some (4, 2)
    | 19 => some (4, 3)
    | 22 => some (4, 5)
    | 25 => some (4, 6)
    | 28 => some (4, 8)
    | 31 => some (4, 9)
    | 34 => some (4, 10)
    | 192 => some (4, 7)
    | 196 => some (4, 13)
    | 199 => some (4, 12)
    | 211 => some (4, 11)
    | 214 => some (4, 14)
    | 217 => some (4, 15)
    | 276 => some (4, 4)
    | _ => none
  | _ => none
def gs (oc k : Nat) : Option Nat := match oc with
  | 0 => match k with
    | 13 => some 56
    | _ => none
  | 1 => match k with
    | 76 => some 54
    | _ => none
  | 4 => match k with
    | 109 => some 55
    | 258 => some 54
    | _ => none
  | _ => none
def cs (oc k : Nat) : Option Nat := match oc with
  | 0 => match k with
    | 9 => some 0
    | 17 => some 3
    | 21 => some 300
    | _ => none
  | 1 => match k with
    | 49 => some 303
    | 55 => some 8
    | 59 => some 2
    | 65 => some 4
    | 69 => some 98
    | 72 => some 13
    | 80 => some 17
    | 84 => some 18
    | 88 => some 20
    | 91 => some 300
    | 97 => some 301
    | 100 => some 21
    | 103 => some 11
    | 105 => some 19
    | 108 => some 99
    | 111 => some 5
    | 115 => some 12
    | 117 => some 10
    | _ => none
  | 3 => match k with
    | 31 => some 41
    | 34 => some 34
    | 40 => some 38
    | 44 => some 36
    | 49 => some 37
    | 54 => some 6
    | 58 => some 35
    | 62 => some 8
    | 70 => some 39
    | 74 => some 40
    | 80 => some 9
    | 94 => some 310
    | 99 => some 311
    | 103 => some 42
    | 106 => some 43
    | 109 => some 301
    | _ => none
  | 4 => match k with
    | 48 => some 94
    | 52 => some 97
    | 56 => some 92
    | 63 => some 95
    | 72 => some 100
    | 75 => some 203
    | 80 => some 0
    | 85 => some 8
    | 89 => some 9
    | 93 => some 93
    | 96 => some 11
    | 99 => some 12
    | 102 => some 13
    | 105 => some 10
    | 112 => some 99
    | 119 => some 5
    | 122 => some 98
    | 125 => some 101
    | 128 => some 300
    | 133 => some 301
    | 141 => some 16
    | 145 => some 22
    | 148 => some 23
    | 152 => some 24
    | 155 => some 25
    | 158 => some 26
    | 161 => some 7
    | 168 => some 17
    | 175 => some 60
    | 179 => some 14
    | 185 => some 69
    | 188 => some 70
    | 192 => some 96
    | 195 => some 28
    | 206 => some 72
    | 210 => some 15
    | 213 => some 75
    | 217 => some 302
    | 223 => some 32
    | 226 => some 33
    | 233 => some 1
    | 236 => some 29
    | 239 => some 30
    | 245 => some 31
    | 248 => some 303
    | 254 => some 27
    | _ => none
  | 5 => match k with
    | 39 => some 103
    | 43 => some 106
    | 49 => some 102
    | 53 => some 104
    | 57 => some 107
    | 64 => some 119
    | 67 => some 114
    | 70 => some 109
    | 78 => some 121
    | 82 => some 110
    | 85 => some 112
    | 88 => some 115
    | 91 => some 108
    | 96 => some 123
    | 99 => some 124
    | 102 => some 125
    | 107 => some 128
    | 110 => some 126
    | 114 => some 111
    | 117 => some 131
    | 120 => some 133
    | 123 => some 134
    | 127 => some 135
    | 134 => some 136
    | 137 => some 137
    | 140 => some 138
    | 144 => some 140
    | 147 => some 141
    | 150 => some 142
    | 153 => some 105
    | 159 => some 144
    | 162 => some 148
    | 167 => some 113
    | 170 => some 154
    | 174 => some 153
    | 177 => some 195
    | 180 => some 160
    | 183 => some 159
    | 189 => some 164
    | 202 => some 172
    | 205 => some 170
    | 208 => some 171
    | 220 => some 175
    | 223 => some 174
    | 227 => some 176
    | 231 => some 179
    | 235 => some 177
    | 238 => some 178
    | 242 => some 173
    | 245 => some 180
    | 248 => some 182
    | 252 => some 181
    | 255 => some 183
    | 258 => some 184
    | 261 => some 185
    | 264 => some 186
    | 268 => some 189
    | 272 => some 191
    | _ => none
  | 7 => match k with
    | 13 => some 44
    | 17 => some 116
    | 18 => some 45
    | 22 => some 117
    | 23 => some 46
    | 27 => some 118
    | 28 => some 47
    | 31 => some 120
    | 32 => some 48
    | 35 => some 122
    | 36 => some 49
    | 39 => some 127
    | 40 => some 50
    | 43 => some 129
    | 44 => some 51
    | 47 => some 130
    | 48 => some 52
    | 51 => some 132
    | 52 => some 53
    | 55 => some 139
    | 56 => some 54
    | 59 => some 143
    | 60 => some 55
    | 63 => some 145
    | 64 => some 56
    | 67 => some 146
    | 68 => some 57
    | 71 => some 147
    | 72 => some 58
    | 75 => some 149
    | 76 => some 59
    | 79 => some 150
    | 80 => some 61
    | 83 => some 151
    | 84 => some 62
    | 88 => some 152
    | 89 => some 63
    | 92 => some 155
    | 93 => some 64
    | 96 => some 156
    | 97 => some 65
    | 100 => some 157
    | 101 => some 66
    | 104 => some 158
    | 105 => some 67
    | 108 => some 161
    | 109 => some 68
    | 112 => some 162
    | 113 => some 71
    | 116 => some 163
    | 117 => some 73
    | 120 => some 165
    | 121 => some 74
    | 125 => some 166
    | 126 => some 76
    | 129 => some 167
    | 130 => some 77
    | 133 => some 168
    | 134 => some 78
    | 138 => some 169
    | 139 => some 79
    | 142 => some 187
    | 143 => some 80
    | 146 => some 188
    | 147 => some 81
    | 150 => some 190
    | 151 => some 82
    | 154 => some 192
    | 155 => some 83
    | 158 => some 193
    | 159 => some 84
    | 163 => some 194
    | 164 => some 85
    | 167 => some 196
    | 168 => some 86
    | 171 => some 197
    | 172 => some 87
    | 175 => some 198
    | 176 => some 88
    | 179 => some 199
    | 180 => some 89
    | 183 => some 200
    | 184 => some 90
    | 187 => some 201
    | 188 => some 91
    | 191 => some 202
    | _ => none
  | _ => none
def stx (i : Nat) : List Nat := match i with
  | 0 => [112, 111, 101, 116]
  | 1 => [115, 99, 104, 111, 108, 97, 114]
  | 2 => [108, 97, 119, 121, 101, 114]
  | 3 => [99, 101, 110, 115, 111, 114]
  | 4 => [99, 104, 105, 108, 100]
  | 5 => [119, 105, 100, 111, 119]
  | 6 => [119, 114, 105, 116, 101, 114]
  | 7 => [102, 105, 115, 104]
  | 8 => [106, 97, 114]
  | 9 => [119, 111, 114, 100]
  | 10 => [102, 97, 116]
  | 11 => [99, 97, 116, 99, 104]
  | _ => []
def slen (i : Nat) : Nat := (stx i).length
def sch (i k : Nat) : Int32 := nI ((stx i).getD k 0)
/-! THE ABSTRACT MACHINE. Its world: numbers of cells 0 .. 53 (w.1 a k: number k of cell a; w.2: the row of longs), the script (57; its length 58 0).
0 BoneWords; 1, 11, 21 Reefs (their rows behind each); 31 the row of Sheets, 32, 34, 36, 38 Sheets (row behind each); 40 Tape, 41 its bytes; 42 found; 43 rows; 44 BoneWordsModel, 45 .. 53 its rows; 54 TENS, 55 MOST, 56 UNDER; 60 .. 71 Strings. -/
abbrev Wd : Type := (Nat → Nat → Int32) × (Nat → Int64)
abbrev Lc : Type := List (Option Value)
abbrev Lk : Type := List (Option Int64)
abbrev Cf : Type := Nat × Lc × Lk × List Value × Wd
abbrev Rs : Type := List Value × Wd
abbrev St1 : Type := Option (Cf ⊕ Rs)
def nx (pc : Nat) (L : Lc) (K : Lk) (st : List Value) (w : Wd) : St1 := some (.inl (pc, L, K, st, w))
/-- the world with another cell -/
def put (w : Wd) (a : Nat) (f : Nat → Int32) : Wd := (fun b => if b = a then f else w.1 b, w.2)
/-- the world with another number -/
def st2 (w : Wd) (a k : Nat) (v : Int32) : Wd := put w a (upd (w.1 a) k v)
/-- the class of an object -/
def okc (a : Nat) : Option Nat := match a with
  | 0 => some 3 | 1 => some 0 | 11 => some 0 | 21 => some 0 | 32 => some 1 | 34 => some 1 | 36 => some 1 | 38 => some 1 | 40 => some 2 | 44 => some 4 | _ => none
/-- how many fields a class has -/
def nfc (c : Nat) : Nat := match c with
  | 0 => 12 | 1 => 3 | 2 => 6 | 3 => 8 | _ => 16
/-- what cell a field of references holds -/
def frc (c a k : Nat) : Option Nat := match c with
  | 0 => if k < 9 then some (a + 1 + k) else none
  | 1 => if k = 0 then some (a + 1) else none
  | 2 => if k = 0 then some 41 else none
  | 3 => match k with | 0 => some 1 | 1 => some 11 | 2 => some 21 | 4 => some 31 | 5 => some 40 | 6 => some 42 | 7 => some 43 | _ => none
  | _ => match k with | 0 => some 45 | 1 => some 46 | 2 => some 47 | 3 => some 48 | 5 => some 49 | 6 => some 50 | 8 => some 51 | 9 => some 52 | 10 => some 53 | _ => none
/-- a field of booleans -/
def fzc (c k : Nat) : Bool := (c == 3 && k == 3) || (c == 4 && k == 4)
/-- the length of a row of ints -/
def al (a : Nat) : Nat := match a with
  | 2 => 10 | 3 => 6 | 4 => 6 | 5 => 8 | 6 => 8 | 7 => 8 | 8 => 8 | 9 => 8 | 10 => 10
  | 12 => 10 | 13 => 6 | 14 => 6 | 15 => 8 | 16 => 8 | 17 => 8 | 18 => 8 | 19 => 8 | 20 => 10
  | 22 => 10 | 23 => 6 | 24 => 6 | 25 => 8 | 26 => 8 | 27 => 8 | 28 => 8 | 29 => 8 | 30 => 10
  | 33 => 40 | 35 => 40 | 37 => 40 | 39 => 40 | 41 => 120 | 42 => 7
  | 45 => 75 | 46 => 75 | 47 => 75 | 48 => 75 | 49 => 8 | 50 => 120 | 51 => 4 | 52 => 4 | 53 => 160 | _ => 0
/-- the static rows -/
def sl (a : Nat) : Nat := match a with | 54 => 4 | 55 => 5 | 56 => 7 | _ => 0
def sv (a k : Nat) : Int32 := match a with
  | 54 => ([1000, 100, 10, 1] : List Int32).getD k 0
  | 55 => ([6, 9999, 3, 99, 9999] : List Int32).getD k 0
  | _ => ([-1, 0, 0, 2, 3, 0, 1] : List Int32).getD k 0
def wds (st : List Value) : Nat := (st.map fun v => v.category).sum
def swt (x : Int32) : Int → List Int → Int → Int
  | _, [], d => d
  | lo, o :: os, d => if x = Int32.ofInt lo then o else swt x (lo + 1) os d
def jp (pc : Nat) (off : Int) : Nat := ((pc : Int) + off).toNat
def klI (K : Lk) (i : Nat) : Lk := (K.set i none).set (i - 1) none
def mB (M : Nat) : ByteArray := (mt M).2.1
def mN (M : Nat) : MethodName := (mt M).1
def mX (M : Nat) : Nat := (mt M).2.2.1
def mR (M : Nat) : Option FieldType := (mt M).2.2.2.1
def mS (M : Nat) : Bool := (mt M).2.2.2.2.1
def mC (M : Nat) : Nat := (mt M).2.2.2.2.2.1
def mV (M : Nat) : Nat := (mt M).2.2.2.2.2.2.1
def mA (M : Nat) : Nat := (mt M).2.2.2.2.2.2.2.1
def mJ (M : Nat) : Bool := (mt M).2.2.2.2.2.2.2.2
/-- the locals at the entry: as many slots as the method has -/
def enL : Nat → List Value → Lc
  | n, [] => List.replicate n none
  | 0, _ => []
  | n + 1, .long _ :: vs => none :: (match n with | 0 => [] | k + 1 => none :: enL k vs)
  | n + 1, v :: vs => some v :: enL n vs
def enK : Nat → List Value → Lk
  | n, [] => List.replicate n none
  | 0, _ => []
  | n + 1, .long x :: vs => some x :: (match n with | 0 => [] | k + 1 => none :: enK k vs)
  | n + 1, _ :: vs => none :: enK n vs
def exA (oc pc : Nat) (i : Instr × Nat) (L : Lc) (K : Lk) (st : List Value) (w : Wd) : St1 := match i with
  | (.iconst v, 1) => nx (pc + 1) L K (.int (Int32.ofInt v) :: st) w
  | (.bipush v, 2) => nx (pc + 2) L K (.int (Int8.ofInt v).toInt32 :: st) w
  | (.sipush v, 3) => nx (pc + 3) L K (.int (Int16.ofInt v).toInt32 :: st) w
  | (.lconst v, 1) => nx (pc + 1) L K (.long (Int64.ofNat (v : Nat)) :: st) w
  | (.ldc k, 2) => match kI oc k with
    | some v => nx (pc + 2) L K (.int v :: st) w
    | none => match kS oc k with
      | some a => nx (pc + 2) L K (.ref a :: st) w
      | none => none
  | (.ldc_w k, 3) => match kI oc k with
    | some v => nx (pc + 3) L K (.int v :: st) w
    | none => none
  | (.ldc2_w k, 3) => match kL oc k with
    | some v => nx (pc + 3) L K (.long v :: st) w
    | none => none
  | _ => none
def ldI (pc i : Nat) (L : Lc) (K : Lk) (st : List Value) (w : Wd) : St1 := match L[i]? with
  | some (some (.int x)) => nx pc L K (.int x :: st) w
  | _ => none
def ldR (pc i : Nat) (L : Lc) (K : Lk) (st : List Value) (w : Wd) : St1 := match L[i]? with
  | some (some (.ref x)) => nx pc L K (.ref x :: st) w
  | _ => none
def ldL (pc i : Nat) (L : Lc) (K : Lk) (st : List Value) (w : Wd) : St1 := match K[i]? with
  | some (some x) => nx pc L K (.long x :: st) w
  | _ => none
def exB (pc : Nat) (i : Instr × Nat) (L : Lc) (K : Lk) (st : List Value) (w : Wd) : St1 := match i with
  | (.iload_n k, 1) => ldI (pc + 1) k L K st w
  | (.iload k, 2) => ldI (pc + 2) k L K st w
  | (.aload_n k, 1) => ldR (pc + 1) k L K st w
  | (.aload k, 2) => ldR (pc + 2) k L K st w
  | (.lload_n k, 1) => ldL (pc + 1) k L K st w
  | (.lload k, 2) => ldL (pc + 2) k L K st w
  | _ => none
def stI (pc i : Nat) (L : Lc) (K : Lk) (st : List Value) (w : Wd) : St1 := match st with
  | .int x :: st => if i < L.length then nx pc (L.set i (some (.int x))) (klI K i) st w else none
  | _ => none
def stR (pc i : Nat) (L : Lc) (K : Lk) (st : List Value) (w : Wd) : St1 := match st with
  | .ref x :: st => if i < L.length then nx pc (L.set i (some (.ref x))) (klI K i) st w else none
  | _ => none
def stL (pc i : Nat) (L : Lc) (K : Lk) (st : List Value) (w : Wd) : St1 := match st with
  | .long x :: st => if i + 1 < L.length then nx pc ((L.set i none).set (i + 1) none) (((K.set (i - 1) none).set (i + 1) none).set i (some x)) st w else none
  | _ => none
def exC (pc : Nat) (i : Instr × Nat) (L : Lc) (K : Lk) (st : List Value) (w : Wd) : St1 := match i with
  | (.istore_n k, 1) => stI (pc + 1) k L K st w
  | (.istore k, 2) => stI (pc + 2) k L K st w
  | (.astore_n k, 1) => stR (pc + 1) k L K st w
  | (.astore k, 2) => stR (pc + 2) k L K st w
  | (.lstore_n k, 1) => stL (pc + 1) k L K st w
  | (.lstore k, 2) => stL (pc + 2) k L K st w
  | (.iinc k n, 3) => match L[k]? with
    | some (some (.int x)) => nx (pc + 3) (L.set k (some (.int (x + Int32.ofInt n)))) (klI K k) st w
    | _ => none
  | _ => none
def ii (pc : Nat) (L : Lc) (K : Lk) (st : List Value) (w : Wd) (f : Int32 → Int32 → Int32) : St1 := match st with
  | .int y :: .int x :: st => nx pc L K (.int (f x y) :: st) w
  | _ => none
def exD (pc : Nat) (i : Instr × Nat) (L : Lc) (K : Lk) (st : List Value) (w : Wd) : St1 := match i with
  | (.iadd, 1) => ii (pc + 1) L K st w (fun x y => x + y)
  | (.isub, 1) => ii (pc + 1) L K st w (fun x y => x - y)
  | (.imul, 1) => ii (pc + 1) L K st w (fun x y => x * y)
  | (.iand, 1) => ii (pc + 1) L K st w (fun x y => x &&& y)
  | (.ior, 1) => ii (pc + 1) L K st w (fun x y => x ||| y)
  | (.ishl, 1) => ii (pc + 1) L K st w (fun x y => x <<< (y &&& 31))
  | (.ishr, 1) => ii (pc + 1) L K st w (fun x y => x >>> (y &&& 31))
  | (.iushr, 1) => ii (pc + 1) L K st w (fun x y => (x.toUInt32 >>> (y.toUInt32 &&& Int32.toUInt32 31)).toInt32)
  | (.idiv, 1) => match st with
    | .int y :: .int x :: st => if y = 0 then none else nx (pc + 1) L K (.int (x / y) :: st) w
    | _ => none
  | (.irem, 1) => match st with
    | .int y :: .int x :: st => if y = 0 then none else nx (pc + 1) L K (.int (x - x / y * y) :: st) w
    | _ => none
  | _ => none
def exE (pc : Nat) (i : Instr × Nat) (L : Lc) (K : Lk) (st : List Value) (w : Wd) : St1 := match i with
  | (.ladd, 1) => match st with
    | .long y :: .long x :: st => nx (pc + 1) L K (.long (x + y) :: st) w
    | _ => none
  | (.lmul, 1) => match st with
    | .long y :: .long x :: st => nx (pc + 1) L K (.long (x * y) :: st) w
    | _ => none
  | (.ldiv, 1) => match st with
    | .long y :: .long x :: st => if y = 0 then none else nx (pc + 1) L K (.long (x / y) :: st) w
    | _ => none
  | (.lrem, 1) => match st with
    | .long y :: .long x :: st => if y = 0 then none else nx (pc + 1) L K (.long (x - x / y * y) :: st) w
    | _ => none
  | (.lcmp, 1) => match st with
    | .long y :: .long x :: st => nx (pc + 1) L K (.int (lg_cmp x y) :: st) w
    | _ => none
  | (.i2l, 1) => match st with
    | .int x :: st => nx (pc + 1) L K (.long x.toInt64 :: st) w
    | _ => none
  | (.l2i, 1) => match st with
    | .long x :: st => nx (pc + 1) L K (.int x.toInt32 :: st) w
    | _ => none
  | (.i2b, 1) => match st with
    | .int x :: st => nx (pc + 1) L K (.int x.toInt8.toInt32 :: st) w
    | _ => none
  | (.i2s, 1) => match st with
    | .int x :: st => nx (pc + 1) L K (.int x.toInt16.toInt32 :: st) w
    | _ => none
  | _ => none
def if1 (pc tgt : Nat) (L : Lc) (K : Lk) (st : List Value) (w : Wd) (f : Int32 → Bool) : St1 := match st with
  | .int x :: st => if f x = true then nx tgt L K st w else nx (pc + 3) L K st w
  | _ => none
def if2 (pc tgt : Nat) (L : Lc) (K : Lk) (st : List Value) (w : Wd) (f : Int32 → Int32 → Bool) : St1 := match st with
  | .int y :: .int x :: st => if f x y = true then nx tgt L K st w else nx (pc + 3) L K st w
  | _ => none
def exF (pc : Nat) (i : Instr × Nat) (L : Lc) (K : Lk) (st : List Value) (w : Wd) : St1 := match i with
  | (.ifCond .eq o, 3) => if (pc : Int) + o < 0 then none else if1 pc (jp pc o) L K st w (fun x => decide (x = 0))
  | (.ifCond .ne o, 3) => if (pc : Int) + o < 0 then none else if1 pc (jp pc o) L K st w (fun x => decide (¬ x = 0))
  | (.ifCond .lt o, 3) => if (pc : Int) + o < 0 then none else if1 pc (jp pc o) L K st w (fun x => decide (x < 0))
  | (.ifCond .ge o, 3) => if (pc : Int) + o < 0 then none else if1 pc (jp pc o) L K st w (fun x => decide (0 ≤ x))
  | (.ifCond .gt o, 3) => if (pc : Int) + o < 0 then none else if1 pc (jp pc o) L K st w (fun x => decide (0 < x))
  | (.ifCond .le o, 3) => if (pc : Int) + o < 0 then none else if1 pc (jp pc o) L K st w (fun x => decide (x ≤ 0))
  | (.if_icmp .eq o, 3) => if (pc : Int) + o < 0 then none else if2 pc (jp pc o) L K st w (fun x y => decide (x = y))
  | (.if_icmp .ne o, 3) => if (pc : Int) + o < 0 then none else if2 pc (jp pc o) L K st w (fun x y => decide (¬ x = y))
  | (.if_icmp .lt o, 3) => if (pc : Int) + o < 0 then none else if2 pc (jp pc o) L K st w (fun x y => decide (x < y))
  | (.if_icmp .ge o, 3) => if (pc : Int) + o < 0 then none else if2 pc (jp pc o) L K st w (fun x y => decide (y ≤ x))
  | (.if_icmp .gt o, 3) => if (pc : Int) + o < 0 then none else if2 pc (jp pc o) L K st w (fun x y => decide (y < x))
  | (.if_icmp .le o, 3) => if (pc : Int) + o < 0 then none else if2 pc (jp pc o) L K st w (fun x y => decide (x ≤ y))
  | (.goto o, 3) => if (pc : Int) + o < 0 then none else nx (jp pc o) L K st w
  | _ => none
def exT (pc : Nat) (i : Instr × Nat) (L : Lc) (K : Lk) (st : List Value) (w : Wd) : St1 := match i with
  | (.tableswitch d lo hi os, _) => match st with
    | .int x :: st => if (decide (0 ≤ lo) && decide (hi < 1000) && decide (hi + 1 = lo + os.toList.length) && decide (0 ≤ d) && os.toList.all (fun o => decide (0 ≤ o))) = true then nx (jp pc (swt x lo os.toList d)) L K st w else none
    | _ => none
  | (.dup, 1) => match st with
    | .int x :: st => nx (pc + 1) L K (.int x :: .int x :: st) w
    | .ref x :: st => nx (pc + 1) L K (.ref x :: .ref x :: st) w
    | _ => none
  | (.dup2, 1) => match st with
    | .int y :: .ref x :: st => nx (pc + 1) L K (.int y :: .ref x :: .int y :: .ref x :: st) w
    | _ => none
  | (.pop, 1) => match st with
    | .int _ :: st => nx (pc + 1) L K st w
    | _ => none
  | _ => none
def exG (oc pc : Nat) (i : Instr × Nat) (L : Lc) (K : Lk) (st : List Value) (w : Wd) : St1 := match i with
  | (.getfield k, 3) => match st with
    | .ref a :: st => match fl oc k with
      | some (c, f) => if okc a = some c then (match frc c a f with
        | some b => nx (pc + 3) L K (.ref b :: st) w
        | none => nx (pc + 3) L K (.int (w.1 a f) :: st) w) else none
      | none => none
    | _ => none
  | (.putfield k, 3) => match st with
    | .int v :: .ref a :: st => match fl oc k with
      | some (c, f) => if okc a = some c ∧ frc c a f = none ∧ (fzc c f = true → v = 0 ∨ v = 1) then nx (pc + 3) L K st (st2 w a f v) else none
      | none => none
    | _ => none
  | (.getstatic k, 3) => match gs oc k with
    | some a => nx (pc + 3) L K (.ref a :: st) w
    | none => none
  | (.iaload, 1) => match st with
    | .int j :: .ref a :: st =>
      if a < 54 then (if j < 0 ∨ al a ≤ j.toNatClampNeg then none else nx (pc + 1) L K (.int (w.1 a j.toNatClampNeg) :: st) w)
      else if a < 57 then (if j < 0 ∨ sl a ≤ j.toNatClampNeg then none else nx (pc + 1) L K (.int (sv a j.toNatClampNeg) :: st) w)
      else if a = 57 then (if j < 0 ∨ (w.1 58 0).toNatClampNeg ≤ j.toNatClampNeg then none else nx (pc + 1) L K (.int (w.1 57 j.toNatClampNeg) :: st) w)
      else none
    | _ => none
  | (.iastore, 1) => match st with
    | .int v :: .int j :: .ref a :: st => if a < 54 then (if j < 0 ∨ al a ≤ j.toNatClampNeg then none else nx (pc + 1) L K st (st2 w a j.toNatClampNeg v)) else none
    | _ => none
  | (.laload, 1) => match st with
    | .int j :: .ref a :: st => if a = 43 then (if j < 0 ∨ 5 ≤ j.toNatClampNeg then none else nx (pc + 1) L K (.long (w.2 j.toNatClampNeg) :: st) w) else none
    | _ => none
  | (.lastore, 1) => match st with
    | .long v :: .int j :: .ref a :: st => if a = 43 then (if j < 0 ∨ 5 ≤ j.toNatClampNeg then none else nx (pc + 1) L K st (w.1, vp_updL w.2 j.toNatClampNeg v)) else none
    | _ => none
  | (.aaload, 1) => match st with
    | .int j :: .ref a :: st => if a = 31 then (if j < 0 ∨ 4 ≤ j.toNatClampNeg then none else nx (pc + 1) L K (.ref (32 + 2 * j.toNatClampNeg) :: st) w) else none
    | _ => none
  | (.arraylength, 1) => match st with
    | .ref a :: st => if a = 57 then nx (pc + 1) L K (.int (w.1 58 0) :: st) w else none
    | _ => none
  | _ => none
/-- Math.max, Math.min, Math.max over longs, System.arraycopy -/
def exP (t pc : Nat) (L : Lc) (K : Lk) (st : List Value) (w : Wd) : St1 := match t with
  | 300 => match st with
    | .int y :: .int x :: st => if wds st ≤ 20 then nx (pc + 3) L K (.int (if x < y then y else x) :: st) w else none
    | _ => none
  | 301 => match st with
    | .int y :: .int x :: st => if wds st ≤ 20 then nx (pc + 3) L K (.int (if y < x then y else x) :: st) w else none
    | _ => none
  | 302 => match st with
    | .long y :: .long x :: st => if wds st ≤ 20 then nx (pc + 3) L K (.long (if y < x then x else y) :: st) w else none
    | _ => none
  | 303 => match st with
    | .int n :: .int dp :: .ref b :: .int sp :: .ref a :: st =>
      if wds st ≤ 20 ∧ a < 54 ∧ b < 54 ∧ 0 < al a ∧ 0 < al b ∧ ¬ sp < 0 ∧ ¬ dp < 0 ∧ ¬ n < 0 ∧ sp.toNatClampNeg + n.toNatClampNeg ≤ al a ∧ dp.toNatClampNeg + n.toNatClampNeg ≤ al b then
        (if n.toNatClampNeg = al b then nx (pc + 3) L K st (put w b (fun k => w.1 a (sp.toNatClampNeg + k)))
        else nx (pc + 3) L K st (put w b (va_cpy (w.1 a) (w.1 b) sp.toNatClampNeg dp.toNatClampNeg n.toNatClampNeg)))
      else none
    | _ => none
  | _ => none
def exI (call : Nat → List Value → Wd → Option Rs) (M pc : Nat) (i : Instr × Nat) (L : Lc) (K : Lk) (st : List Value) (w : Wd) : St1 := match i with
  | (.invokestatic k, 3) => match cs (mC M) k with
    | some t => if t < 300 then
        (if mS t = true ∧ mV t < mV M ∧ mA t ≤ st.length ∧ wds (st.drop (mA t)) ≤ 8 then (match call t (st.take (mA t)).reverse w with
          | some (r, w1) => nx (pc + 3) L K (r ++ st.drop (mA t)) w1
          | none => none) else none)
        else exP t pc L K st w
    | none => none
  | (.invokevirtual k, 3) => match cs (mC M) k with
    | some t => if t < 300 then
        (if mS t = false ∧ mV t < mV M ∧ wds (st.drop (mA t + 1)) ≤ 8 then (match st.drop (mA t) with
          | .ref b :: _ => if okc b = some (mC t - 1) then (match call t (.ref b :: (st.take (mA t)).reverse) w with
            | some (r, w1) => nx (pc + 3) L K (r ++ st.drop (mA t + 1)) w1
            | none => none) else none
          | _ => none) else none)
        else if t = 310 then (match st with
          | .ref b :: st => if 60 ≤ b ∧ b < 72 ∧ wds st ≤ 8 then nx (pc + 3) L K (.int (nI (slen (b - 60))) :: st) w else none
          | _ => none)
        else if t = 311 then (match st with
          | .int j :: .ref b :: st => if 60 ≤ b ∧ b < 72 ∧ wds st ≤ 8 ∧ ¬ j < 0 ∧ j.toNatClampNeg < slen (b - 60) then nx (pc + 3) L K (.int (sch (b - 60) j.toNatClampNeg) :: st) w else none
          | _ => none)
        else none
    | none => none
  | _ => none
/-- the ends of a method -/
def exR (M : Nat) (i : Instr × Nat) (st : List Value) (w : Wd) : St1 := match i with
  | (.ireturn, 1) => match st with
    | [.int v] => match mR M with
      | some .int => some (.inr ([.int v], w))
      | some .boolean => if v = 0 ∨ v = 1 then some (.inr ([.int v], w)) else none
      | _ => none
    | _ => none
  | (.lreturn, 1) => match st with
    | [.long v] => match mR M with
      | some .long => some (.inr ([.long v], w))
      | _ => none
    | _ => none
  | (.areturn, 1) => match st with
    | [.ref a] => match mR M with
      | some (.array .int) => some (.inr ([.ref a], w))
      | some (.object _) => some (.inr ([.ref a], w))
      | _ => none
    | _ => none
  | (.return_, 1) => match st with
    | [] => match mR M with
      | none => some (.inr ([], w))
      | _ => none
    | _ => none
  | _ => none
def ex (call : Nat → List Value → Wd → Option Rs) (M pc : Nat) (i : Instr × Nat) (L : Lc) (K : Lk) (st : List Value) (w : Wd) : St1 :=
  (exA (mC M) pc i L K st w).or ((exB pc i L K st w).or ((exC pc i L K st w).or ((exD pc i L K st w).or ((exE pc i L K st w).or ((exF pc i L K st w).or ((exT pc i L K st w).or ((exG (mC M) pc i L K st w).or ((exI call M pc i L K st w).or (exR M i st w)))))))))
def stp (call : Nat → List Value → Wd → Option Rs) (M pc : Nat) (L : Lc) (K : Lk) (st : List Value) (w : Wd) : St1 := match decode (mB M) pc with
  | .ok i => ex call M pc i L K st w
  | .error _ => none
def run (call : Nat → List Value → Wd → Option Rs) (M : Nat) : Nat → Cf → Option Rs
  | 0, _ => none
  | n + 1, c => match stp call M c.1 c.2.1 c.2.2.1 c.2.2.2.1 c.2.2.2.2 with
    | none => none
    | some (.inr r) => some r
    | some (.inl c') => run call M n c'
theorem run_mono (call : Nat → List Value → Wd → Option Rs) (M : Nat) : ∀ (n : Nat) (c : Cf) (r : Rs), run call M n c = some r → run call M (n + 1) c = some r := by
  intro n
  induction n with
  | zero => intro c r h; cases h
  | succ n ih =>
    intro c r h
    rw [run] at h ⊢
    cases hs : stp call M c.1 c.2.1 c.2.2.1 c.2.2.2.1 c.2.2.2.2 with
    | none => rw [hs] at h; cases h
    | some x =>
      rw [hs] at h
      cases x with
      | inl c' => exact ih c' r h
      | inr r' => exact h
theorem run_le (call : Nat → List Value → Wd → Option Rs) (M : Nat) {n k : Nat} (h : n ≤ k) {c : Cf} {r : Rs} (hr : run call M n c = some r) : run call M k c = some r := by
  induction h with
  | refl => exact hr
  | step _ ih => exact run_mono call M _ c r ih
noncomputable def lim (call : Nat → List Value → Wd → Option Rs) (M : Nat) (c : Cf) : Option Rs := by
  classical exact if h : ∃ n, (run call M n c).isSome = true then run call M h.choose c else none
theorem lim_of {call : Nat → List Value → Wd → Option Rs} {M n : Nat} {c : Cf} {r : Rs} (h : run call M n c = some r) : lim call M c = some r := by
  have hx : ∃ n, (run call M n c).isSome = true := ⟨n, by rw [h]; rfl⟩
  have e : lim call M c = run call M hx.choose c := by unfold lim; exact dif_pos hx
  rw [e]
  have h2 := hx.choose_spec
  obtain ⟨r2, h3⟩ := Option.isSome_iff_exists.mp h2
  rw [h3]
  rcases Nat.le_total n hx.choose with q | q
  · rw [run_le call M q h] at h3; exact h3.symm
  · rw [run_le call M q h3] at h; exact h
theorem lim_ex {call : Nat → List Value → Wd → Option Rs} {M : Nat} {c : Cf} {r : Rs} (h : lim call M c = some r) : ∃ n, run call M n c = some r := by
  unfold lim at h
  split at h
  · exact ⟨_, h⟩
  · cases h
theorem lim_none {call : Nat → List Value → Wd → Option Rs} {M : Nat} {c : Cf} (h : ∀ n, run call M n c = none) : lim call M c = none := by
  cases hl : lim call M c with
  | none => rfl
  | some r => obtain ⟨n, hn⟩ := lim_ex hl; rw [h n] at hn; cases hn
theorem lim_step (call : Nat → List Value → Wd → Option Rs) (M : Nat) (c : Cf) : lim call M c = match stp call M c.1 c.2.1 c.2.2.1 c.2.2.2.1 c.2.2.2.2 with
    | none => none
    | some (.inr r) => some r
    | some (.inl c') => lim call M c' := by
  cases hs : stp call M c.1 c.2.1 c.2.2.1 c.2.2.2.1 c.2.2.2.2 with
  | none =>
    refine lim_none fun n => ?_
    cases n with
    | zero => rfl
    | succ n => rw [run, hs]
  | some x =>
    cases x with
    | inr r => exact lim_of (n := 1) (by rw [run, hs])
    | inl c' =>
      show lim call M c = lim call M c'
      cases h2 : lim call M c' with
      | some r =>
        obtain ⟨n, hn⟩ := lim_ex h2
        exact lim_of (n := n + 1) (by rw [run, hs]; exact hn)
      | none =>
        refine lim_none fun n => ?_
        cases n with
        | zero => rfl
        | succ n =>
          rw [run, hs]
          show run call M n c' = none
          cases h3 : run call M n c' with
          | none => rfl
          | some r => rw [lim_of h3] at h2; cases h2
def en0 (M : Nat) (args : List Value) (w : Wd) : Cf := (0, enL (mX M) args, if mJ M = true then enK (mX M) args else [], [], w)
/-- what methods of levels below v answer -/
noncomputable def CL : Nat → Nat → List Value → Wd → Option Rs
  | 0, _, _, _ => none
  | v + 1, M, args, w => if mV M = v then lim (CL v) M (en0 M args w) else CL v M args w
theorem CL_up {v M : Nat} (h : mV M < v) (k : Nat) (args : List Value) (w : Wd) : CL (v + k) M args w = CL v M args w := by
  induction k with
  | zero => rfl
  | succ k ih =>
    show (if mV M = v + k then lim (CL (v + k)) M (en0 M args w) else CL (v + k) M args w) = _
    rw [if_neg (by omega), ih]
noncomputable def CALL (M : Nat) (args : List Value) (w : Wd) : Option Rs := CL (mV M + 1) M args w
noncomputable def RUN (M pc : Nat) (L : Lc) (K : Lk) (st : List Value) (w : Wd) : Option Rs := lim (CL (mV M)) M (pc, L, K, st, w)
theorem CALL_lt {v M : Nat} (h : mV M < v) (args : List Value) (w : Wd) : CL v M args w = CALL M args w := by
  obtain ⟨k, hk⟩ := Nat.le.dest (Nat.succ_le_of_lt h)
  rw [← hk]
  exact CL_up (Nat.lt_succ_self _) k args w
theorem CALL_run (M : Nat) (args : List Value) (w : Wd) : CALL M args w = RUN M 0 (enL (mX M) args) (if mJ M = true then enK (mX M) args else []) [] w := by
  show (if mV M = mV M then lim (CL (mV M)) M (en0 M args w) else CL (mV M) M args w) = _
  rw [if_pos rfl]
  rfl
theorem RUN_step {M pc : Nat} {cc : ByteArray} {i : Instr × Nat} {L : Lc} {K : Lk} {st : List Value} {w : Wd} (hB : mB M = cc) (hd : decode cc pc = .ok i) : RUN M pc L K st w = match ex (CL (mV M)) M pc i L K st w with
    | none => none
    | some (.inr r) => some r
    | some (.inl c) => RUN M c.1 c.2.1 c.2.2.1 c.2.2.2.1 c.2.2.2.2 := by
  show lim (CL (mV M)) M (pc, L, K, st, w) = _
  rw [lim_step]
  have e : stp (CL (mV M)) M pc L K st w = ex (CL (mV M)) M pc i L K st w := by unfold stp; rw [hB, hd]
  show (match stp (CL (mV M)) M pc L K st w with
    | none => none
    | some (.inr r) => some r
    | some (.inl c') => lim (CL (mV M)) M c') = _
  rw [e]
  rfl
theorem RUN_to {M pc : Nat} {cc : ByteArray} {i : Instr × Nat} {L : Lc} {K : Lk} {st : List Value} {w : Wd} {pc' : Nat} {L' : Lc} {K' : Lk} {st' : List Value} {w' : Wd} (hB : mB M = cc) (hd : decode cc pc = .ok i) (he : ex (CL (mV M)) M pc i L K st w = nx pc' L' K' st' w') : RUN M pc L K st w = RUN M pc' L' K' st' w' := by
  rw [RUN_step hB hd, he]; rfl
theorem RUN_end {M pc : Nat} {cc : ByteArray} {i : Instr × Nat} {L : Lc} {K : Lk} {st : List Value} {w : Wd} {r : Rs} (hB : mB M = cc) (hd : decode cc pc = .ok i) (he : ex (CL (mV M)) M pc i L K st w = some (.inr r)) : RUN M pc L K st w = some r := by
  rw [RUN_step hB hd, he]
theorem RUN_if {M pc : Nat} {cc : ByteArray} {i : Instr × Nat} {L : Lc} {K : Lk} {st : List Value} {w : Wd} {p1 p2 : Nat} {st' : List Value} {c : Prop} {b : Bool} (hB : mB M = cc) (hd : decode cc pc = .ok i) (he : ex (CL (mV M)) M pc i L K st w = if b = true then nx p1 L K st' w else nx p2 L K st' w) (dc : Decidable c) (hc : b = decide c) : RUN M pc L K st w = if c then RUN M p1 L K st' w else RUN M p2 L K st' w := by
  rw [RUN_step hB hd, he]
  subst hc
  by_cases h : c
  · rw [if_pos h, if_pos (decide_eq_true h)]; rfl
  · rw [if_neg h, if_neg (by simpa using h)]; rfl
theorem RUN_call {M pc t : Nat} {cc : ByteArray} {i : Instr × Nat} {L : Lc} {K : Lk} {st as rest : List Value} {w : Wd} (hB : mB M = cc) (hd : decode cc pc = .ok i) (hv : mV t < mV M) (he : ex (CL (mV M)) M pc i L K st w = match CL (mV M) t as w with
    | some (r, w1) => nx (pc + 3) L K (r ++ rest) w1
    | none => none) : RUN M pc L K st w = match CALL t as w with
    | some (r, w1) => RUN M (pc + 3) L K (r ++ rest) w1
    | none => none := by
  rw [RUN_step hB hd, he, CALL_lt hv]
  cases CALL t as w with
  | none => rfl
  | some x => rfl
