/-! THE TABLES HELD AGAINST THE STATEMENT'S -/
def oN (oc : Nat) : String := match oc with
  | 0 => RX0
  | 1 => RX1
  | 2 => RX2
  | 3 => RX3
  | 4 => RX4
  | 5 => RX5
  | 6 => RJ6
  | _ => RL
def Gz : List Cond := lw_tbl.filter goodWord
theorem Gz_in {W : Cond} {k : Nat} (h : lw_tbl[k]? = some W ∧ goodWord W = true) : W ∈ Gz := List.mem_filter.mpr ⟨List.mem_of_getElem? h.1, h.2⟩
theorem lookup_in {α : Type} {k : Nat} {v : α} : ∀ {l : List (Nat × α)}, l.lookup k = some v → (k, v) ∈ l
  | [], h => by cases h
  | (a, b) :: l, h => by
    rw [List.lookup_cons] at h
    by_cases hk : k = a
    · subst hk
      simp at h
      subst h
      exact List.mem_cons_self
    · have e : (k == a) = false := by simp [hk]
      rw [e] at h
      exact List.mem_cons_of_mem _ (lookup_in h)
def pN (t : Nat) : MethodName := match t with
  | 300 => Lib.Math.max.name
  | 301 => Lib.Math.min.name
  | 302 => Lib.MathLoose.max_long.x
  | 303 => arraycopyName
  | 310 => yJ0_length_8abf5
  | 311 => yJ0_charAt_5068e
  | t => mN t
set_option maxRecDepth 100000 in
theorem kI_chk : ∀ oc, oc < 8 → ∀ e ∈ kIL oc, lw_tbl[e.2.2]? = some (.constant (oN oc) e.1 e.2.1) ∧ goodWord (.constant (oN oc) e.1 e.2.1) = true := by decide +kernel
set_option maxRecDepth 100000 in
theorem kL_chk : ∀ oc, oc < 8 → ∀ e ∈ kLL oc, lw_tbl[e.2.2]? = some (.constantLong (oN oc) e.1 e.2.1) ∧ goodWord (.constantLong (oN oc) e.1 e.2.1) = true := by decide +kernel
def sO (i : Nat) : String := (["BoneWords$Kinds", "BoneWords$Kinds", "BoneWords$Kinds", "BoneWords$Kinds", "BoneWords$Kinds", "BoneWords$Kinds", "BoneWords$Kinds", "BoneWords$Tape", "BoneWords$Tape", "BoneWords$Tape", "BoneWords$Tape", "BoneWords$Tape"] : List String).getD i ""
def sK (i : Nat) : Nat := ([27, 29, 31, 33, 35, 37, 39, 38, 47, 68, 78, 87] : List Nat).getD i 0
def sT (i : Nat) : String := (["poet", "scholar", "lawyer", "censor", "child", "widow", "writer", "fish", "jar", "word", "fat", "catch"] : List String).getD i ""
def sP (i : Nat) : Nat := ([620, 621, 622, 623, 624, 625, 626, 546, 612, 632, 633, 611] : List Nat).getD i 0
set_option maxRecDepth 100000 in
theorem kS_chk : ∀ oc, oc < 8 → ∀ e ∈ kSL oc, 60 ≤ e.2.1 ∧ e.2.1 < 72 ∧ oN oc = sO (e.2.1 - 60) ∧ e.1 = sK (e.2.1 - 60) := by decide +kernel
def cTT (c : Nat) : u_T := match c with
  | 0 => TX1
  | 1 => TX2
  | 2 => TX3
  | 3 => TX4
  | _ => TX5
def cTy (c : Nat) : Nat → FieldType := match c with
  | 0 => tyX1
  | 1 => tyX2
  | 2 => tyX3
  | 3 => tyX4
  | _ => tyX5
def cRf (c f : Nat) : Bool := (frc c 0 f).isSome
set_option maxRecDepth 100000 in
theorem fl_chk : ∀ oc, oc < 8 → ∀ e ∈ flL oc, e.2.1 < 5 ∧ e.2.2.1 < nfc e.2.1 ∧ (lw_tbl[e.2.2.2]? = some (.fieldLink (oN oc) e.1 (oN (e.2.1 + 1)) (cTT e.2.1 e.2.2.1).2.1 (cTT e.2.1 e.2.2.1).2.2.1) ∧ goodWord (.fieldLink (oN oc) e.1 (oN (e.2.1 + 1)) (cTT e.2.1 e.2.2.1).2.1 (cTT e.2.1 e.2.2.1).2.2.1) = true) ∧ (cTT e.2.1 e.2.2.1).1 = oN (e.2.1 + 1) ∧ (cRf e.2.1 e.2.2.1 = false → (cTT e.2.1 e.2.2.1).2.2.2 = false ∧ parseFieldDescriptor (cTT e.2.1 e.2.2.1).2.2.1 = some (if fzc e.2.1 e.2.2.1 = true then .boolean else .int)) := by decide +kernel
set_option maxRecDepth 100000 in
theorem uw_chk : ∀ c, c < 5 → ∀ W ∈ u_ws (oN (c + 1)) (cTT c) (nfc c), W ∈ lw_tbl ∧ goodWord W = true := by decide +kernel
def gC (a : Nat) : String := match a with
  | 56 => "BoneWords$Kinds"
  | _ => "BoneWords"
def gF (a : Nat) : String := match a with
  | 54 => "TENS"
  | 55 => "MOST"
  | _ => "UNDER"
set_option maxRecDepth 100000 in
theorem gs_chk : ∀ oc, oc < 8 → ∀ e ∈ gsL oc, 54 ≤ e.2.1 ∧ e.2.1 < 57 ∧ (e.2.2.2 = false → lw_tbl[e.2.2.1]? = some (.fieldLink (oN oc) e.1 (gC e.2.1) (gF e.2.1) "[I") ∧ goodWord (.fieldLink (oN oc) e.1 (gC e.2.1) (gF e.2.1) "[I") = true) ∧ (e.2.2.2 = true → oc = 1 ∧ e.1 = 76 ∧ e.2.1 = 54) := by decide +kernel
set_option maxRecDepth 100000 in
theorem cs_chk1 : ∀ oc, oc < 8 → ∀ e ∈ csL oc, e.2.1 < 204 ∨ (300 ≤ e.2.1 ∧ e.2.1 < 304) ∨ e.2.1 = 310 ∨ e.2.1 = 311 := by decide +kernel
set_option maxRecDepth 100000 in
theorem cs_chk2 : ∀ oc, oc < 8 → ∀ e ∈ csL oc, e.2.2.2 = false → (lw_tbl[e.2.2.1]? = some (.methodLink (oN oc) e.1 (pN e.2.1)) ∧ goodWord (.methodLink (oN oc) e.1 (pN e.2.1)) = true) := by decide +kernel
set_option maxRecDepth 100000 in
theorem cs_chk3 : ∀ oc, oc < 8 → ∀ e ∈ csL oc, e.2.2.2 = true → (oc = 1 ∧ ((e.1 = 69 ∧ e.2.1 = 98) ∨ (e.1 = 108 ∧ e.2.1 = 99))) := by decide +kernel
def pA (M : Nat) : Nat := ([260, 645, 284, 287, 297, 321, 618, 402, 263, 267, 307, 280, 293, 300, 442, 493, 341, 345, 350, 356, 362, 370, 373, 382, 386, 390, 394, 700, 470, 655, 663, 671, 516, 528, 544, 629, 601, 615, 549, 605, 609, 533, 536, 539, 212, 227, 231, 238, 256, 272, 311, 317, 324, 336, 378, 398, 409, 413, 418, 426, 423, 430, 434, 438, 447, 451, 455, 459, 478, 464, 475, 482, 486, 489, 498, 502, 508, 512, 520, 524, 637, 641, 651, 659, 667, 676, 680, 684, 688, 692, 696, 704, 223, 277, 216, 235, 467, 219, 304, 245, 242, 329, 771, 780, 775, 933, 767, 791, 825, 817, 834, 874, 837, 967, 803, 848, 763, 783, 787, 800, 795, 814, 806, 830, 841, 845, 863, 820, 856, 851, 859, 871, 866, 893, 897, 889, 885, 901, 909, 877, 913, 917, 921, 904, 930, 924, 936, 940, 950, 945, 953, 957, 962, 979, 975, 970, 982, 986, 990, 1011, 999, 994, 1014, 1018, 1028, 1023, 1032, 1036, 1040, 1044, 1060, 1063, 1057, 1053, 1083, 1079, 1099, 1087, 1091, 1075, 1107, 1071, 1103, 1095, 1111, 1115, 1067, 1048, 1118, 1126, 1122, 1006, 1130, 1135, 1139, 1003, 1143, 1147, 1151, 1155, 1159, 1163, 1167, 250] : List Nat).getD M 0
def pS (M : Nat) : Nat := ([0, 0, 0, 0, 0, 0, 0, 403, 264, 268, 308, 281, 294, 301, 443, 494, 342, 346, 2, 3, 4, 5, 374, 383, 387, 391, 395, 701, 471, 656, 664, 672, 517, 529, 10, 16, 12, 15, 11, 13, 14, 9, 0, 0, 213, 228, 232, 239, 257, 273, 312, 318, 325, 337, 379, 399, 410, 414, 419, 427, 6, 431, 435, 439, 448, 452, 456, 460, 479, 7, 8, 483, 0, 490, 499, 0, 509, 513, 521, 525, 638, 642, 652, 660, 668, 677, 681, 685, 689, 693, 697, 705, 0, 1, 0, 0, 0, 0, 0, 0, 0, 0, 0, 18, 17, 0, 0, 0, 20, 0, 22, 0, 0, 37, 0, 0, 764, 784, 788, 0, 796, 19, 807, 21, 23, 24, 0, 821, 0, 852, 860, 25, 867, 28, 29, 27, 26, 30, 31, 878, 32, 33, 34, 905, 35, 925, 937, 941, 36, 946, 954, 958, 963, 39, 38, 971, 983, 987, 991, 42, 40, 995, 1015, 1019, 43, 1024, 1033, 1037, 1041, 1045, 0, 0, 45, 44, 50, 49, 54, 51, 52, 48, 56, 47, 55, 53, 57, 58, 46, 1049, 1119, 0, 1123, 0, 1131, 1136, 1140, 41, 1144, 1148, 1152, 1156, 1160, 1164, 1168, 0] : List Nat).getD M 0
def pI (M : Nat) : Nat := ([66, 61, 63, 62, 60, 64, 65, 59] : List Nat).getD M 0
theorem mct_0 : Cond.code yX0_isKind cX0_isKind 1 (some .boolean) ∈ lw_tbl := List.mem_append_right _ (show _ ∈ tables_1 from List.mem_append_left _ (List.mem_of_getElem? (l := tables_1_1) (i := 202) rfl))
theorem mct_1 : Cond.code yX0_isUnder cX0_isUnder 4 (some .boolean) ∈ lw_tbl := List.mem_append_right _ (show _ ∈ tables_1 from List.mem_append_right _ (List.mem_append_right _ (List.mem_append_left _ (List.mem_of_getElem? (l := tables_1_3) (i := 107) rfl))))
theorem mct_2 : Cond.code yX0_eats cX0_eats 3 (some .int) ∈ lw_tbl := List.mem_append_right _ (show _ ∈ tables_1 from List.mem_append_left _ (List.mem_of_getElem? (l := tables_1_1) (i := 226) rfl))
theorem mct_3 : Cond.code yX0_poetEats cX0_poetEats 1 (some .int) ∈ lw_tbl := List.mem_append_right _ (show _ ∈ tables_1 from List.mem_append_left _ (List.mem_of_getElem? (l := tables_1_1) (i := 229) rfl))
theorem mct_4 : Cond.code yX0_writes cX0_writes 2 (some .int) ∈ lw_tbl := List.mem_append_right _ (show _ ∈ tables_1 from List.mem_append_left _ (List.mem_of_getElem? (l := tables_1_1) (i := 239) rfl))
theorem mct_5 : Cond.code yX0_isKept cX0_isKept 3 (some .boolean) ∈ lw_tbl := List.mem_append_right _ (show _ ∈ tables_1 from List.mem_append_right _ (List.mem_append_left _ (List.mem_of_getElem? (l := tables_1_2) (i := 23) rfl)))
theorem mct_6 : Cond.code yX0_nameOf cX0_nameOf 1 (some (.object "java/lang/String")) ∈ lw_tbl := List.mem_append_right _ (show _ ∈ tables_1 from List.mem_append_right _ (List.mem_append_right _ (List.mem_append_left _ (List.mem_of_getElem? (l := tables_1_3) (i := 80) rfl))))
theorem mct_7 : Cond.code yX1_become cX1_become 2 (none) ∈ lw_tbl := List.mem_append_right _ (show _ ∈ tables_1 from List.mem_append_right _ (List.mem_append_left _ (List.mem_of_getElem? (l := tables_1_2) (i := 105) rfl)))
theorem mct_8 : Cond.code yX1_isFull cX1_isFull 1 (some .boolean) ∈ lw_tbl := List.mem_append_right _ (show _ ∈ tables_1 from List.mem_append_left _ (List.mem_of_getElem? (l := tables_1_1) (i := 206) rfl))
theorem mct_9 : Cond.code yX1_addWriter cX1_addWriter 5 (some .int) ∈ lw_tbl := List.mem_append_right _ (show _ ∈ tables_1 from List.mem_append_left _ (List.mem_of_getElem? (l := tables_1_1) (i := 210) rfl))
theorem mct_10 : Cond.code yX1_row cX1_row 2 (some (.array .int)) ∈ lw_tbl := List.mem_append_right _ (show _ ∈ tables_1 from List.mem_append_right _ (List.mem_append_left _ (List.mem_of_getElem? (l := tables_1_2) (i := 10) rfl)))
theorem mct_11 : Cond.code yX1_eats cX1_eats 2 (some .int) ∈ lw_tbl := List.mem_append_right _ (show _ ∈ tables_1 from List.mem_append_left _ (List.mem_of_getElem? (l := tables_1_1) (i := 223) rfl))
theorem mct_12 : Cond.code yX1_writes cX1_writes 2 (some .int) ∈ lw_tbl := List.mem_append_right _ (show _ ∈ tables_1 from List.mem_append_left _ (List.mem_of_getElem? (l := tables_1_1) (i := 236) rfl))
theorem mct_13 : Cond.code yX1_nextLetter cX1_nextLetter 2 (some .int) ∈ lw_tbl := List.mem_append_right _ (show _ ∈ tables_1 from List.mem_append_right _ (List.mem_append_left _ (List.mem_of_getElem? (l := tables_1_2) (i := 3) rfl)))
theorem mct_14 : Cond.code yX1_putNextLetter cX1_putNextLetter 3 (none) ∈ lw_tbl := List.mem_append_right _ (show _ ∈ tables_1 from List.mem_append_right _ (List.mem_append_left _ (List.mem_of_getElem? (l := tables_1_2) (i := 145) rfl)))
theorem mct_15 : Cond.code yX1_draw cX1_draw 1 (some .int) ∈ lw_tbl := List.mem_append_right _ (show _ ∈ tables_1 from List.mem_append_right _ (List.mem_append_left _ (List.mem_of_getElem? (l := tables_1_2) (i := 196) rfl)))
theorem mct_16 : Cond.code yX1_passDays cX1_passDays 4 (none) ∈ lw_tbl := List.mem_append_right _ (show _ ∈ tables_1 from List.mem_append_right _ (List.mem_append_left _ (List.mem_of_getElem? (l := tables_1_2) (i := 44) rfl)))
theorem mct_17 : Cond.code yX1_dayGoesBy cX1_dayGoesBy 3 (none) ∈ lw_tbl := List.mem_append_right _ (show _ ∈ tables_1 from List.mem_append_right _ (List.mem_append_left _ (List.mem_of_getElem? (l := tables_1_2) (i := 48) rfl)))
theorem mct_18 : Cond.code yX1_eatCatch cX1_eatCatch 7 (none) ∈ lw_tbl := List.mem_append_right _ (show _ ∈ tables_1 from List.mem_append_right _ (List.mem_append_left _ (List.mem_of_getElem? (l := tables_1_2) (i := 52) rfl)))
theorem mct_19 : Cond.code yX1_keepBones cX1_keepBones 6 (none) ∈ lw_tbl := List.mem_append_right _ (show _ ∈ tables_1 from List.mem_append_right _ (List.mem_append_left _ (List.mem_of_getElem? (l := tables_1_2) (i := 58) rfl)))
theorem mct_20 : Cond.code yX1_writeLetters cX1_writeLetters 5 (none) ∈ lw_tbl := List.mem_append_right _ (show _ ∈ tables_1 from List.mem_append_right _ (List.mem_append_left _ (List.mem_of_getElem? (l := tables_1_2) (i := 64) rfl)))
theorem mct_21 : Cond.code yX1_cookSoup cX1_cookSoup 2 (none) ∈ lw_tbl := List.mem_append_right _ (show _ ∈ tables_1 from List.mem_append_right _ (List.mem_append_left _ (List.mem_of_getElem? (l := tables_1_2) (i := 72) rfl)))
theorem mct_22 : Cond.code yX1_sumOf cX1_sumOf 5 (some .int) ∈ lw_tbl := List.mem_append_right _ (show _ ∈ tables_1 from List.mem_append_right _ (List.mem_append_left _ (List.mem_of_getElem? (l := tables_1_2) (i := 76) rfl)))
theorem mct_23 : Cond.code yX1_lettersInJar cX1_lettersInJar 3 (some .int) ∈ lw_tbl := List.mem_append_right _ (show _ ∈ tables_1 from List.mem_append_right _ (List.mem_append_left _ (List.mem_of_getElem? (l := tables_1_2) (i := 85) rfl)))
theorem mct_24 : Cond.code yX1_writersWhoWait cX1_writersWhoWait 3 (some .int) ∈ lw_tbl := List.mem_append_right _ (show _ ∈ tables_1 from List.mem_append_right _ (List.mem_append_left _ (List.mem_of_getElem? (l := tables_1_2) (i := 89) rfl)))
theorem mct_25 : Cond.code yX1_lettersLacking cX1_lettersLacking 3 (some .int) ∈ lw_tbl := List.mem_append_right _ (show _ ∈ tables_1 from List.mem_append_right _ (List.mem_append_left _ (List.mem_of_getElem? (l := tables_1_2) (i := 93) rfl)))
theorem mct_26 : Cond.code yX1_writersWhoStarve cX1_writersWhoStarve 3 (some .int) ∈ lw_tbl := List.mem_append_right _ (show _ ∈ tables_1 from List.mem_append_right _ (List.mem_append_left _ (List.mem_of_getElem? (l := tables_1_2) (i := 97) rfl)))
theorem mct_27 : Cond.code yX1_spotsHeld cX1_spotsHeld 3 (some .int) ∈ lw_tbl := List.mem_append_right _ (show _ ∈ tables_1 from List.mem_append_right _ (List.mem_append_right _ (List.mem_append_left _ (List.mem_of_getElem? (l := tables_1_3) (i := 163) rfl))))
theorem mct_28 : Cond.code yX2_isMissing cX2_isMissing 1 (some .boolean) ∈ lw_tbl := List.mem_append_right _ (show _ ∈ tables_1 from List.mem_append_right _ (List.mem_append_left _ (List.mem_of_getElem? (l := tables_1_2) (i := 173) rfl)))
theorem mct_29 : Cond.code yX2_begin cX2_begin 4 (none) ∈ lw_tbl := List.mem_append_right _ (show _ ∈ tables_1 from List.mem_append_right _ (List.mem_append_right _ (List.mem_append_left _ (List.mem_of_getElem? (l := tables_1_3) (i := 118) rfl))))
theorem mct_30 : Cond.code yX2_lowestBits cX2_lowestBits 2 (some .int) ∈ lw_tbl := List.mem_append_right _ (show _ ∈ tables_1 from List.mem_append_right _ (List.mem_append_right _ (List.mem_append_left _ (List.mem_of_getElem? (l := tables_1_3) (i := 126) rfl))))
theorem mct_31 : Cond.code yX2_has cX2_has 3 (some .boolean) ∈ lw_tbl := List.mem_append_right _ (show _ ∈ tables_1 from List.mem_append_right _ (List.mem_append_right _ (List.mem_append_left _ (List.mem_of_getElem? (l := tables_1_3) (i := 134) rfl))))
theorem mct_32 : Cond.code yX3_add cX3_add 2 (none) ∈ lw_tbl := List.mem_append_right _ (show _ ∈ tables_1 from List.mem_append_right _ (List.mem_append_left _ (List.mem_of_getElem? (l := tables_1_2) (i := 219) rfl)))
theorem mct_33 : Cond.code yX3_readInto cX3_readInto 3 (some .int) ∈ lw_tbl := List.mem_append_right _ (show _ ∈ tables_1 from List.mem_append_right _ (List.mem_append_left _ (List.mem_of_getElem? (l := tables_1_2) (i := 231) rfl)))
theorem mct_34 : Cond.code yX3_readItem cX3_readItem 3 (some .boolean) ∈ lw_tbl := List.mem_append_right _ (show _ ∈ tables_1 from List.mem_append_right _ (List.mem_append_right _ (List.mem_append_left _ (List.mem_of_getElem? (l := tables_1_3) (i := 6) rfl))))
theorem mct_35 : Cond.code yX3_readWriter cX3_readWriter 5 (some .boolean) ∈ lw_tbl := List.mem_append_right _ (show _ ∈ tables_1 from List.mem_append_right _ (List.mem_append_right _ (List.mem_append_left _ (List.mem_of_getElem? (l := tables_1_3) (i := 91) rfl))))
theorem mct_36 : Cond.code yX3_readFish cX3_readFish 3 (some .boolean) ∈ lw_tbl := List.mem_append_right _ (show _ ∈ tables_1 from List.mem_append_right _ (List.mem_append_right _ (List.mem_append_left _ (List.mem_of_getElem? (l := tables_1_3) (i := 63) rfl))))
theorem mct_37 : Cond.code yX3_readJar cX3_readJar 3 (some .boolean) ∈ lw_tbl := List.mem_append_right _ (show _ ∈ tables_1 from List.mem_append_right _ (List.mem_append_right _ (List.mem_append_left _ (List.mem_of_getElem? (l := tables_1_3) (i := 77) rfl))))
theorem mct_38 : Cond.code yX3_isName cX3_isName 3 (some .boolean) ∈ lw_tbl := List.mem_append_right _ (show _ ∈ tables_1 from List.mem_append_right _ (List.mem_append_right _ (List.mem_append_left _ (List.mem_of_getElem? (l := tables_1_3) (i := 11) rfl))))
theorem mct_39 : Cond.code yX3_isNumber cX3_isNumber 2 (some .boolean) ∈ lw_tbl := List.mem_append_right _ (show _ ∈ tables_1 from List.mem_append_right _ (List.mem_append_right _ (List.mem_append_left _ (List.mem_of_getElem? (l := tables_1_3) (i := 67) rfl))))
theorem mct_40 : Cond.code yX3_takeNumber cX3_takeNumber 2 (some .int) ∈ lw_tbl := List.mem_append_right _ (show _ ∈ tables_1 from List.mem_append_right _ (List.mem_append_right _ (List.mem_append_left _ (List.mem_of_getElem? (l := tables_1_3) (i := 71) rfl))))
theorem mct_41 : Cond.code yX3_toNextToken cX3_toNextToken 1 (none) ∈ lw_tbl := List.mem_append_right _ (show _ ∈ tables_1 from List.mem_append_right _ (List.mem_append_left _ (List.mem_of_getElem? (l := tables_1_2) (i := 235) rfl)))
theorem mct_42 : Cond.code yX3_isSmallLetter cX3_isSmallLetter 1 (some .boolean) ∈ lw_tbl := List.mem_append_right _ (show _ ∈ tables_1 from List.mem_append_right _ (List.mem_append_left _ (List.mem_of_getElem? (l := tables_1_2) (i := 238) rfl)))
theorem mct_43 : Cond.code yX3_isDigit cX3_isDigit 1 (some .boolean) ∈ lw_tbl := List.mem_append_right _ (show _ ∈ tables_1 from List.mem_append_right _ (List.mem_append_right _ (List.mem_append_left _ (List.mem_of_getElem? (l := tables_1_3) (i := 1) rfl))))
theorem mct_44 : Cond.code yX4_jar cX4_jar 4 (some .int) ∈ lw_tbl := List.mem_append_right _ (show _ ∈ tables_1 from List.mem_append_left _ (List.mem_of_getElem? (l := tables_1_1) (i := 155) rfl))
theorem mct_45 : Cond.code yX4_bones cX4_bones 2 (some .int) ∈ lw_tbl := List.mem_append_right _ (show _ ∈ tables_1 from List.mem_append_left _ (List.mem_of_getElem? (l := tables_1_1) (i := 170) rfl))
theorem mct_46 : Cond.code yX4_fish cX4_fish 6 (some .int) ∈ lw_tbl := List.mem_append_right _ (show _ ∈ tables_1 from List.mem_append_left _ (List.mem_of_getElem? (l := tables_1_1) (i := 174) rfl))
theorem mct_47 : Cond.code yX4_fishOf cX4_fishOf 3 (some .int) ∈ lw_tbl := List.mem_append_right _ (show _ ∈ tables_1 from List.mem_append_left _ (List.mem_of_getElem? (l := tables_1_1) (i := 181) rfl))
theorem mct_48 : Cond.code yX4_writer cX4_writer 3 (some .int) ∈ lw_tbl := List.mem_append_right _ (show _ ∈ tables_1 from List.mem_append_left _ (List.mem_of_getElem? (l := tables_1_1) (i := 199) rfl))
theorem mct_49 : Cond.code yX4_of cX4_of 3 (some .int) ∈ lw_tbl := List.mem_append_right _ (show _ ∈ tables_1 from List.mem_append_left _ (List.mem_of_getElem? (l := tables_1_1) (i := 215) rfl))
theorem mct_50 : Cond.code yX4_change cX4_change 6 (some .int) ∈ lw_tbl := List.mem_append_right _ (show _ ∈ tables_1 from List.mem_append_right _ (List.mem_append_left _ (List.mem_of_getElem? (l := tables_1_2) (i := 14) rfl)))
theorem mct_51 : Cond.code yX4_keeps cX4_keeps 6 (some .int) ∈ lw_tbl := List.mem_append_right _ (show _ ∈ tables_1 from List.mem_append_right _ (List.mem_append_left _ (List.mem_of_getElem? (l := tables_1_2) (i := 20) rfl)))
theorem mct_52 : Cond.code yX4_spells cX4_spells 5 (some .int) ∈ lw_tbl := List.mem_append_right _ (show _ ∈ tables_1 from List.mem_append_right _ (List.mem_append_left _ (List.mem_of_getElem? (l := tables_1_2) (i := 27) rfl)))
theorem mct_53 : Cond.code yX4_go cX4_go 2 (some .int) ∈ lw_tbl := List.mem_append_right _ (show _ ∈ tables_1 from List.mem_append_right _ (List.mem_append_left _ (List.mem_of_getElem? (l := tables_1_2) (i := 39) rfl)))
theorem mct_54 : Cond.code yX4_now cX4_now 2 (some .int) ∈ lw_tbl := List.mem_append_right _ (show _ ∈ tables_1 from List.mem_append_right _ (List.mem_append_left _ (List.mem_of_getElem? (l := tables_1_2) (i := 81) rfl)))
theorem mct_55 : Cond.code yX4_ahead cX4_ahead 4 (some .int) ∈ lw_tbl := List.mem_append_right _ (show _ ∈ tables_1 from List.mem_append_right _ (List.mem_append_left _ (List.mem_of_getElem? (l := tables_1_2) (i := 101) rfl)))
theorem mct_56 : Cond.code yX4_later cX4_later 3 (some .int) ∈ lw_tbl := List.mem_append_right _ (show _ ∈ tables_1 from List.mem_append_right _ (List.mem_append_left _ (List.mem_of_getElem? (l := tables_1_2) (i := 112) rfl)))
theorem mct_57 : Cond.code yX4_when cX4_when 4 (some .int) ∈ lw_tbl := List.mem_append_right _ (show _ ∈ tables_1 from List.mem_append_right _ (List.mem_append_left _ (List.mem_of_getElem? (l := tables_1_2) (i := 116) rfl)))
theorem mct_58 : Cond.code yX4_starves cX4_starves 2 (some .int) ∈ lw_tbl := List.mem_append_right _ (show _ ∈ tables_1 from List.mem_append_right _ (List.mem_append_left _ (List.mem_of_getElem? (l := tables_1_2) (i := 121) rfl)))
theorem mct_59 : Cond.code yX4_out cX4_out 2 (some .int) ∈ lw_tbl := List.mem_append_right _ (show _ ∈ tables_1 from List.mem_append_right _ (List.mem_append_left _ (List.mem_of_getElem? (l := tables_1_2) (i := 129) rfl)))
theorem mct_60 : Cond.code yX4_daysUntilNone cX4_daysUntilNone 4 (some .int) ∈ lw_tbl := List.mem_append_right _ (show _ ∈ tables_1 from List.mem_append_right _ (List.mem_append_left _ (List.mem_of_getElem? (l := tables_1_2) (i := 125) rfl)))
theorem mct_61 : Cond.code yX4_catchFor cX4_catchFor 6 (some .int) ∈ lw_tbl := List.mem_append_right _ (show _ ∈ tables_1 from List.mem_append_right _ (List.mem_append_left _ (List.mem_of_getElem? (l := tables_1_2) (i := 133) rfl)))
theorem mct_62 : Cond.code yX4_fewest cX4_fewest 6 (some .int) ∈ lw_tbl := List.mem_append_right _ (show _ ∈ tables_1 from List.mem_append_right _ (List.mem_append_left _ (List.mem_of_getElem? (l := tables_1_2) (i := 137) rfl)))
theorem mct_63 : Cond.code yX4_letterFor cX4_letterFor 6 (some .int) ∈ lw_tbl := List.mem_append_right _ (show _ ∈ tables_1 from List.mem_append_right _ (List.mem_append_left _ (List.mem_of_getElem? (l := tables_1_2) (i := 141) rfl)))
theorem mct_64 : Cond.code yX4_kindFor cX4_kindFor 6 (some .int) ∈ lw_tbl := List.mem_append_right _ (show _ ∈ tables_1 from List.mem_append_right _ (List.mem_append_left _ (List.mem_of_getElem? (l := tables_1_2) (i := 150) rfl)))
theorem mct_65 : Cond.code yX4_away cX4_away 7 (some .int) ∈ lw_tbl := List.mem_append_right _ (show _ ∈ tables_1 from List.mem_append_right _ (List.mem_append_left _ (List.mem_of_getElem? (l := tables_1_2) (i := 154) rfl)))
theorem mct_66 : Cond.code yX4_bonesFor cX4_bonesFor 7 (some .int) ∈ lw_tbl := List.mem_append_right _ (show _ ∈ tables_1 from List.mem_append_right _ (List.mem_append_left _ (List.mem_of_getElem? (l := tables_1_2) (i := 158) rfl)))
theorem mct_67 : Cond.code yX4_fits cX4_fits 6 (some .int) ∈ lw_tbl := List.mem_append_right _ (show _ ∈ tables_1 from List.mem_append_right _ (List.mem_append_left _ (List.mem_of_getElem? (l := tables_1_2) (i := 162) rfl)))
theorem mct_68 : Cond.code yX4_kinds cX4_kinds 6 (some .int) ∈ lw_tbl := List.mem_append_right _ (show _ ∈ tables_1 from List.mem_append_right _ (List.mem_append_left _ (List.mem_of_getElem? (l := tables_1_2) (i := 181) rfl)))
theorem mct_69 : Cond.code yX4_findingOf cX4_findingOf 3 (some .int) ∈ lw_tbl := List.mem_append_right _ (show _ ∈ tables_1 from List.mem_append_right _ (List.mem_append_left _ (List.mem_of_getElem? (l := tables_1_2) (i := 166) rfl)))
theorem mct_70 : Cond.code yX4_goesAsTold cX4_goesAsTold 4 (some .boolean) ∈ lw_tbl := List.mem_append_right _ (show _ ∈ tables_1 from List.mem_append_right _ (List.mem_append_left _ (List.mem_of_getElem? (l := tables_1_2) (i := 177) rfl)))
theorem mct_71 : Cond.code yX4_texts cX4_texts 6 (some .int) ∈ lw_tbl := List.mem_append_right _ (show _ ∈ tables_1 from List.mem_append_right _ (List.mem_append_left _ (List.mem_of_getElem? (l := tables_1_2) (i := 185) rfl)))
theorem mct_72 : Cond.code yX4_choices cX4_choices 5 (some .long) ∈ lw_tbl := List.mem_append_right _ (show _ ∈ tables_1 from List.mem_append_right _ (List.mem_append_left _ (List.mem_of_getElem? (l := tables_1_2) (i := 188) rfl)))
theorem mct_73 : Cond.code yX4_catches cX4_catches 4 (some .int) ∈ lw_tbl := List.mem_append_right _ (show _ ∈ tables_1 from List.mem_append_right _ (List.mem_append_left _ (List.mem_of_getElem? (l := tables_1_2) (i := 192) rfl)))
theorem mct_74 : Cond.code yX4_odds cX4_odds 11 (some .long) ∈ lw_tbl := List.mem_append_right _ (show _ ∈ tables_1 from List.mem_append_right _ (List.mem_append_left _ (List.mem_of_getElem? (l := tables_1_2) (i := 201) rfl)))
theorem mct_75 : Cond.code yX4_commonDivisor cX4_commonDivisor 11 (some .long) ∈ lw_tbl := List.mem_append_right _ (show _ ∈ tables_1 from List.mem_append_right _ (List.mem_append_left _ (List.mem_of_getElem? (l := tables_1_2) (i := 204) rfl)))
theorem mct_76 : Cond.code yX4_seed cX4_seed 3 (some .int) ∈ lw_tbl := List.mem_append_right _ (show _ ∈ tables_1 from List.mem_append_right _ (List.mem_append_left _ (List.mem_of_getElem? (l := tables_1_2) (i := 211) rfl)))
theorem mct_77 : Cond.code yX4_feed cX4_feed 4 (some .int) ∈ lw_tbl := List.mem_append_right _ (show _ ∈ tables_1 from List.mem_append_right _ (List.mem_append_left _ (List.mem_of_getElem? (l := tables_1_2) (i := 215) rfl)))
theorem mct_78 : Cond.code yX4_wipe cX4_wipe 2 (some .int) ∈ lw_tbl := List.mem_append_right _ (show _ ∈ tables_1 from List.mem_append_right _ (List.mem_append_left _ (List.mem_of_getElem? (l := tables_1_2) (i := 223) rfl)))
theorem mct_79 : Cond.code yX4_text cX4_text 2 (some .int) ∈ lw_tbl := List.mem_append_right _ (show _ ∈ tables_1 from List.mem_append_right _ (List.mem_append_left _ (List.mem_of_getElem? (l := tables_1_2) (i := 227) rfl)))
theorem mct_80 : Cond.code yX4_hold cX4_hold 3 (some .int) ∈ lw_tbl := List.mem_append_right _ (show _ ∈ tables_1 from List.mem_append_right _ (List.mem_append_right _ (List.mem_append_left _ (List.mem_of_getElem? (l := tables_1_3) (i := 100) rfl))))
theorem mct_81 : Cond.code yX4_as cX4_as 4 (some .int) ∈ lw_tbl := List.mem_append_right _ (show _ ∈ tables_1 from List.mem_append_right _ (List.mem_append_right _ (List.mem_append_left _ (List.mem_of_getElem? (l := tables_1_3) (i := 104) rfl))))
theorem mct_82 : Cond.code yX4_sheet cX4_sheet 4 (some .int) ∈ lw_tbl := List.mem_append_right _ (show _ ∈ tables_1 from List.mem_append_right _ (List.mem_append_right _ (List.mem_append_left _ (List.mem_of_getElem? (l := tables_1_3) (i := 114) rfl))))
theorem mct_83 : Cond.code yX4_write cX4_write 5 (some .int) ∈ lw_tbl := List.mem_append_right _ (show _ ∈ tables_1 from List.mem_append_right _ (List.mem_append_right _ (List.mem_append_left _ (List.mem_of_getElem? (l := tables_1_3) (i := 122) rfl))))
theorem mct_84 : Cond.code yX4_copy cX4_copy 8 (some .int) ∈ lw_tbl := List.mem_append_right _ (show _ ∈ tables_1 from List.mem_append_right _ (List.mem_append_right _ (List.mem_append_left _ (List.mem_of_getElem? (l := tables_1_3) (i := 130) rfl))))
theorem mct_85 : Cond.code yX4_load cX4_load 4 (some .int) ∈ lw_tbl := List.mem_append_right _ (show _ ∈ tables_1 from List.mem_append_right _ (List.mem_append_right _ (List.mem_append_left _ (List.mem_of_getElem? (l := tables_1_3) (i := 139) rfl))))
theorem mct_86 : Cond.code yX4_judge cX4_judge 4 (some .int) ∈ lw_tbl := List.mem_append_right _ (show _ ∈ tables_1 from List.mem_append_right _ (List.mem_append_right _ (List.mem_append_left _ (List.mem_of_getElem? (l := tables_1_3) (i := 143) rfl))))
theorem mct_87 : Cond.code yX4_image cX4_image 1 (some .int) ∈ lw_tbl := List.mem_append_right _ (show _ ∈ tables_1 from List.mem_append_right _ (List.mem_append_right _ (List.mem_append_left _ (List.mem_of_getElem? (l := tables_1_3) (i := 147) rfl))))
theorem mct_88 : Cond.code yX4_undo cX4_undo 1 (some .int) ∈ lw_tbl := List.mem_append_right _ (show _ ∈ tables_1 from List.mem_append_right _ (List.mem_append_right _ (List.mem_append_left _ (List.mem_of_getElem? (l := tables_1_3) (i := 151) rfl))))
theorem mct_89 : Cond.code yX4_tear cX4_tear 2 (some .int) ∈ lw_tbl := List.mem_append_right _ (show _ ∈ tables_1 from List.mem_append_right _ (List.mem_append_right _ (List.mem_append_left _ (List.mem_of_getElem? (l := tables_1_3) (i := 155) rfl))))
theorem mct_90 : Cond.code yX4_count cX4_count 2 (some .int) ∈ lw_tbl := List.mem_append_right _ (show _ ∈ tables_1 from List.mem_append_right _ (List.mem_append_right _ (List.mem_append_left _ (List.mem_of_getElem? (l := tables_1_3) (i := 159) rfl))))
theorem mct_91 : Cond.code yX4_status cX4_status 4 (some .int) ∈ lw_tbl := List.mem_append_right _ (show _ ∈ tables_1 from List.mem_append_right _ (List.mem_append_right _ (List.mem_append_left _ (List.mem_of_getElem? (l := tables_1_3) (i := 167) rfl))))
theorem mct_92 : Cond.code yX4_finding cX4_finding 2 (some .int) ∈ lw_tbl := List.mem_append_right _ (show _ ∈ tables_1 from List.mem_append_left _ (List.mem_of_getElem? (l := tables_1_1) (i := 165) rfl))
theorem mct_93 : Cond.code yX4_isWriter cX4_isWriter 2 (some .boolean) ∈ lw_tbl := List.mem_append_right _ (show _ ∈ tables_1 from List.mem_append_left _ (List.mem_of_getElem? (l := tables_1_1) (i := 219) rfl))
theorem mct_94 : Cond.code yX4_isLetter cX4_isLetter 1 (some .boolean) ∈ lw_tbl := List.mem_append_right _ (show _ ∈ tables_1 from List.mem_append_left _ (List.mem_of_getElem? (l := tables_1_1) (i := 158) rfl))
theorem mct_95 : Cond.code yX4_isFish cX4_isFish 1 (some .boolean) ∈ lw_tbl := List.mem_append_right _ (show _ ∈ tables_1 from List.mem_append_left _ (List.mem_of_getElem? (l := tables_1_1) (i := 177) rfl))
theorem mct_96 : Cond.code yX4_isSheet cX4_isSheet 1 (some .boolean) ∈ lw_tbl := List.mem_append_right _ (show _ ∈ tables_1 from List.mem_append_right _ (List.mem_append_left _ (List.mem_of_getElem? (l := tables_1_2) (i := 169) rfl)))
theorem mct_97 : Cond.code yX4_within cX4_within 2 (some .boolean) ∈ lw_tbl := List.mem_append_right _ (show _ ∈ tables_1 from List.mem_append_left _ (List.mem_of_getElem? (l := tables_1_1) (i := 161) rfl))
theorem mct_98 : Cond.code yX4_digit cX4_digit 2 (some .int) ∈ lw_tbl := List.mem_append_right _ (show _ ∈ tables_1 from List.mem_append_right _ (List.mem_append_left _ (List.mem_of_getElem? (l := tables_1_2) (i := 6) rfl)))
theorem mct_99 : Cond.code yX4_bone cX4_bone 2 (some .int) ∈ lw_tbl := List.mem_append_right _ (show _ ∈ tables_1 from List.mem_append_left _ (List.mem_of_getElem? (l := tables_1_1) (i := 187) rfl))
theorem mct_100 : Cond.code yX4_lettersOf cX4_lettersOf 1 (some .int) ∈ lw_tbl := List.mem_append_right _ (show _ ∈ tables_1 from List.mem_append_left _ (List.mem_of_getElem? (l := tables_1_1) (i := 184) rfl))
theorem mct_101 : Cond.code yX4_howOften cX4_howOften 4 (some .int) ∈ lw_tbl := List.mem_append_right _ (show _ ∈ tables_1 from List.mem_append_right _ (List.mem_append_left _ (List.mem_of_getElem? (l := tables_1_2) (i := 31) rfl)))
theorem mct_102 : Cond.code yX5_isIn cX5_isIn 6 (some .boolean) ∈ lw_tbl := List.mem_append_right _ (show _ ∈ tables_1 from List.mem_append_right _ (List.mem_append_right _ (List.mem_append_left _ (List.mem_of_getElem? (l := tables_1_3) (i := 233) rfl))))
theorem mct_103 : Cond.code yX5_finds cX5_finds 2 (some .int) ∈ lw_tbl := List.mem_append_right _ (show _ ∈ tables_1 from List.mem_append_right _ (List.mem_append_right _ (List.mem_append_right _ (List.mem_append_left _ (List.mem_of_getElem? (l := tables_1_4) (i := 2) rfl)))))
theorem mct_104 : Cond.code yX5_becomes cX5_becomes 4 (some .int) ∈ lw_tbl := List.mem_append_right _ (show _ ∈ tables_1 from List.mem_append_right _ (List.mem_append_right _ (List.mem_append_left _ (List.mem_of_getElem? (l := tables_1_3) (i := 237) rfl))))
theorem mct_105 : Cond.code yX5_copyRow cX5_copyRow 3 (none) ∈ lw_tbl := List.mem_append_right _ (show _ ∈ tables_1 from List.mem_append_right _ (List.mem_append_right _ (List.mem_append_right _ (List.mem_append_left _ (List.mem_of_getElem? (l := tables_1_4) (i := 155) rfl)))))
theorem mct_106 : Cond.code yX5_isLetter10 cX5_isLetter10 1 (some .boolean) ∈ lw_tbl := List.mem_append_right _ (show _ ∈ tables_1 from List.mem_append_right _ (List.mem_append_right _ (List.mem_append_left _ (List.mem_of_getElem? (l := tables_1_3) (i := 229) rfl))))
theorem mct_107 : Cond.code yX5_isFish cX5_isFish 1 (some .boolean) ∈ lw_tbl := List.mem_append_right _ (show _ ∈ tables_1 from List.mem_append_right _ (List.mem_append_right _ (List.mem_append_right _ (List.mem_append_left _ (List.mem_of_getElem? (l := tables_1_4) (i := 13) rfl)))))
theorem mct_108 : Cond.code yX5_isWriter cX5_isWriter 2 (some .boolean) ∈ lw_tbl := List.mem_append_right _ (show _ ∈ tables_1 from List.mem_append_right _ (List.mem_append_right _ (List.mem_append_right _ (List.mem_append_left _ (List.mem_of_getElem? (l := tables_1_4) (i := 47) rfl)))))
theorem mct_109 : Cond.code yX5_at cX5_at 2 (some .int) ∈ lw_tbl := List.mem_append_right _ (show _ ∈ tables_1 from List.mem_append_right _ (List.mem_append_right _ (List.mem_append_right _ (List.mem_append_left _ (List.mem_of_getElem? (l := tables_1_4) (i := 39) rfl)))))
theorem mct_110 : Cond.code yX5_its cX5_its 3 (some .int) ∈ lw_tbl := List.mem_append_right _ (show _ ∈ tables_1 from List.mem_append_right _ (List.mem_append_right _ (List.mem_append_right _ (List.mem_append_left _ (List.mem_of_getElem? (l := tables_1_4) (i := 56) rfl)))))
theorem mct_111 : Cond.code yX5_least cX5_least 2 (some .int) ∈ lw_tbl := List.mem_append_right _ (show _ ∈ tables_1 from List.mem_append_right _ (List.mem_append_right _ (List.mem_append_right _ (List.mem_append_left _ (List.mem_of_getElem? (l := tables_1_4) (i := 96) rfl)))))
theorem mct_112 : Cond.code yX5_greatest cX5_greatest 2 (some .int) ∈ lw_tbl := List.mem_append_right _ (show _ ∈ tables_1 from List.mem_append_right _ (List.mem_append_right _ (List.mem_append_right _ (List.mem_append_left _ (List.mem_of_getElem? (l := tables_1_4) (i := 59) rfl)))))
theorem mct_113 : Cond.code yX5_orNone cX5_orNone 2 (some .int) ∈ lw_tbl := List.mem_append_right _ (show _ ∈ tables_1 from List.mem_append_right _ (List.mem_append_right _ (List.mem_append_right _ (List.mem_append_left _ (List.mem_of_getElem? (l := tables_1_4) (i := 189) rfl)))))
theorem mct_114 : Cond.code yX5_many cX5_many 3 (some .int) ∈ lw_tbl := List.mem_append_right _ (show _ ∈ tables_1 from List.mem_append_right _ (List.mem_append_right _ (List.mem_append_right _ (List.mem_append_left _ (List.mem_of_getElem? (l := tables_1_4) (i := 25) rfl)))))
theorem mct_115 : Cond.code yX5_digit cX5_digit 2 (some .int) ∈ lw_tbl := List.mem_append_right _ (show _ ∈ tables_1 from List.mem_append_right _ (List.mem_append_right _ (List.mem_append_right _ (List.mem_append_left _ (List.mem_of_getElem? (l := tables_1_4) (i := 70) rfl)))))
theorem mct_116 : Cond.code yX5_jar cX5_jar 3 (some .int) ∈ lw_tbl := List.mem_append_right _ (show _ ∈ tables_1 from List.mem_append_right _ (List.mem_append_right _ (List.mem_append_left _ (List.mem_of_getElem? (l := tables_1_3) (i := 226) rfl))))
theorem mct_117 : Cond.code yX5_bones cX5_bones 2 (some .int) ∈ lw_tbl := List.mem_append_right _ (show _ ∈ tables_1 from List.mem_append_right _ (List.mem_append_right _ (List.mem_append_right _ (List.mem_append_left _ (List.mem_of_getElem? (l := tables_1_4) (i := 6) rfl)))))
theorem mct_118 : Cond.code yX5_fish cX5_fish 4 (some .int) ∈ lw_tbl := List.mem_append_right _ (show _ ∈ tables_1 from List.mem_append_right _ (List.mem_append_right _ (List.mem_append_right _ (List.mem_append_left _ (List.mem_of_getElem? (l := tables_1_4) (i := 10) rfl)))))
theorem mct_119 : Cond.code yX5_lettersOf cX5_lettersOf 1 (some .int) ∈ lw_tbl := List.mem_append_right _ (show _ ∈ tables_1 from List.mem_append_right _ (List.mem_append_right _ (List.mem_append_right _ (List.mem_append_left _ (List.mem_of_getElem? (l := tables_1_4) (i := 22) rfl)))))
theorem mct_120 : Cond.code yX5_fishOf cX5_fishOf 3 (some .int) ∈ lw_tbl := List.mem_append_right _ (show _ ∈ tables_1 from List.mem_append_right _ (List.mem_append_right _ (List.mem_append_right _ (List.mem_append_left _ (List.mem_of_getElem? (l := tables_1_4) (i := 18) rfl)))))
theorem mct_121 : Cond.code yX5_comes cX5_comes 4 (none) ∈ lw_tbl := List.mem_append_right _ (show _ ∈ tables_1 from List.mem_append_right _ (List.mem_append_right _ (List.mem_append_right _ (List.mem_append_left _ (List.mem_of_getElem? (l := tables_1_4) (i := 36) rfl)))))
theorem mct_122 : Cond.code yX5_writer cX5_writer 3 (some .int) ∈ lw_tbl := List.mem_append_right _ (show _ ∈ tables_1 from List.mem_append_right _ (List.mem_append_right _ (List.mem_append_right _ (List.mem_append_left _ (List.mem_of_getElem? (l := tables_1_4) (i := 29) rfl)))))
theorem mct_123 : Cond.code yX5_eats cX5_eats 3 (some .int) ∈ lw_tbl := List.mem_append_right _ (show _ ∈ tables_1 from List.mem_append_right _ (List.mem_append_right _ (List.mem_append_right _ (List.mem_append_left _ (List.mem_of_getElem? (l := tables_1_4) (i := 52) rfl)))))
theorem mct_124 : Cond.code yX5_writesMost cX5_writesMost 2 (some .int) ∈ lw_tbl := List.mem_append_right _ (show _ ∈ tables_1 from List.mem_append_right _ (List.mem_append_right _ (List.mem_append_right _ (List.mem_append_left _ (List.mem_of_getElem? (l := tables_1_4) (i := 63) rfl)))))
theorem mct_125 : Cond.code yX5_next cX5_next 2 (some .int) ∈ lw_tbl := List.mem_append_right _ (show _ ∈ tables_1 from List.mem_append_right _ (List.mem_append_right _ (List.mem_append_right _ (List.mem_append_left _ (List.mem_of_getElem? (l := tables_1_4) (i := 67) rfl)))))
theorem mct_126 : Cond.code yX5_isKeptBy cX5_isKeptBy 3 (some .boolean) ∈ lw_tbl := List.mem_append_right _ (show _ ∈ tables_1 from List.mem_append_right _ (List.mem_append_right _ (List.mem_append_right _ (List.mem_append_left _ (List.mem_of_getElem? (l := tables_1_4) (i := 85) rfl)))))
theorem mct_127 : Cond.code yX5_of cX5_of 3 (some .int) ∈ lw_tbl := List.mem_append_right _ (show _ ∈ tables_1 from List.mem_append_right _ (List.mem_append_right _ (List.mem_append_right _ (List.mem_append_left _ (List.mem_of_getElem? (l := tables_1_4) (i := 43) rfl)))))
theorem mct_128 : Cond.code yX5_greatestOf cX5_greatestOf 1 (some .int) ∈ lw_tbl := List.mem_append_right _ (show _ ∈ tables_1 from List.mem_append_right _ (List.mem_append_right _ (List.mem_append_right _ (List.mem_append_left _ (List.mem_of_getElem? (l := tables_1_4) (i := 78) rfl)))))
theorem mct_129 : Cond.code yX5_change cX5_change 5 (some .int) ∈ lw_tbl := List.mem_append_right _ (show _ ∈ tables_1 from List.mem_append_right _ (List.mem_append_right _ (List.mem_append_right _ (List.mem_append_left _ (List.mem_of_getElem? (l := tables_1_4) (i := 74) rfl)))))
theorem mct_130 : Cond.code yX5_keeps cX5_keeps 6 (some .int) ∈ lw_tbl := List.mem_append_right _ (show _ ∈ tables_1 from List.mem_append_right _ (List.mem_append_right _ (List.mem_append_right _ (List.mem_append_left _ (List.mem_of_getElem? (l := tables_1_4) (i := 82) rfl)))))
theorem mct_131 : Cond.code yX5_spellsOf cX5_spellsOf 7 (some .int) ∈ lw_tbl := List.mem_append_right _ (show _ ∈ tables_1 from List.mem_append_right _ (List.mem_append_right _ (List.mem_append_right _ (List.mem_append_left _ (List.mem_of_getElem? (l := tables_1_4) (i := 93) rfl)))))
theorem mct_132 : Cond.code yX5_spells cX5_spells 2 (some .int) ∈ lw_tbl := List.mem_append_right _ (show _ ∈ tables_1 from List.mem_append_right _ (List.mem_append_right _ (List.mem_append_right _ (List.mem_append_left _ (List.mem_of_getElem? (l := tables_1_4) (i := 89) rfl)))))
theorem mct_133 : Cond.code yX5_eatsOne cX5_eatsOne 5 (none) ∈ lw_tbl := List.mem_append_right _ (show _ ∈ tables_1 from List.mem_append_right _ (List.mem_append_right _ (List.mem_append_right _ (List.mem_append_left _ (List.mem_of_getElem? (l := tables_1_4) (i := 115) rfl)))))
theorem mct_134 : Cond.code yX5_writesOne cX5_writesOne 2 (none) ∈ lw_tbl := List.mem_append_right _ (show _ ∈ tables_1 from List.mem_append_right _ (List.mem_append_right _ (List.mem_append_right _ (List.mem_append_left _ (List.mem_of_getElem? (l := tables_1_4) (i := 119) rfl)))))
theorem mct_135 : Cond.code yX5_dayBut cX5_dayBut 7 (none) ∈ lw_tbl := List.mem_append_right _ (show _ ∈ tables_1 from List.mem_append_right _ (List.mem_append_right _ (List.mem_append_right _ (List.mem_append_left _ (List.mem_of_getElem? (l := tables_1_4) (i := 111) rfl)))))
theorem mct_136 : Cond.code yX5_goes cX5_goes 3 (none) ∈ lw_tbl := List.mem_append_right _ (show _ ∈ tables_1 from List.mem_append_right _ (List.mem_append_right _ (List.mem_append_right _ (List.mem_append_left _ (List.mem_of_getElem? (l := tables_1_4) (i := 107) rfl)))))
theorem mct_137 : Cond.code yX5_sumOf cX5_sumOf 4 (some .int) ∈ lw_tbl := List.mem_append_right _ (show _ ∈ tables_1 from List.mem_append_right _ (List.mem_append_right _ (List.mem_append_right _ (List.mem_append_left _ (List.mem_of_getElem? (l := tables_1_4) (i := 123) rfl)))))
theorem mct_138 : Cond.code yX5_jarAll cX5_jarAll 3 (some .int) ∈ lw_tbl := List.mem_append_right _ (show _ ∈ tables_1 from List.mem_append_right _ (List.mem_append_right _ (List.mem_append_right _ (List.mem_append_left _ (List.mem_of_getElem? (l := tables_1_4) (i := 131) rfl)))))
theorem mct_139 : Cond.code yX5_go cX5_go 2 (some .int) ∈ lw_tbl := List.mem_append_right _ (show _ ∈ tables_1 from List.mem_append_right _ (List.mem_append_right _ (List.mem_append_right _ (List.mem_append_left _ (List.mem_of_getElem? (l := tables_1_4) (i := 100) rfl)))))
theorem mct_140 : Cond.code yX5_waiting cX5_waiting 3 (some .int) ∈ lw_tbl := List.mem_append_right _ (show _ ∈ tables_1 from List.mem_append_right _ (List.mem_append_right _ (List.mem_append_right _ (List.mem_append_left _ (List.mem_of_getElem? (l := tables_1_4) (i := 135) rfl)))))
theorem mct_141 : Cond.code yX5_lacking cX5_lacking 3 (some .int) ∈ lw_tbl := List.mem_append_right _ (show _ ∈ tables_1 from List.mem_append_right _ (List.mem_append_right _ (List.mem_append_right _ (List.mem_append_left _ (List.mem_of_getElem? (l := tables_1_4) (i := 139) rfl)))))
theorem mct_142 : Cond.code yX5_thin cX5_thin 3 (some .int) ∈ lw_tbl := List.mem_append_right _ (show _ ∈ tables_1 from List.mem_append_right _ (List.mem_append_right _ (List.mem_append_right _ (List.mem_append_left _ (List.mem_of_getElem? (l := tables_1_4) (i := 143) rfl)))))
theorem mct_143 : Cond.code yX5_now cX5_now 2 (some .int) ∈ lw_tbl := List.mem_append_right _ (show _ ∈ tables_1 from List.mem_append_right _ (List.mem_append_right _ (List.mem_append_right _ (List.mem_append_left _ (List.mem_of_getElem? (l := tables_1_4) (i := 127) rfl)))))
theorem mct_144 : Cond.code yX5_thenAt cX5_thenAt 4 (some .int) ∈ lw_tbl := List.mem_append_right _ (show _ ∈ tables_1 from List.mem_append_right _ (List.mem_append_right _ (List.mem_append_right _ (List.mem_append_left _ (List.mem_of_getElem? (l := tables_1_4) (i := 152) rfl)))))
theorem mct_145 : Cond.code yX5_ahead cX5_ahead 4 (some .int) ∈ lw_tbl := List.mem_append_right _ (show _ ∈ tables_1 from List.mem_append_right _ (List.mem_append_right _ (List.mem_append_right _ (List.mem_append_left _ (List.mem_of_getElem? (l := tables_1_4) (i := 147) rfl)))))
theorem mct_146 : Cond.code yX5_later cX5_later 3 (some .int) ∈ lw_tbl := List.mem_append_right _ (show _ ∈ tables_1 from List.mem_append_right _ (List.mem_append_right _ (List.mem_append_right _ (List.mem_append_left _ (List.mem_of_getElem? (l := tables_1_4) (i := 159) rfl)))))
theorem mct_147 : Cond.code yX5_when cX5_when 4 (some .int) ∈ lw_tbl := List.mem_append_right _ (show _ ∈ tables_1 from List.mem_append_right _ (List.mem_append_right _ (List.mem_append_right _ (List.mem_append_left _ (List.mem_of_getElem? (l := tables_1_4) (i := 163) rfl)))))
theorem mct_148 : Cond.code yX5_whenNone cX5_whenNone 3 (some .int) ∈ lw_tbl := List.mem_append_right _ (show _ ∈ tables_1 from List.mem_append_right _ (List.mem_append_right _ (List.mem_append_right _ (List.mem_append_left _ (List.mem_of_getElem? (l := tables_1_4) (i := 172) rfl)))))
theorem mct_149 : Cond.code yX5_starves cX5_starves 2 (some .int) ∈ lw_tbl := List.mem_append_right _ (show _ ∈ tables_1 from List.mem_append_right _ (List.mem_append_right _ (List.mem_append_right _ (List.mem_append_left _ (List.mem_of_getElem? (l := tables_1_4) (i := 168) rfl)))))
theorem mct_150 : Cond.code yX5_out cX5_out 2 (some .int) ∈ lw_tbl := List.mem_append_right _ (show _ ∈ tables_1 from List.mem_append_right _ (List.mem_append_right _ (List.mem_append_right _ (List.mem_append_left _ (List.mem_of_getElem? (l := tables_1_4) (i := 176) rfl)))))
theorem mct_151 : Cond.code yX5_catchFor cX5_catchFor 6 (some .int) ∈ lw_tbl := List.mem_append_right _ (show _ ∈ tables_1 from List.mem_append_right _ (List.mem_append_right _ (List.mem_append_right _ (List.mem_append_left _ (List.mem_of_getElem? (l := tables_1_4) (i := 180) rfl)))))
theorem mct_152 : Cond.code yX5_fewest cX5_fewest 8 (some .int) ∈ lw_tbl := List.mem_append_right _ (show _ ∈ tables_1 from List.mem_append_right _ (List.mem_append_right _ (List.mem_append_right _ (List.mem_append_left _ (List.mem_of_getElem? (l := tables_1_4) (i := 185) rfl)))))
theorem mct_153 : Cond.code yX5_wordWith cX5_wordWith 4 (some .int) ∈ lw_tbl := List.mem_append_right _ (show _ ∈ tables_1 from List.mem_append_right _ (List.mem_append_right _ (List.mem_append_right _ (List.mem_append_left _ (List.mem_of_getElem? (l := tables_1_4) (i := 201) rfl)))))
theorem mct_154 : Cond.code yX5_isAsked cX5_isAsked 3 (some .boolean) ∈ lw_tbl := List.mem_append_right _ (show _ ∈ tables_1 from List.mem_append_right _ (List.mem_append_right _ (List.mem_append_right _ (List.mem_append_left _ (List.mem_of_getElem? (l := tables_1_4) (i := 197) rfl)))))
theorem mct_155 : Cond.code yX5_letterFor cX5_letterFor 8 (some .int) ∈ lw_tbl := List.mem_append_right _ (show _ ∈ tables_1 from List.mem_append_right _ (List.mem_append_right _ (List.mem_append_right _ (List.mem_append_left _ (List.mem_of_getElem? (l := tables_1_4) (i := 193) rfl)))))
theorem mct_156 : Cond.code yX5_kindFor cX5_kindFor 8 (some .int) ∈ lw_tbl := List.mem_append_right _ (show _ ∈ tables_1 from List.mem_append_right _ (List.mem_append_right _ (List.mem_append_right _ (List.mem_append_left _ (List.mem_of_getElem? (l := tables_1_4) (i := 205) rfl)))))
theorem mct_157 : Cond.code yX5_away cX5_away 7 (some .int) ∈ lw_tbl := List.mem_append_right _ (show _ ∈ tables_1 from List.mem_append_right _ (List.mem_append_right _ (List.mem_append_right _ (List.mem_append_left _ (List.mem_of_getElem? (l := tables_1_4) (i := 209) rfl)))))
theorem mct_158 : Cond.code yX5_bonesFor cX5_bonesFor 7 (some .int) ∈ lw_tbl := List.mem_append_right _ (show _ ∈ tables_1 from List.mem_append_right _ (List.mem_append_right _ (List.mem_append_right _ (List.mem_append_left _ (List.mem_of_getElem? (l := tables_1_4) (i := 213) rfl)))))
theorem mct_159 : Cond.code yX5_isTold cX5_isTold 6 (some .boolean) ∈ lw_tbl := List.mem_append_right _ (show _ ∈ tables_1 from List.mem_append_right _ (List.mem_append_right _ (List.mem_append_right _ (List.mem_append_left _ (List.mem_of_getElem? (l := tables_1_4) (i := 233) rfl)))))
theorem mct_160 : Cond.code yX5_wantsFor cX5_wantsFor 3 (some .int) ∈ lw_tbl := List.mem_append_right _ (show _ ∈ tables_1 from List.mem_append_right _ (List.mem_append_right _ (List.mem_append_right _ (List.mem_append_left _ (List.mem_of_getElem? (l := tables_1_4) (i := 221) rfl)))))
theorem mct_161 : Cond.code yX5_fits cX5_fits 7 (some .int) ∈ lw_tbl := List.mem_append_right _ (show _ ∈ tables_1 from List.mem_append_right _ (List.mem_append_right _ (List.mem_append_right _ (List.mem_append_left _ (List.mem_of_getElem? (l := tables_1_4) (i := 217) rfl)))))
theorem mct_162 : Cond.code yX5_kinds cX5_kinds 7 (some .int) ∈ lw_tbl := List.mem_append_right _ (show _ ∈ tables_1 from List.mem_append_right _ (List.mem_append_right _ (List.mem_append_right _ (List.mem_append_left _ (List.mem_of_getElem? (l := tables_1_4) (i := 237) rfl)))))
theorem mct_163 : Cond.code yX5_texts cX5_texts 4 (some .int) ∈ lw_tbl := List.mem_append_right _ (show _ ∈ tables_1 from List.mem_append_right _ (List.mem_append_right _ (List.mem_append_right _ (List.mem_append_right _ (List.mem_of_getElem? (l := tables_1_5) (i := 1) rfl)))))
theorem mct_164 : Cond.code yX5_draw cX5_draw 1 (some .int) ∈ lw_tbl := List.mem_append_right _ (show _ ∈ tables_1 from List.mem_append_right _ (List.mem_append_right _ (List.mem_append_right _ (List.mem_append_right _ (List.mem_of_getElem? (l := tables_1_5) (i := 10) rfl)))))
theorem mct_165 : Cond.code yX5_catches cX5_catches 4 (some .int) ∈ lw_tbl := List.mem_append_right _ (show _ ∈ tables_1 from List.mem_append_right _ (List.mem_append_right _ (List.mem_append_right _ (List.mem_append_right _ (List.mem_of_getElem? (l := tables_1_5) (i := 6) rfl)))))
theorem mct_166 : Cond.code yX5_odds cX5_odds 13 (some .long) ∈ lw_tbl := List.mem_append_right _ (show _ ∈ tables_1 from List.mem_append_right _ (List.mem_append_right _ (List.mem_append_right _ (List.mem_append_right _ (List.mem_of_getElem? (l := tables_1_5) (i := 15) rfl)))))
theorem mct_167 : Cond.code yX5_seed cX5_seed 2 (some .int) ∈ lw_tbl := List.mem_append_right _ (show _ ∈ tables_1 from List.mem_append_right _ (List.mem_append_right _ (List.mem_append_right _ (List.mem_append_right _ (List.mem_of_getElem? (l := tables_1_5) (i := 19) rfl)))))
theorem mct_168 : Cond.code yX5_feed cX5_feed 4 (some .int) ∈ lw_tbl := List.mem_append_right _ (show _ ∈ tables_1 from List.mem_append_right _ (List.mem_append_right _ (List.mem_append_right _ (List.mem_append_right _ (List.mem_of_getElem? (l := tables_1_5) (i := 23) rfl)))))
theorem mct_169 : Cond.code yX5_wipe cX5_wipe 2 (some .int) ∈ lw_tbl := List.mem_append_right _ (show _ ∈ tables_1 from List.mem_append_right _ (List.mem_append_right _ (List.mem_append_right _ (List.mem_append_right _ (List.mem_of_getElem? (l := tables_1_5) (i := 27) rfl)))))
theorem mct_170 : Cond.code yX5_isLetter cX5_isLetter 1 (some .boolean) ∈ lw_tbl := List.mem_append_right _ (show _ ∈ tables_1 from List.mem_append_right _ (List.mem_append_right _ (List.mem_append_right _ (List.mem_append_right _ (List.mem_of_getElem? (l := tables_1_5) (i := 42) rfl)))))
theorem mct_171 : Cond.code yX5_isDigit cX5_isDigit 1 (some .boolean) ∈ lw_tbl := List.mem_append_right _ (show _ ∈ tables_1 from List.mem_append_right _ (List.mem_append_right _ (List.mem_append_right _ (List.mem_append_right _ (List.mem_of_getElem? (l := tables_1_5) (i := 45) rfl)))))
theorem mct_172 : Cond.code yX5_byteAt cX5_byteAt 2 (some .int) ∈ lw_tbl := List.mem_append_right _ (show _ ∈ tables_1 from List.mem_append_right _ (List.mem_append_right _ (List.mem_append_right _ (List.mem_append_right _ (List.mem_of_getElem? (l := tables_1_5) (i := 39) rfl)))))
theorem mct_173 : Cond.code yX5_nextToken cX5_nextToken 2 (none) ∈ lw_tbl := List.mem_append_right _ (show _ ∈ tables_1 from List.mem_append_right _ (List.mem_append_right _ (List.mem_append_right _ (List.mem_append_right _ (List.mem_of_getElem? (l := tables_1_5) (i := 35) rfl)))))
theorem mct_174 : Cond.code yX5_has3 cX5_has3 5 (some .boolean) ∈ lw_tbl := List.mem_append_right _ (show _ ∈ tables_1 from List.mem_append_right _ (List.mem_append_right _ (List.mem_append_right _ (List.mem_append_right _ (List.mem_of_getElem? (l := tables_1_5) (i := 65) rfl)))))
theorem mct_175 : Cond.code yX5_isWord cX5_isWord 2 (some .boolean) ∈ lw_tbl := List.mem_append_right _ (show _ ∈ tables_1 from List.mem_append_right _ (List.mem_append_right _ (List.mem_append_right _ (List.mem_append_right _ (List.mem_of_getElem? (l := tables_1_5) (i := 61) rfl)))))
theorem mct_176 : Cond.code yX5_fails cX5_fails 1 (some .boolean) ∈ lw_tbl := List.mem_append_right _ (show _ ∈ tables_1 from List.mem_append_right _ (List.mem_append_right _ (List.mem_append_right _ (List.mem_append_right _ (List.mem_of_getElem? (l := tables_1_5) (i := 81) rfl)))))
theorem mct_177 : Cond.code yX5_isFour cX5_isFour 5 (some .boolean) ∈ lw_tbl := List.mem_append_right _ (show _ ∈ tables_1 from List.mem_append_right _ (List.mem_append_right _ (List.mem_append_right _ (List.mem_append_right _ (List.mem_of_getElem? (l := tables_1_5) (i := 69) rfl)))))
theorem mct_178 : Cond.code yX5_isFive cX5_isFive 6 (some .boolean) ∈ lw_tbl := List.mem_append_right _ (show _ ∈ tables_1 from List.mem_append_right _ (List.mem_append_right _ (List.mem_append_right _ (List.mem_append_right _ (List.mem_of_getElem? (l := tables_1_5) (i := 73) rfl)))))
theorem mct_179 : Cond.code yX5_isSix cX5_isSix 7 (some .boolean) ∈ lw_tbl := List.mem_append_right _ (show _ ∈ tables_1 from List.mem_append_right _ (List.mem_append_right _ (List.mem_append_right _ (List.mem_append_right _ (List.mem_of_getElem? (l := tables_1_5) (i := 57) rfl)))))
theorem mct_180 : Cond.code yX5_isNumber cX5_isNumber 3 (some .boolean) ∈ lw_tbl := List.mem_append_right _ (show _ ∈ tables_1 from List.mem_append_right _ (List.mem_append_right _ (List.mem_append_right _ (List.mem_append_right _ (List.mem_of_getElem? (l := tables_1_5) (i := 89) rfl)))))
theorem mct_181 : Cond.code yX5_kindHere cX5_kindHere 1 (some .int) ∈ lw_tbl := List.mem_append_right _ (show _ ∈ tables_1 from List.mem_append_right _ (List.mem_append_right _ (List.mem_append_right _ (List.mem_append_right _ (List.mem_of_getElem? (l := tables_1_5) (i := 53) rfl)))))
theorem mct_182 : Cond.code yX5_perhaps cX5_perhaps 4 (some .boolean) ∈ lw_tbl := List.mem_append_right _ (show _ ∈ tables_1 from List.mem_append_right _ (List.mem_append_right _ (List.mem_append_right _ (List.mem_append_right _ (List.mem_of_getElem? (l := tables_1_5) (i := 85) rfl)))))
theorem mct_183 : Cond.code yX5_writerHere cX5_writerHere 3 (some .boolean) ∈ lw_tbl := List.mem_append_right _ (show _ ∈ tables_1 from List.mem_append_right _ (List.mem_append_right _ (List.mem_append_right _ (List.mem_append_right _ (List.mem_of_getElem? (l := tables_1_5) (i := 77) rfl)))))
theorem mct_184 : Cond.code yX5_fishHere cX5_fishHere 2 (some .boolean) ∈ lw_tbl := List.mem_append_right _ (show _ ∈ tables_1 from List.mem_append_right _ (List.mem_append_right _ (List.mem_append_right _ (List.mem_append_right _ (List.mem_of_getElem? (l := tables_1_5) (i := 93) rfl)))))
theorem mct_185 : Cond.code yX5_jarHere cX5_jarHere 1 (some .boolean) ∈ lw_tbl := List.mem_append_right _ (show _ ∈ tables_1 from List.mem_append_right _ (List.mem_append_right _ (List.mem_append_right _ (List.mem_append_right _ (List.mem_of_getElem? (l := tables_1_5) (i := 97) rfl)))))
theorem mct_186 : Cond.code yX5_itemHere cX5_itemHere 2 (some .boolean) ∈ lw_tbl := List.mem_append_right _ (show _ ∈ tables_1 from List.mem_append_right _ (List.mem_append_right _ (List.mem_append_right _ (List.mem_append_right _ (List.mem_of_getElem? (l := tables_1_5) (i := 49) rfl)))))
theorem mct_187 : Cond.code yX5_text cX5_text 3 (some .int) ∈ lw_tbl := List.mem_append_right _ (show _ ∈ tables_1 from List.mem_append_right _ (List.mem_append_right _ (List.mem_append_right _ (List.mem_append_right _ (List.mem_of_getElem? (l := tables_1_5) (i := 31) rfl)))))
theorem mct_188 : Cond.code yX5_hold cX5_hold 3 (some .int) ∈ lw_tbl := List.mem_append_right _ (show _ ∈ tables_1 from List.mem_append_right _ (List.mem_append_right _ (List.mem_append_right _ (List.mem_append_right _ (List.mem_of_getElem? (l := tables_1_5) (i := 101) rfl)))))
theorem mct_189 : Cond.code yX5_isUnder cX5_isUnder 2 (some .boolean) ∈ lw_tbl := List.mem_append_right _ (show _ ∈ tables_1 from List.mem_append_right _ (List.mem_append_right _ (List.mem_append_right _ (List.mem_append_right _ (List.mem_of_getElem? (l := tables_1_5) (i := 108) rfl)))))
theorem mct_190 : Cond.code yX5_as cX5_as 4 (some .int) ∈ lw_tbl := List.mem_append_right _ (show _ ∈ tables_1 from List.mem_append_right _ (List.mem_append_right _ (List.mem_append_right _ (List.mem_append_right _ (List.mem_of_getElem? (l := tables_1_5) (i := 105) rfl)))))
theorem mct_191 : Cond.code yX5_isSheet cX5_isSheet 1 (some .boolean) ∈ lw_tbl := List.mem_append_right _ (show _ ∈ tables_1 from List.mem_append_right _ (List.mem_append_right _ (List.mem_append_right _ (List.mem_append_left _ (List.mem_of_getElem? (l := tables_1_4) (i := 228) rfl)))))
theorem mct_192 : Cond.code yX5_sheet cX5_sheet 5 (some .int) ∈ lw_tbl := List.mem_append_right _ (show _ ∈ tables_1 from List.mem_append_right _ (List.mem_append_right _ (List.mem_append_right _ (List.mem_append_right _ (List.mem_of_getElem? (l := tables_1_5) (i := 113) rfl)))))
theorem mct_193 : Cond.code yX5_write cX5_write 4 (some .int) ∈ lw_tbl := List.mem_append_right _ (show _ ∈ tables_1 from List.mem_append_right _ (List.mem_append_right _ (List.mem_append_right _ (List.mem_append_right _ (List.mem_of_getElem? (l := tables_1_5) (i := 118) rfl)))))
theorem mct_194 : Cond.code yX5_copy cX5_copy 10 (some .int) ∈ lw_tbl := List.mem_append_right _ (show _ ∈ tables_1 from List.mem_append_right _ (List.mem_append_right _ (List.mem_append_right _ (List.mem_append_right _ (List.mem_of_getElem? (l := tables_1_5) (i := 122) rfl)))))
theorem mct_195 : Cond.code yX5_wants cX5_wants 2 (some .int) ∈ lw_tbl := List.mem_append_right _ (show _ ∈ tables_1 from List.mem_append_right _ (List.mem_append_right _ (List.mem_append_right _ (List.mem_append_left _ (List.mem_of_getElem? (l := tables_1_4) (i := 225) rfl)))))
theorem mct_196 : Cond.code yX5_load cX5_load 3 (some .int) ∈ lw_tbl := List.mem_append_right _ (show _ ∈ tables_1 from List.mem_append_right _ (List.mem_append_right _ (List.mem_append_right _ (List.mem_append_right _ (List.mem_of_getElem? (l := tables_1_5) (i := 126) rfl)))))
theorem mct_197 : Cond.code yX5_judge cX5_judge 3 (some .int) ∈ lw_tbl := List.mem_append_right _ (show _ ∈ tables_1 from List.mem_append_right _ (List.mem_append_right _ (List.mem_append_right _ (List.mem_append_right _ (List.mem_of_getElem? (l := tables_1_5) (i := 130) rfl)))))
theorem mct_198 : Cond.code yX5_image cX5_image 1 (some .int) ∈ lw_tbl := List.mem_append_right _ (show _ ∈ tables_1 from List.mem_append_right _ (List.mem_append_right _ (List.mem_append_right _ (List.mem_append_right _ (List.mem_of_getElem? (l := tables_1_5) (i := 134) rfl)))))
theorem mct_199 : Cond.code yX5_undo cX5_undo 1 (some .int) ∈ lw_tbl := List.mem_append_right _ (show _ ∈ tables_1 from List.mem_append_right _ (List.mem_append_right _ (List.mem_append_right _ (List.mem_append_right _ (List.mem_of_getElem? (l := tables_1_5) (i := 138) rfl)))))
theorem mct_200 : Cond.code yX5_tear cX5_tear 2 (some .int) ∈ lw_tbl := List.mem_append_right _ (show _ ∈ tables_1 from List.mem_append_right _ (List.mem_append_right _ (List.mem_append_right _ (List.mem_append_right _ (List.mem_of_getElem? (l := tables_1_5) (i := 142) rfl)))))
theorem mct_201 : Cond.code yX5_count cX5_count 4 (some .int) ∈ lw_tbl := List.mem_append_right _ (show _ ∈ tables_1 from List.mem_append_right _ (List.mem_append_right _ (List.mem_append_right _ (List.mem_append_right _ (List.mem_of_getElem? (l := tables_1_5) (i := 146) rfl)))))
theorem mct_202 : Cond.code yX5_status cX5_status 2 (some .int) ∈ lw_tbl := List.mem_append_right _ (show _ ∈ tables_1 from List.mem_append_right _ (List.mem_append_right _ (List.mem_append_right _ (List.mem_append_right _ (List.mem_of_getElem? (l := tables_1_5) (i := 150) rfl)))))
theorem mct_203 : Cond.code yJ6_bitCount_0f7a4 cJ6_bitCount_0f7a4 1 (some .int) ∈ lw_tbl := List.mem_append_right _ (show _ ∈ tables_1 from List.mem_append_left _ (List.mem_of_getElem? (l := tables_1_1) (i := 192) rfl))
theorem mtk_0 (j : Nat) (h : j < 16) : Cond.code (mN (0 + j)) (mB (0 + j)) (mX (0 + j)) (mR (0 + j)) ∈ lw_tbl := match j, h with
  | 0, _ => mct_0
  | 1, _ => mct_1
  | 2, _ => mct_2
  | 3, _ => mct_3
  | 4, _ => mct_4
  | 5, _ => mct_5
  | 6, _ => mct_6
  | 7, _ => mct_7
  | 8, _ => mct_8
  | 9, _ => mct_9
  | 10, _ => mct_10
  | 11, _ => mct_11
  | 12, _ => mct_12
  | 13, _ => mct_13
  | 14, _ => mct_14
  | 15, _ => mct_15
  | n + 16, h => absurd h (by omega)
theorem mtk_1 (j : Nat) (h : j < 16) : Cond.code (mN (16 + j)) (mB (16 + j)) (mX (16 + j)) (mR (16 + j)) ∈ lw_tbl := match j, h with
  | 0, _ => mct_16
  | 1, _ => mct_17
  | 2, _ => mct_18
  | 3, _ => mct_19
  | 4, _ => mct_20
  | 5, _ => mct_21
  | 6, _ => mct_22
  | 7, _ => mct_23
  | 8, _ => mct_24
  | 9, _ => mct_25
  | 10, _ => mct_26
  | 11, _ => mct_27
  | 12, _ => mct_28
  | 13, _ => mct_29
  | 14, _ => mct_30
  | 15, _ => mct_31
  | n + 16, h => absurd h (by omega)
theorem mtk_2 (j : Nat) (h : j < 16) : Cond.code (mN (32 + j)) (mB (32 + j)) (mX (32 + j)) (mR (32 + j)) ∈ lw_tbl := match j, h with
  | 0, _ => mct_32
  | 1, _ => mct_33
  | 2, _ => mct_34
  | 3, _ => mct_35
  | 4, _ => mct_36
  | 5, _ => mct_37
  | 6, _ => mct_38
  | 7, _ => mct_39
  | 8, _ => mct_40
  | 9, _ => mct_41
  | 10, _ => mct_42
  | 11, _ => mct_43
  | 12, _ => mct_44
  | 13, _ => mct_45
  | 14, _ => mct_46
  | 15, _ => mct_47
  | n + 16, h => absurd h (by omega)
theorem mtk_3 (j : Nat) (h : j < 16) : Cond.code (mN (48 + j)) (mB (48 + j)) (mX (48 + j)) (mR (48 + j)) ∈ lw_tbl := match j, h with
  | 0, _ => mct_48
  | 1, _ => mct_49
  | 2, _ => mct_50
  | 3, _ => mct_51
  | 4, _ => mct_52
  | 5, _ => mct_53
  | 6, _ => mct_54
  | 7, _ => mct_55
  | 8, _ => mct_56
  | 9, _ => mct_57
  | 10, _ => mct_58
  | 11, _ => mct_59
  | 12, _ => mct_60
  | 13, _ => mct_61
  | 14, _ => mct_62
  | 15, _ => mct_63
  | n + 16, h => absurd h (by omega)
theorem mtk_4 (j : Nat) (h : j < 16) : Cond.code (mN (64 + j)) (mB (64 + j)) (mX (64 + j)) (mR (64 + j)) ∈ lw_tbl := match j, h with
  | 0, _ => mct_64
  | 1, _ => mct_65
  | 2, _ => mct_66
  | 3, _ => mct_67
  | 4, _ => mct_68
  | 5, _ => mct_69
  | 6, _ => mct_70
  | 7, _ => mct_71
  | 8, _ => mct_72
  | 9, _ => mct_73
  | 10, _ => mct_74
  | 11, _ => mct_75
  | 12, _ => mct_76
  | 13, _ => mct_77
  | 14, _ => mct_78
  | 15, _ => mct_79
  | n + 16, h => absurd h (by omega)
theorem mtk_5 (j : Nat) (h : j < 16) : Cond.code (mN (80 + j)) (mB (80 + j)) (mX (80 + j)) (mR (80 + j)) ∈ lw_tbl := match j, h with
  | 0, _ => mct_80
  | 1, _ => mct_81
  | 2, _ => mct_82
  | 3, _ => mct_83
  | 4, _ => mct_84
  | 5, _ => mct_85
  | 6, _ => mct_86
  | 7, _ => mct_87
  | 8, _ => mct_88
  | 9, _ => mct_89
  | 10, _ => mct_90
  | 11, _ => mct_91
  | 12, _ => mct_92
  | 13, _ => mct_93
  | 14, _ => mct_94
  | 15, _ => mct_95
  | n + 16, h => absurd h (by omega)
theorem mtk_6 (j : Nat) (h : j < 16) : Cond.code (mN (96 + j)) (mB (96 + j)) (mX (96 + j)) (mR (96 + j)) ∈ lw_tbl := match j, h with
  | 0, _ => mct_96
  | 1, _ => mct_97
  | 2, _ => mct_98
  | 3, _ => mct_99
  | 4, _ => mct_100
  | 5, _ => mct_101
  | 6, _ => mct_102
  | 7, _ => mct_103
  | 8, _ => mct_104
  | 9, _ => mct_105
  | 10, _ => mct_106
  | 11, _ => mct_107
  | 12, _ => mct_108
  | 13, _ => mct_109
  | 14, _ => mct_110
  | 15, _ => mct_111
  | n + 16, h => absurd h (by omega)
theorem mtk_7 (j : Nat) (h : j < 16) : Cond.code (mN (112 + j)) (mB (112 + j)) (mX (112 + j)) (mR (112 + j)) ∈ lw_tbl := match j, h with
  | 0, _ => mct_112
  | 1, _ => mct_113
  | 2, _ => mct_114
  | 3, _ => mct_115
  | 4, _ => mct_116
  | 5, _ => mct_117
  | 6, _ => mct_118
  | 7, _ => mct_119
  | 8, _ => mct_120
  | 9, _ => mct_121
  | 10, _ => mct_122
  | 11, _ => mct_123
  | 12, _ => mct_124
  | 13, _ => mct_125
  | 14, _ => mct_126
  | 15, _ => mct_127
  | n + 16, h => absurd h (by omega)
theorem mtk_8 (j : Nat) (h : j < 16) : Cond.code (mN (128 + j)) (mB (128 + j)) (mX (128 + j)) (mR (128 + j)) ∈ lw_tbl := match j, h with
  | 0, _ => mct_128
  | 1, _ => mct_129
  | 2, _ => mct_130
  | 3, _ => mct_131
  | 4, _ => mct_132
  | 5, _ => mct_133
  | 6, _ => mct_134
  | 7, _ => mct_135
  | 8, _ => mct_136
  | 9, _ => mct_137
  | 10, _ => mct_138
  | 11, _ => mct_139
  | 12, _ => mct_140
  | 13, _ => mct_141
  | 14, _ => mct_142
  | 15, _ => mct_143
  | n + 16, h => absurd h (by omega)
theorem mtk_9 (j : Nat) (h : j < 16) : Cond.code (mN (144 + j)) (mB (144 + j)) (mX (144 + j)) (mR (144 + j)) ∈ lw_tbl := match j, h with
  | 0, _ => mct_144
  | 1, _ => mct_145
  | 2, _ => mct_146
  | 3, _ => mct_147
  | 4, _ => mct_148
  | 5, _ => mct_149
  | 6, _ => mct_150
  | 7, _ => mct_151
  | 8, _ => mct_152
  | 9, _ => mct_153
  | 10, _ => mct_154
  | 11, _ => mct_155
  | 12, _ => mct_156
  | 13, _ => mct_157
  | 14, _ => mct_158
  | 15, _ => mct_159
  | n + 16, h => absurd h (by omega)
theorem mtk_10 (j : Nat) (h : j < 16) : Cond.code (mN (160 + j)) (mB (160 + j)) (mX (160 + j)) (mR (160 + j)) ∈ lw_tbl := match j, h with
  | 0, _ => mct_160
  | 1, _ => mct_161
  | 2, _ => mct_162
  | 3, _ => mct_163
  | 4, _ => mct_164
  | 5, _ => mct_165
  | 6, _ => mct_166
  | 7, _ => mct_167
  | 8, _ => mct_168
  | 9, _ => mct_169
  | 10, _ => mct_170
  | 11, _ => mct_171
  | 12, _ => mct_172
  | 13, _ => mct_173
  | 14, _ => mct_174
  | 15, _ => mct_175
  | n + 16, h => absurd h (by omega)
theorem mtk_11 (j : Nat) (h : j < 16) : Cond.code (mN (176 + j)) (mB (176 + j)) (mX (176 + j)) (mR (176 + j)) ∈ lw_tbl := match j, h with
  | 0, _ => mct_176
  | 1, _ => mct_177
  | 2, _ => mct_178
  | 3, _ => mct_179
  | 4, _ => mct_180
  | 5, _ => mct_181
  | 6, _ => mct_182
  | 7, _ => mct_183
  | 8, _ => mct_184
  | 9, _ => mct_185
  | 10, _ => mct_186
  | 11, _ => mct_187
  | 12, _ => mct_188
  | 13, _ => mct_189
  | 14, _ => mct_190
  | 15, _ => mct_191
  | n + 16, h => absurd h (by omega)
theorem mtk_12 (j : Nat) (h : j < 12) : Cond.code (mN (192 + j)) (mB (192 + j)) (mX (192 + j)) (mR (192 + j)) ∈ lw_tbl := match j, h with
  | 0, _ => mct_192
  | 1, _ => mct_193
  | 2, _ => mct_194
  | 3, _ => mct_195
  | 4, _ => mct_196
  | 5, _ => mct_197
  | 6, _ => mct_198
  | 7, _ => mct_199
  | 8, _ => mct_200
  | 9, _ => mct_201
  | 10, _ => mct_202
  | 11, _ => mct_203
  | n + 12, h => absurd h (by omega)
theorem mt_chk (M : Nat) (h : M < 204) : Cond.code (mN M) (mB M) (mX M) (mR M) ∈ lw_tbl := by
  have key : ∀ k j, M = k + j → Cond.code (mN (k + j)) (mB (k + j)) (mX (k + j)) (mR (k + j)) ∈ lw_tbl → Cond.code (mN M) (mB M) (mX M) (mR M) ∈ lw_tbl := fun k j e hh => by rw [e]; exact hh
  by_cases h0 : M < 16
  · exact key 0 (M - 0) (by omega) (mtk_0 _ (by omega))
  by_cases h1 : M < 32
  · exact key 16 (M - 16) (by omega) (mtk_1 _ (by omega))
  by_cases h2 : M < 48
  · exact key 32 (M - 32) (by omega) (mtk_2 _ (by omega))
  by_cases h3 : M < 64
  · exact key 48 (M - 48) (by omega) (mtk_3 _ (by omega))
  by_cases h4 : M < 80
  · exact key 64 (M - 64) (by omega) (mtk_4 _ (by omega))
  by_cases h5 : M < 96
  · exact key 80 (M - 80) (by omega) (mtk_5 _ (by omega))
  by_cases h6 : M < 112
  · exact key 96 (M - 96) (by omega) (mtk_6 _ (by omega))
  by_cases h7 : M < 128
  · exact key 112 (M - 112) (by omega) (mtk_7 _ (by omega))
  by_cases h8 : M < 144
  · exact key 128 (M - 128) (by omega) (mtk_8 _ (by omega))
  by_cases h9 : M < 160
  · exact key 144 (M - 144) (by omega) (mtk_9 _ (by omega))
  by_cases h10 : M < 176
  · exact key 160 (M - 160) (by omega) (mtk_10 _ (by omega))
  by_cases h11 : M < 192
  · exact key 176 (M - 176) (by omega) (mtk_11 _ (by omega))
  by_cases h12 : M < 204
  · exact key 192 (M - 192) (by omega) (mtk_12 _ (by omega))
  omega
theorem mg_chk (a : MethodName) (b : ByteArray) (c : Nat) (d : Option FieldType) : goodWord (.code a b c d) = true := rfl
set_option maxRecDepth 100000 in
theorem mA_chk : ∀ M, M < 204 → lw_tbl[pA M]? = some (if mS M = true then .static (mN M) else .instanceMethod (mN M)) ∧ goodWord (if mS M = true then .static (mN M) else .instanceMethod (mN M)) = true := by decide +kernel
set_option maxRecDepth 100000 in
theorem mS_chk : ∀ M, M < 204 → mS M = false → lw_tbl[pS M]? = some (.selects (oN (mC M)) (mN M) (mN M)) ∧ goodWord (.selects (oN (mC M)) (mN M) (mN M)) = true := by decide +kernel
set_option maxRecDepth 100000 in
theorem oI_chk : ∀ oc, oc < 8 → lw_tbl[pI oc]? = some (.initialized (oN oc)) ∧ goodWord (.initialized (oN oc)) = true := by decide +kernel
set_option maxRecDepth 100000 in
theorem mC_chk : ∀ M, M < 205 → mC M < 8 ∧ (mN M).cls = oN (mC M) ∧ mX M ≤ 13 ∧ mV M ≤ 7 := by decide +kernel
set_option maxRecDepth 100000 in
theorem mD_chk : ∀ M, M < 204 → ((mN M).cls ≠ "java/lang/invoke/MethodHandle" ∧ (mN M).cls ≠ "java/lang/invoke/VarHandle" ∧ (parseMethodDescriptor (mN M).desc).map (fun d => d.parameters.length) = some (mA M)) ∧ plainName (mN M).cls = true ∧ (mS M = false → 1 ≤ mC M ∧ mC M ≤ 5) := by decide +kernel
