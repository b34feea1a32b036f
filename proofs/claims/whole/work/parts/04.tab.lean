/-! method table, links, by program out of the printed tables -/
def cnm (o : Nat) : String := ([RX0, RX1, RX2, RX3, RX4, RX5, RX6, RX7, RX8, RJ6, RJ9] : List String).getD o ""
abbrev MR : Type := MethodName × ByteArray × Nat × Option FieldType × Nat × Nat × Nat × Nat
def mr0 : MR := (yX0_init, cX0_init, 0, none, 0, 0, 0, 9)
def MT : List MR := [
  (yX0_init, cX0_init, 2, none, 0, 0, 2, 2),
  (yX0_copy, cX0_copy, 3, none, 0, 1, 2, 1),
  (yX0_ofField, cX0_ofField, 4, (some .int), 0, 1, 1, 1),
  (yX0_findable, cX0_findable, 4, (some .int), 0, 1, 1, 1),
  (yX0_passingEntries, cX0_passingEntries, 4, (some .int), 0, 1, 1, 1),
  (yX0_enteredCount, cX0_enteredCount, 3, (some .int), 0, 0, 1, 1),
  (yX0_isMadeAhead, cX0_isMadeAhead, 5, (some .boolean), 0, 2, 0, 1),
  (yX1_init, cX1_init, 4, none, 1, 3, 2, 2),
  (yX1_open, cX1_open, 5, none, 1, 2, 4, 1),
  (yX1_settle, cX1_settle, 3, none, 1, 2, 3, 1),
  (yX1_isOverturned, cX1_isOverturned, 3, (some .boolean), 1, 2, 2, 1),
  (yX1_isEnteredAhead, cX1_isEnteredAhead, 5, (some .boolean), 1, 2, 1, 1),
  (yX1_countedEntry, cX1_countedEntry, 3, (some .int), 1, 1, 0, 1),
  (yX1_isInnocent, cX1_isInnocent, 4, (some .boolean), 1, 2, 1, 1),
  (yX1_heldBy, cX1_heldBy, 4, (some .int), 1, 2, 4, 1),
  (yX1_madeAheadOf, cX1_madeAheadOf, 5, (some .int), 1, 2, 1, 1),
  (yX1_toldTo, cX1_toldTo, 5, (some .int), 1, 2, 3, 1),
  (yX1_livingThere, cX1_livingThere, 4, (some .int), 1, 1, 1, 1),
  (yX1_enteredUntil, cX1_enteredUntil, 4, (some .int), 1, 1, 2, 1),
  (yX1_isBeaten, cX1_isBeaten, 3, (some .boolean), 1, 2, 0, 1),
  (yX1_firstOf, cX1_firstOf, 5, (some .int), 1, 1, 1, 1),
  (yX1_passingFrom, cX1_passingFrom, 4, (some .int), 1, 1, 1, 1),
  (yX1_debtsOnDocket, cX1_debtsOnDocket, 3, (some .int), 1, 0, 1, 1),
  (yX1_paidAmong, cX1_paidAmong, 4, (some .int), 1, 1, 1, 1),
  (yX1_ringsAmong, cX1_ringsAmong, 7, (some .int), 1, 1, 1, 1),
  (yX2_init, cX2_init, 1, none, 2, 0, 1, 2),
  (yX2_begin, cX2_begin, 6, none, 2, 5, 0, 1),
  (yX2_copy, cX2_copy, 2, none, 2, 1, 1, 1),
  (yX2_isOfKind, cX2_isOfKind, 2, (some .boolean), 2, 1, 0, 1),
  (yX2_passes, cX2_passes, 1, (some .boolean), 2, 0, 0, 1),
  (yX2_isPaid, cX2_isPaid, 1, (some .boolean), 2, 0, 0, 1),
  (yX2_isEntered, cX2_isEntered, 1, (some .boolean), 2, 0, 0, 1),
  (yX2_canBeFound, cX2_canBeFound, 1, (some .boolean), 2, 0, 0, 1),
  (yX2_tell, cX2_tell, 2, (some .int), 2, 1, 0, 1),
  (yX3_init, cX3_init, 1, none, 3, 0, 1, 2),
  (yX3_take, cX3_take, 3, none, 3, 2, 0, 1),
  (yX3_asksEntry, cX3_asksEntry, 1, (some .boolean), 3, 0, 0, 1),
  (yX3_asksKnowing, cX3_asksKnowing, 1, (some .boolean), 3, 0, 0, 1),
  (yX4_init, cX4_init, 1, none, 4, 0, 1, 2),
  (yX4_append, cX4_append, 5, (some .int), 4, 1, 2, 1),
  (yX4_lengthOf, cX4_lengthOf, 5, (some .int), 4, 1, 1, 0),
  (yX4_byteOf, cX4_byteOf, 3, (some .int), 4, 2, 0, 0),
  (yX4_faultPlace, cX4_faultPlace, 3, (some .int), 4, 0, 1, 1),
  (yX4_isLaw, cX4_isLaw, 3, (some .boolean), 4, 0, 1, 1),
  (yX4_stageBehind, cX4_stageBehind, 2, (some .int), 4, 2, 0, 0),
  (yX4_readInto, cX4_readInto, 3, none, 4, 1, 1, 1),
  (yX5_init, cX5_init, 2, none, 5, 1, 1, 2),
  (yX5_run, cX5_run, 9, none, 5, 3, 2, 1),
  (yX5_lastTo, cX5_lastTo, 7, (some .int), 5, 2, 1, 1),
  (yX5_gather, cX5_gather, 5, none, 5, 2, 1, 1),
  (yX6_init, cX6_init, 3, none, 6, 2, 1, 2),
  (yX6_follow, cX6_follow, 4, none, 6, 1, 2, 1),
  (yX6_usedAt, cX6_usedAt, 2, (some .int), 6, 1, 0, 1),
  (yX6_riding, cX6_riding, 5, (some .int), 6, 0, 2, 1),
  (yX6_ranked, cX6_ranked, 6, (some .int), 6, 2, 2, 1),
  (yX6_hangingEntry, cX6_hangingEntry, 8, (some .int), 6, 3, 5, 1),
  (yX6_hangingKnowing, cX6_hangingKnowing, 7, (some .int), 6, 3, 5, 1),
  (yX6_ownerOtherwiseKnowing, cX6_ownerOtherwiseKnowing, 6, (some .int), 6, 3, 4, 1),
  (yX7_init, cX7_init, 2, none, 7, 0, 3, 2),
  (yX7_person, cX7_person, 2, (some .int), 7, 1, 1, 1),
  (yX7_field, cX7_field, 2, (some .int), 7, 1, 1, 1),
  (yX7_deed, cX7_deed, 6, (some .int), 7, 5, 1, 1),
  (yX7_as, cX7_as, 3, (some .int), 7, 2, 1, 1),
  (yX7_about, cX7_about, 3, (some .int), 7, 2, 1, 1),
  (yX7_enter, cX7_enter, 6, (some .int), 7, 4, 2, 1),
  (yX7_leaf, cX7_leaf, 5, (some .int), 7, 2, 1, 1),
  (yX7_knew, cX7_knew, 4, (some .int), 7, 2, 1, 1),
  (yX7_lives, cX7_lives, 5, (some .int), 7, 3, 1, 1),
  (yX7_letters, cX7_letters, 3, (some .int), 7, 1, 3, 1),
  (yX7_blank, cX7_blank, 2, (some .int), 7, 0, 0, 1),
  (yX7_fault, cX7_fault, 1, (some .int), 7, 0, 2, 1),
  (yX7_law, cX7_law, 1, (some .int), 7, 0, 2, 1),
  (yX7_search, cX7_search, 5, (some .int), 7, 4, 3, 1),
  (yX7_held, cX7_held, 3, (some .int), 7, 2, 5, 1),
  (yX7_prevails, cX7_prevails, 5, (some .int), 7, 3, 5, 1),
  (yX7_first, cX7_first, 4, (some .int), 7, 2, 5, 1),
  (yX7_whose, cX7_whose, 4, (some .int), 7, 3, 5, 1),
  (yX7_debts, cX7_debts, 5, (some .int), 7, 3, 5, 1),
  (yX7_rings, cX7_rings, 5, (some .int), 7, 2, 5, 1),
  (yX7_moves, cX7_moves, 5, (some .int), 7, 2, 6, 1),
  (yX7_hangs, cX7_hangs, 5, (some .int), 7, 3, 6, 1),
  (yX7_wild, cX7_wild, 4, (some .int), 7, 1, 3, 1),
  (yX7_lost, cX7_lost, 5, (some .int), 7, 2, 5, 1),
  (yX7_safe, cX7_safe, 4, (some .int), 7, 1, 6, 1),
  (yX7_image, cX7_image, 1, (some .int), 7, 0, 3, 1),
  (yX7_restore, cX7_restore, 1, (some .int), 7, 0, 3, 1),
  (yX7_count, cX7_count, 2, (some .int), 7, 1, 3, 1),
  (yX7_digest, cX7_digest, 5, (some .long), 7, 0, 6, 1),
  (yX7_mixedWithLaw, cX7_mixedWithLaw, 7, (some .long), 7, 2, 5, 1),
  (yX7_tally, cX7_tally, 2, (some .int), 7, 1, 2, 1),
  (yX7_ownerBy, cX7_ownerBy, 3, (some .int), 7, 2, 5, 1),
  (yX7_nameOf, cX7_nameOf, 2, (some .int), 7, 1, 1, 1),
  (yX7_isPerson, cX7_isPerson, 2, (some .boolean), 7, 1, 0, 1),
  (yX7_isField, cX7_isField, 2, (some .boolean), 7, 1, 0, 1),
  (yX7_isDeed, cX7_isDeed, 2, (some .boolean), 7, 1, 0, 1),
  (yX7_isLaw, cX7_isLaw, 2, (some .boolean), 7, 1, 0, 1),
  (yX7_isWrittenName, cX7_isWrittenName, 1, (some .boolean), 7, 1, 1, 0),
  (yX7_isPlace, cX7_isPlace, 1, (some .boolean), 7, 1, 0, 0),
  (yX7_isWithin, cX7_isWithin, 2, (some .boolean), 7, 2, 0, 0),
  (yX7_mixed, cX7_mixed, 3, (some .long), 7, 2, 0, 0),
  (yX7_bit, cX7_bit, 1, (some .int), 7, 1, 0, 0),
  (yX7_has, cX7_has, 2, (some .boolean), 7, 2, 0, 0),
  (yX7_lowest, cX7_lowest, 1, (some .int), 7, 1, 1, 0),
  (yX8_init, cX8_init, 1, none, 8, 0, 1, 2),
  (yX8_in, cX8_in, 6, (some .boolean), 8, 3, 0, 0),
  (yX8_has, cX8_has, 2, (some .boolean), 8, 2, 0, 0),
  (yX8_bitsOf, cX8_bitsOf, 3, (some .int), 8, 1, 0, 0),
  (yX8_person, cX8_person, 2, (some .int), 8, 1, 1, 1),
  (yX8_isPerson, cX8_isPerson, 2, (some .boolean), 8, 1, 1, 1),
  (yX8_field, cX8_field, 2, (some .int), 8, 1, 2, 1),
  (yX8_isField, cX8_isField, 2, (some .boolean), 8, 1, 1, 1),
  (yX8_isDay, cX8_isDay, 1, (some .boolean), 8, 1, 1, 0),
  (yX8_lives, cX8_lives, 5, (some .int), 8, 3, 2, 1),
  (yX8_told, cX8_told, 3, (some .int), 8, 2, 0, 1),
  (yX8_deed, cX8_deed, 7, (some .int), 8, 5, 2, 1),
  (yX8_isDeed, cX8_isDeed, 2, (some .boolean), 8, 1, 1, 1),
  (yX8_as, cX8_as, 4, (some .int), 8, 2, 2, 1),
  (yX8_about, cX8_about, 3, (some .int), 8, 2, 2, 1),
  (yX8_isName, cX8_isName, 1, (some .boolean), 8, 1, 1, 0),
  (yX8_enter, cX8_enter, 5, (some .int), 8, 4, 2, 1),
  (yX8_leaf, cX8_leaf, 4, (some .int), 8, 2, 2, 1),
  (yX8_knew, cX8_knew, 4, (some .int), 8, 2, 2, 1),
  (yX8_letters, cX8_letters, 9, (some .int), 8, 1, 0, 1),
  (yX8_blank, cX8_blank, 2, (some .int), 8, 0, 0, 1),
  (yX8_go, cX8_go, 4, (some .boolean), 8, 1, 1, 1),
  (yX8_faultOf, cX8_faultOf, 2, (some .int), 8, 0, 2, 1),
  (yX8_fault, cX8_fault, 1, (some .int), 8, 0, 3, 1),
  (yX8_law, cX8_law, 1, (some .int), 8, 0, 3, 1),
  (yX8_isLaw, cX8_isLaw, 2, (some .boolean), 8, 1, 1, 1),
  (yX8_passes, cX8_passes, 2, (some .boolean), 8, 1, 1, 1),
  (yX8_canBeFound, cX8_canBeFound, 2, (some .boolean), 8, 1, 1, 1),
  (yX8_lastUnder, cX8_lastUnder, 8, (some .int), 8, 4, 2, 1),
  (yX8_foundUnder, cX8_foundUnder, 8, (some .int), 8, 4, 2, 1),
  (yX8_searchOf, cX8_searchOf, 9, (some .int), 8, 3, 3, 1),
  (yX8_search, cX8_search, 6, (some .int), 8, 4, 4, 1),
  (yX8_isAhead, cX8_isAhead, 3, (some .boolean), 8, 2, 1, 1),
  (yX8_heldOf, cX8_heldOf, 8, (some .int), 8, 2, 4, 1),
  (yX8_take, cX8_take, 3, none, 8, 1, 5, 1),
  (yX8_held, cX8_held, 3, (some .int), 8, 2, 5, 1),
  (yX8_entered, cX8_entered, 3, (some .int), 8, 1, 1, 1),
  (yX8_isPaid, cX8_isPaid, 3, (some .boolean), 8, 1, 1, 1),
  (yX8_laterPrevails, cX8_laterPrevails, 8, (some .boolean), 8, 2, 2, 1),
  (yX8_prevailsOver, cX8_prevailsOver, 3, (some .boolean), 8, 2, 3, 1),
  (yX8_prevails, cX8_prevails, 4, (some .int), 8, 3, 6, 1),
  (yX8_firstOf, cX8_firstOf, 7, (some .int), 8, 1, 4, 1),
  (yX8_first, cX8_first, 6, (some .int), 8, 2, 6, 1),
  (yX8_fromOwner, cX8_fromOwner, 7, (some .int), 8, 3, 2, 1),
  (yX8_ownerOf, cX8_ownerOf, 6, (some .int), 8, 1, 5, 1),
  (yX8_whose, cX8_whose, 5, (some .int), 8, 3, 6, 1),
  (yX8_riding, cX8_riding, 7, (some .int), 8, 1, 6, 1),
  (yX8_debts, cX8_debts, 6, (some .int), 8, 3, 7, 1),
  (yX8_isBeaten, cX8_isBeaten, 4, (some .boolean), 8, 3, 4, 1),
  (yX8_rings, cX8_rings, 8, (some .int), 8, 2, 6, 1),
  (yX8_moves, cX8_moves, 6, (some .int), 8, 2, 6, 1),
  (yX8_byEntry, cX8_byEntry, 7, (some .int), 8, 2, 6, 1),
  (yX8_byKnowing, cX8_byKnowing, 9, (some .int), 8, 2, 6, 1),
  (yX8_hangs, cX8_hangs, 5, (some .int), 8, 3, 7, 1),
  (yX8_wild, cX8_wild, 6, (some .int), 8, 1, 4, 1),
  (yX8_lost, cX8_lost, 6, (some .int), 8, 2, 6, 1),
  (yX8_safe, cX8_safe, 4, (some .int), 8, 1, 7, 1),
  (yX8_image, cX8_image, 2, (some .int), 8, 0, 0, 1),
  (yX8_restore, cX8_restore, 2, (some .int), 8, 0, 0, 1),
  (yX8_countOf, cX8_countOf, 4, (some .int), 8, 1, 1, 1),
  (yX8_count, cX8_count, 2, (some .int), 8, 1, 2, 1),
  (yX8_tell, cX8_tell, 3, none, 8, 1, 0, 1),
  (yX8_tellLaw, cX8_tellLaw, 3, none, 8, 1, 7, 1),
  (yX8_digest, cX8_digest, 3, (some .long), 8, 0, 8, 1),
  (yJ6_numberOfTrailingZeros_0f7a4, cJ6_numberOfTrailingZeros_0f7a4, 2, (some .int), 9, 1, 0, 0),
  (yJ6_bitCount_0f7a4, cJ6_bitCount_0f7a4, 1, (some .int), 9, 1, 0, 0),
  (yJ9_min_7cf53, cJ9_min_7cf53, 2, (some .int), 10, 2, 0, 0)]
def mr (k : Nat) : MR := MT.getD k mr0
def my (k : Nat) : MethodName := (mr k).1
def mb (k : Nat) : ByteArray := (mr k).2.1
def mL (k : Nat) : Nat := (mr k).2.2.1
def mret (k : Nat) : Option FieldType := (mr k).2.2.2.1
def mo (k : Nat) : Nat := (mr k).2.2.2.2.1
def mnp (k : Nat) : Nat := (mr k).2.2.2.2.2.1
def mdp (k : Nat) : Nat := (mr k).2.2.2.2.2.2.1
def mkd (k : Nat) : Nat := (mr k).2.2.2.2.2.2.2
/-- rows (own class, index, class, slot, place of the word) -/
def flT : List (Nat × Nat × Nat × Nat × Nat) := [(3, 9, 3, 0, 112), (3, 15, 3, 1, 113), (1, 128, 3, 1, 114), (3, 21, 3, 2, 115), (1, 122, 3, 2, 116), (3, 25, 3, 3, 117), (1, 106, 3, 3, 118), (3, 18, 3, 4, 119), (1, 103, 3, 4, 120), (4, 11, 4, 0, 139), (7, 282, 4, 0, 140), (4, 19, 4, 1, 141), (7, 154, 4, 1, 142), (2, 21, 2, 0, 161), (2, 24, 2, 1, 162), (0, 33, 2, 1, 163), (6, 84, 2, 1, 164), (1, 116, 2, 1, 165), (7, 188, 2, 1, 166), (2, 27, 2, 2, 167), (6, 66, 2, 2, 168), (7, 121, 2, 2, 169), (1, 134, 2, 2, 170), (2, 30, 2, 3, 171), (6, 54, 2, 3, 172), (7, 130, 2, 3, 173), (1, 149, 2, 3, 174), (2, 33, 2, 4, 175), (1, 100, 2, 4, 176), (0, 50, 2, 4, 177), (7, 108, 2, 4, 178), (2, 9, 2, 5, 179), (5, 41, 2, 5, 180), (1, 95, 2, 5, 181), (6, 91, 2, 5, 182), (7, 118, 2, 5, 183), (2, 15, 2, 6, 184), (5, 53, 2, 6, 185), (7, 127, 2, 6, 186), (2, 18, 2, 7, 187), (5, 67, 2, 7, 188), (7, 133, 2, 7, 189), (2, 36, 2, 8, 190), (7, 136, 2, 8, 191), (2, 40, 2, 9, 192), (1, 113, 2, 9, 193), (6, 101, 2, 9, 194), (7, 141, 2, 9, 195), (0, 11, 0, 0, 217), (5, 37, 0, 0, 218), (6, 48, 0, 0, 219), (7, 88, 0, 0, 220), (1, 87, 0, 0, 221), (0, 18, 0, 1, 222), (7, 144, 0, 1, 223), (1, 152, 0, 1, 224), (0, 22, 0, 2, 225), (7, 147, 0, 2, 226), (1, 146, 0, 2, 227), (0, 25, 0, 3, 228), (1, 49, 0, 3, 229), (5, 56, 0, 3, 230), (6, 63, 0, 3, 231), (7, 85, 0, 3, 232), (5, 9, 5, 0, 248), (5, 21, 5, 1, 249), (5, 24, 5, 2, 250), (1, 143, 5, 2, 251), (7, 173, 5, 2, 252), (5, 27, 5, 3, 253), (7, 176, 5, 3, 254), (5, 30, 5, 4, 255), (7, 179, 5, 4, 256), (1, 9, 1, 0, 276), (1, 15, 1, 1, 277), (1, 19, 1, 2, 278), (1, 23, 1, 3, 279), (6, 94, 1, 3, 280), (1, 26, 1, 4, 281), (1, 29, 1, 5, 282), (1, 35, 1, 6, 283), (1, 45, 1, 7, 284), (6, 9, 6, 0, 308), (6, 15, 6, 1, 309), (6, 19, 6, 2, 310), (6, 23, 6, 3, 311), (7, 217, 6, 3, 312), (6, 31, 6, 4, 313), (6, 34, 6, 5, 314), (7, 260, 6, 5, 315), (6, 37, 6, 6, 316), (7, 220, 6, 6, 317), (7, 9, 7, 0, 333), (7, 13, 7, 1, 334), (7, 18, 7, 2, 335), (7, 26, 7, 3, 336), (7, 33, 7, 4, 337), (7, 37, 7, 5, 338), (7, 45, 7, 6, 339), (7, 54, 7, 7, 340), (7, 63, 7, 8, 341), (7, 71, 7, 9, 342), (7, 79, 7, 10, 343), (7, 162, 7, 11, 344), (7, 266, 7, 12, 345), (8, 69, 8, 0, 786), (8, 7, 8, 1, 787), (8, 76, 8, 2, 788), (8, 13, 8, 3, 789), (8, 16, 8, 4, 790), (8, 19, 8, 5, 791), (8, 89, 8, 6, 792), (8, 22, 8, 7, 793), (8, 25, 8, 8, 794), (8, 108, 8, 9, 795), (8, 141, 8, 10, 796), (8, 28, 8, 11, 797), (8, 31, 8, 12, 798), (8, 34, 8, 13, 799), (8, 38, 8, 14, 800), (8, 41, 8, 15, 801), (8, 111, 8, 16, 802), (8, 114, 8, 17, 803), (8, 117, 8, 18, 804), (8, 120, 8, 19, 805), (8, 124, 8, 20, 806), (8, 127, 8, 21, 807), (8, 154, 8, 22, 808), (8, 164, 8, 23, 809), (8, 176, 8, 24, 810), (8, 44, 8, 25, 811), (8, 47, 8, 26, 812), (8, 206, 8, 27, 813), (8, 229, 8, 28, 814), (8, 50, 8, 29, 815), (8, 53, 8, 30, 816), (8, 56, 8, 31, 817), (8, 238, 8, 32, 818), (8, 59, 8, 33, 819), (8, 246, 8, 34, 820)]
def mlT : List (Nat × Nat × Nat × Nat) := [(7, 22, 34, 108), (7, 25, 38, 135), (7, 32, 0, 150), (0, 17, 25, 157), (7, 42, 46, 244), (7, 51, 7, 270), (1, 34, 34, 275), (7, 60, 50, 304), (7, 67, 98, 377), (7, 75, 92, 384), (7, 82, 93, 392), (7, 92, 26, 396), (7, 98, 94, 404), (7, 101, 28, 408), (7, 104, 33, 416), (7, 111, 96, 424), (7, 114, 31, 427), (7, 124, 91, 431), (7, 150, 39, 452), (4, 15, 40, 456), (4, 23, 41, 459), (7, 155, 42, 470), (4, 27, 44, 474), (7, 159, 43, 481), (7, 165, 45, 485), (4, 31, 35, 489), (7, 169, 47, 497), (5, 15, 3, 501), (0, 40, 32, 505), (0, 36, 100, 509), (5, 33, 48, 512), (5, 59, 101, 516), (5, 63, 29, 519), (5, 46, 49, 523), (5, 50, 100, 527), (7, 182, 95, 532), (7, 184, 14, 536), (1, 39, 2, 540), (1, 56, 15, 544), (1, 52, 101, 548), (1, 119, 6, 549), (1, 75, 100, 553), (1, 64, 16, 554), (1, 125, 17, 558), (1, 131, 18, 562), (1, 155, 3, 566), (1, 137, 47, 567), (7, 191, 8, 572), (1, 60, 37, 576), (1, 68, 9, 580), (1, 72, 10, 584), (1, 78, 36, 588), (1, 81, 11, 592), (1, 91, 12, 596), (1, 84, 13, 600), (1, 110, 30, 604), (7, 195, 100, 608), (7, 198, 19, 609), (7, 201, 102, 617), (7, 290, 167, 620), (7, 293, 169, 624), (7, 204, 2, 627), (7, 207, 20, 628), (1, 158, 19, 632), (7, 210, 97, 637), (7, 213, 51, 640), (6, 27, 100, 644), (6, 40, 21, 645), (1, 161, 29, 649), (6, 45, 20, 650), (7, 223, 52, 651), (7, 226, 53, 659), (6, 59, 22, 663), (6, 69, 101, 667), (6, 73, 19, 668), (7, 229, 168, 669), (7, 234, 54, 675), (7, 238, 21, 683), (7, 241, 24, 684), (7, 244, 90, 692), (7, 247, 55, 700), (6, 76, 8, 704), (6, 80, 51, 705), (6, 87, 31, 706), (7, 251, 56, 707), (6, 97, 57, 711), (6, 104, 9, 715), (7, 254, 4, 720), (0, 44, 29, 724), (0, 47, 31, 725), (7, 257, 23, 730), (7, 263, 1, 742), (0, 29, 27, 746), (2, 43, 26, 750), (7, 269, 89, 759), (7, 285, 5, 763), (7, 274, 99, 772), (7, 278, 88, 776), (8, 65, 104, 898), (8, 72, 108, 905), (8, 81, 110, 913), (8, 84, 111, 917), (8, 92, 115, 930), (8, 95, 113, 934), (8, 101, 118, 946), (8, 137, 125, 972), (8, 134, 124, 976), (8, 169, 133, 991), (8, 157, 131, 995), (8, 144, 129, 999), (8, 147, 130, 1003), (8, 150, 105, 1007), (8, 161, 132, 1010), (8, 182, 128, 1018), (8, 179, 136, 1022), (8, 173, 135, 1026), (8, 196, 137, 1034), (8, 200, 142, 1038), (8, 193, 141, 1042), (8, 186, 139, 1046), (8, 190, 140, 1051), (8, 203, 144, 1059), (8, 216, 147, 1069), (8, 209, 146, 1073), (8, 219, 149, 1081), (8, 222, 106, 1085), (8, 225, 151, 1092), (8, 232, 154, 1104), (8, 235, 155, 1108), (8, 241, 162, 1136), (8, 250, 164, 1145), (8, 256, 165, 1150)]
def olT : List (Nat × Nat × Nat) := [(7, 1, 102), (3, 3, 111), (4, 5, 138), (0, 3, 153), (2, 3, 160), (5, 3, 247), (1, 3, 273), (6, 3, 307), (8, 1, 785)]
def clT : List (Nat × Nat × Nat × Nat) := [(7, 16, 3, 105), (7, 23, 4, 133), (7, 30, 0, 148), (0, 9, 2, 154), (7, 40, 5, 242), (7, 49, 1, 268), (1, 32, 3, 274), (7, 58, 6, 302)]
def kcT : List (Nat × Nat × Int32 × Nat) := [(7, 140, 65535, 443), (9, 264, 65536, 623), (9, 265, 1431655765, 672), (9, 266, 858993459, 673), (9, 267, 252645135, 674), (8, 185, 100000, 1050)]
def klT : List (Nat × Nat × Int64 × Nat) := [(7, 272, 367, 771), (7, 288, 31, 775), (8, 63, 9, 897), (8, 79, 999, 920), (8, 87, 4, 925), (8, 99, -1, 949), (8, 104, 65535, 958), (8, 106, 255, 963), (8, 130, 48, 980), (8, 132, 57, 981), (8, 167, 2, 990), (8, 212, 10, 1067), (8, 214, 25, 1068), (8, 254, 367, 1144), (8, 244, 31, 1149)]
def mpT : List (Nat × Nat × Nat × Nat) := [(152, 151, 0, 89), (745, 744, 51, 89), (543, 542, 21, 89), (504, 503, 14, 89), (723, 722, 49, 89), (766, 765, 54, 89), (552, 551, 23, 89), (272, 271, 0, 92), (575, 574, 27, 92), (583, 582, 29, 92), (587, 586, 30, 92), (595, 594, 32, 92), (599, 598, 33, 92), (603, 602, 34, 92), (539, 538, 20, 92), (547, 546, 22, 92), (557, 556, 24, 92), (561, 560, 25, 92), (565, 564, 26, 92), (612, 611, 36, 92), (631, 630, 37, 92), (648, 647, 39, 92), (666, 665, 42, 92), (733, 732, 50, 92), (687, 686, 44, 92), (159, 158, 0, 90), (399, 398, 2, 90), (749, 748, 52, 90), (411, 410, 4, 90), (522, 521, 17, 90), (607, 606, 35, 90), (430, 429, 6, 90), (508, 507, 15, 90), (419, 418, 5, 90), (110, 109, 0, 87), (492, 491, 12, 87), (591, 590, 31, 87), (579, 578, 28, 87), (137, 136, 0, 88), (455, 454, 8, 88), (458, 457, 0, 88), (461, 460, 0, 88), (473, 472, 9, 88), (484, 483, 10, 88), (476, 475, 0, 88), (488, 487, 11, 88), (246, 245, 0, 91), (500, 499, 13, 91), (515, 514, 16, 91), (526, 525, 18, 91), (306, 305, 0, 93), (643, 642, 38, 93), (654, 653, 40, 93), (662, 661, 41, 93), (678, 677, 43, 93), (703, 702, 46, 93), (710, 709, 47, 93), (714, 713, 48, 93), (101, 100, 0, 86), (376, 374, 375, 86), (383, 381, 382, 86), (391, 389, 390, 86), (403, 401, 402, 86), (415, 413, 414, 86), (423, 421, 422, 86), (438, 436, 437, 86), (442, 440, 441, 86), (447, 445, 446, 86), (451, 449, 450, 86), (465, 463, 464, 86), (469, 467, 468, 86), (480, 478, 479, 86), (496, 494, 495, 86), (531, 529, 530, 86), (571, 569, 570, 86), (616, 614, 615, 86), (636, 634, 635, 86), (658, 656, 657, 86), (682, 680, 681, 86), (691, 689, 690, 86), (699, 697, 698, 86), (719, 717, 718, 86), (729, 727, 728, 86), (737, 735, 736, 86), (741, 739, 740, 86), (754, 752, 753, 86), (758, 756, 757, 86), (770, 768, 769, 86), (779, 778, 55, 86), (762, 761, 53, 86), (695, 694, 45, 86), (434, 433, 7, 86), (387, 386, 0, 86), (395, 394, 1, 86), (407, 406, 3, 86), (535, 534, 19, 86), (426, 425, 0, 86), (639, 638, 0, 86), (379, 378, 0, 86), (774, 773, 0, 86), (511, 510, 0, 86), (518, 517, 0, 86), (619, 618, 0, 86), (784, 783, 0, 94), (900, 899, 0, 94), (1009, 1008, 0, 94), (1087, 1086, 0, 94), (896, 894, 895, 94), (908, 907, 56, 94), (904, 902, 903, 94), (916, 915, 57, 94), (919, 918, 0, 94), (912, 910, 911, 94), (937, 936, 59, 94), (924, 922, 923, 94), (933, 932, 58, 94), (929, 927, 928, 94), (941, 939, 940, 94), (948, 947, 0, 94), (945, 943, 944, 94), (953, 951, 952, 94), (957, 955, 956, 94), (962, 960, 961, 94), (967, 965, 966, 94), (979, 978, 61, 94), (975, 974, 60, 94), (971, 969, 970, 94), (985, 983, 984, 94), (1021, 1020, 67, 94), (1002, 1001, 64, 94), (1006, 1005, 65, 94), (998, 997, 63, 94), (1013, 1012, 66, 94), (994, 993, 62, 94), (989, 987, 988, 94), (1029, 1028, 69, 94), (1025, 1024, 68, 94), (1037, 1036, 70, 94), (1017, 1015, 1016, 94), (1049, 1048, 73, 94), (1054, 1053, 74, 94), (1045, 1044, 72, 94), (1041, 1040, 71, 94), (1033, 1031, 1032, 94), (1062, 1061, 75, 94), (1058, 1056, 1057, 94), (1076, 1075, 77, 94), (1072, 1071, 76, 94), (1066, 1064, 1065, 94), (1084, 1083, 78, 94), (1080, 1078, 1079, 94), (1095, 1094, 79, 94), (1091, 1089, 1090, 94), (1099, 1097, 1098, 94), (1107, 1106, 80, 94), (1111, 1110, 81, 94), (1103, 1101, 1102, 94), (1115, 1113, 1114, 94), (1119, 1117, 1118, 94), (1123, 1121, 1122, 94), (1127, 1125, 1126, 94), (1131, 1129, 1130, 94), (1139, 1138, 82, 94), (1135, 1133, 1134, 94), (1148, 1147, 83, 94), (1153, 1152, 84, 94), (1143, 1141, 1142, 94), (622, 621, 0, 95), (671, 670, 0, 95), (626, 625, 0, 96)]
def tw (p : Nat) : Option Cond := lw_tbl[p]?
theorem tw_mem {p : Nat} {w : Cond} (h : tw p = some w) : w ∈ lw_tbl := List.mem_of_getElem? h
def cT (ci : Nat) : u_T := (vwCl.getD ci (RX0, TX0, 4)).2.1
def cN (ci : Nat) : Nat := (vwCl.getD ci (RX0, TX0, 4)).2.2
def cTy (ci : Nat) : Nat → FieldType := ([tyX0, tyX1, tyX2, tyX3, tyX4, tyX5, tyX6, tyX7, tyX8] : List (Nat → FieldType)).getD ci tyX0
def flP (r : Nat × Nat × Nat × Nat × Nat) : Prop := r.2.2.1 < 9 ∧ r.2.2.2.1 < cN r.2.2.1 ∧ (tw r.2.2.2.2 = some (.fieldLink (cnm r.1) r.2.1 (cT r.2.2.1 r.2.2.2.1).1 (cT r.2.2.1 r.2.2.2.1).2.1 (cT r.2.2.1 r.2.2.2.1).2.2.1) ∨ tw r.2.2.2.2 = some (.fieldLinkNest (cnm r.1) r.2.1 (cT r.2.2.1 r.2.2.2.1).1 (cT r.2.2.1 r.2.2.2.1).2.1 (cT r.2.2.1 r.2.2.2.1).2.2.1 "OughtKnown"))
def mlP (r : Nat × Nat × Nat × Nat) : Prop := r.2.2.1 < 170 ∧ (tw r.2.2.2 = some (.methodLink (cnm r.1) r.2.1 (my r.2.2.1)) ∨ tw r.2.2.2 = some (.methodLinkNest (cnm r.1) r.2.1 (my r.2.2.1) "OughtKnown"))
def olP (r : Nat × Nat × Nat) : Prop := tw r.2.2 = some (.methodLink (cnm r.1) r.2.1 objectInit)
def clP (r : Nat × Nat × Nat × Nat) : Prop := r.2.2.1 < 9 ∧ tw r.2.2.2 = some (.classLink (cnm r.1) r.2.1 (cnm r.2.2.1))
def kcP (r : Nat × Nat × Int32 × Nat) : Prop := tw r.2.2.2 = some (.constant (cnm r.1) r.2.1 r.2.2.1)
def klP (r : Nat × Nat × Int64 × Nat) : Prop := tw r.2.2.2 = some (.constantLong (cnm r.1) r.2.1 r.2.2.1)
def mp (k : Nat) : Nat × Nat × Nat × Nat := mpT.getD k (0, 0, 0, 0)
def mcP (k : Nat) : Prop := tw (mp k).1 = some (.code (my k) (mb k) (mL k) (mret k))
def moP (k : Nat) : Prop := (mkd k = 0 → tw (mp k).2.1 = some (.static (my k))) ∧ (mkd k = 1 → tw (mp k).2.1 = some (.instanceMethod (my k)) ∧ tw (mp k).2.2.1 = some (.selects (my k).cls (my k) (my k)) ∧ mo k < 9) ∧ (mkd k = 2 → tw (mp k).2.1 = some (.instanceMethod (my k)) ∧ (my k).name = "<init>" ∧ mret k = none) ∧ tw (mp k).2.2.2 = some (.initialized (my k).cls) ∧ (my k).cls = cnm (mo k) ∧ plainName (my k).cls = true ∧ ((my k).cls ≠ "java/lang/invoke/MethodHandle" ∧ (my k).cls ≠ "java/lang/invoke/VarHandle") ∧ (parseMethodDescriptor (my k).desc).map (fun d => d.parameters.length) = some (mnp k) ∧ mL k ≤ 20
set_option maxRecDepth 100000 in
theorem flT_ok : ∀ r ∈ flT, flP r := by unfold flP; decide +kernel
set_option maxRecDepth 100000 in
theorem mlT_ok : ∀ r ∈ mlT, mlP r := by unfold mlP; decide +kernel
set_option maxRecDepth 100000 in
theorem olT_ok : ∀ r ∈ olT, olP r := by unfold olP; decide +kernel
set_option maxRecDepth 100000 in
theorem clT_ok : ∀ r ∈ clT, clP r := by unfold clP; decide +kernel
set_option maxRecDepth 100000 in
theorem kcT_ok : ∀ r ∈ kcT, kcP r := by unfold kcP; decide +kernel
set_option maxRecDepth 100000 in
theorem klT_ok : ∀ r ∈ klT, klP r := by unfold klP; decide +kernel
set_option maxRecDepth 100000 in
theorem mc_0 : mcP 0 := rfl
set_option maxRecDepth 100000 in
theorem mo_0 : moP 0 := by unfold moP; decide +kernel
set_option maxRecDepth 100000 in
theorem mc_1 : mcP 1 := rfl
set_option maxRecDepth 100000 in
theorem mo_1 : moP 1 := by unfold moP; decide +kernel
set_option maxRecDepth 100000 in
theorem mc_2 : mcP 2 := rfl
set_option maxRecDepth 100000 in
theorem mo_2 : moP 2 := by unfold moP; decide +kernel
set_option maxRecDepth 100000 in
theorem mc_3 : mcP 3 := rfl
set_option maxRecDepth 100000 in
theorem mo_3 : moP 3 := by unfold moP; decide +kernel
set_option maxRecDepth 100000 in
theorem mc_4 : mcP 4 := rfl
set_option maxRecDepth 100000 in
theorem mo_4 : moP 4 := by unfold moP; decide +kernel
set_option maxRecDepth 100000 in
theorem mc_5 : mcP 5 := rfl
set_option maxRecDepth 100000 in
theorem mo_5 : moP 5 := by unfold moP; decide +kernel
set_option maxRecDepth 100000 in
theorem mc_6 : mcP 6 := rfl
set_option maxRecDepth 100000 in
theorem mo_6 : moP 6 := by unfold moP; decide +kernel
set_option maxRecDepth 100000 in
theorem mc_7 : mcP 7 := rfl
set_option maxRecDepth 100000 in
theorem mo_7 : moP 7 := by unfold moP; decide +kernel
set_option maxRecDepth 100000 in
theorem mc_8 : mcP 8 := rfl
set_option maxRecDepth 100000 in
theorem mo_8 : moP 8 := by unfold moP; decide +kernel
set_option maxRecDepth 100000 in
theorem mc_9 : mcP 9 := rfl
set_option maxRecDepth 100000 in
theorem mo_9 : moP 9 := by unfold moP; decide +kernel
set_option maxRecDepth 100000 in
theorem mc_10 : mcP 10 := rfl
set_option maxRecDepth 100000 in
theorem mo_10 : moP 10 := by unfold moP; decide +kernel
set_option maxRecDepth 100000 in
theorem mc_11 : mcP 11 := rfl
set_option maxRecDepth 100000 in
theorem mo_11 : moP 11 := by unfold moP; decide +kernel
set_option maxRecDepth 100000 in
theorem mc_12 : mcP 12 := rfl
set_option maxRecDepth 100000 in
theorem mo_12 : moP 12 := by unfold moP; decide +kernel
set_option maxRecDepth 100000 in
theorem mc_13 : mcP 13 := rfl
set_option maxRecDepth 100000 in
theorem mo_13 : moP 13 := by unfold moP; decide +kernel
set_option maxRecDepth 100000 in
theorem mc_14 : mcP 14 := rfl
set_option maxRecDepth 100000 in
theorem mo_14 : moP 14 := by unfold moP; decide +kernel
set_option maxRecDepth 100000 in
theorem mc_15 : mcP 15 := rfl
set_option maxRecDepth 100000 in
theorem mo_15 : moP 15 := by unfold moP; decide +kernel
set_option maxRecDepth 100000 in
theorem mc_16 : mcP 16 := rfl
set_option maxRecDepth 100000 in
theorem mo_16 : moP 16 := by unfold moP; decide +kernel
set_option maxRecDepth 100000 in
theorem mc_17 : mcP 17 := rfl
set_option maxRecDepth 100000 in
theorem mo_17 : moP 17 := by unfold moP; decide +kernel
set_option maxRecDepth 100000 in
theorem mc_18 : mcP 18 := rfl
set_option maxRecDepth 100000 in
theorem mo_18 : moP 18 := by unfold moP; decide +kernel
set_option maxRecDepth 100000 in
theorem mc_19 : mcP 19 := rfl
set_option maxRecDepth 100000 in
theorem mo_19 : moP 19 := by unfold moP; decide +kernel
set_option maxRecDepth 100000 in
theorem mc_20 : mcP 20 := rfl
set_option maxRecDepth 100000 in
theorem mo_20 : moP 20 := by unfold moP; decide +kernel
set_option maxRecDepth 100000 in
theorem mc_21 : mcP 21 := rfl
set_option maxRecDepth 100000 in
theorem mo_21 : moP 21 := by unfold moP; decide +kernel
set_option maxRecDepth 100000 in
theorem mc_22 : mcP 22 := rfl
set_option maxRecDepth 100000 in
theorem mo_22 : moP 22 := by unfold moP; decide +kernel
set_option maxRecDepth 100000 in
theorem mc_23 : mcP 23 := rfl
set_option maxRecDepth 100000 in
theorem mo_23 : moP 23 := by unfold moP; decide +kernel
set_option maxRecDepth 100000 in
theorem mc_24 : mcP 24 := rfl
set_option maxRecDepth 100000 in
theorem mo_24 : moP 24 := by unfold moP; decide +kernel
set_option maxRecDepth 100000 in
theorem mc_25 : mcP 25 := rfl
set_option maxRecDepth 100000 in
theorem mo_25 : moP 25 := by unfold moP; decide +kernel
set_option maxRecDepth 100000 in
theorem mc_26 : mcP 26 := rfl
set_option maxRecDepth 100000 in
theorem mo_26 : moP 26 := by unfold moP; decide +kernel
set_option maxRecDepth 100000 in
theorem mc_27 : mcP 27 := rfl
set_option maxRecDepth 100000 in
theorem mo_27 : moP 27 := by unfold moP; decide +kernel
set_option maxRecDepth 100000 in
theorem mc_28 : mcP 28 := rfl
set_option maxRecDepth 100000 in
theorem mo_28 : moP 28 := by unfold moP; decide +kernel
set_option maxRecDepth 100000 in
theorem mc_29 : mcP 29 := rfl
set_option maxRecDepth 100000 in
theorem mo_29 : moP 29 := by unfold moP; decide +kernel
set_option maxRecDepth 100000 in
theorem mc_30 : mcP 30 := rfl
set_option maxRecDepth 100000 in
theorem mo_30 : moP 30 := by unfold moP; decide +kernel
set_option maxRecDepth 100000 in
theorem mc_31 : mcP 31 := rfl
set_option maxRecDepth 100000 in
theorem mo_31 : moP 31 := by unfold moP; decide +kernel
set_option maxRecDepth 100000 in
theorem mc_32 : mcP 32 := rfl
set_option maxRecDepth 100000 in
theorem mo_32 : moP 32 := by unfold moP; decide +kernel
set_option maxRecDepth 100000 in
theorem mc_33 : mcP 33 := rfl
set_option maxRecDepth 100000 in
theorem mo_33 : moP 33 := by unfold moP; decide +kernel
set_option maxRecDepth 100000 in
theorem mc_34 : mcP 34 := rfl
set_option maxRecDepth 100000 in
theorem mo_34 : moP 34 := by unfold moP; decide +kernel
set_option maxRecDepth 100000 in
theorem mc_35 : mcP 35 := rfl
set_option maxRecDepth 100000 in
theorem mo_35 : moP 35 := by unfold moP; decide +kernel
set_option maxRecDepth 100000 in
theorem mc_36 : mcP 36 := rfl
set_option maxRecDepth 100000 in
theorem mo_36 : moP 36 := by unfold moP; decide +kernel
set_option maxRecDepth 100000 in
theorem mc_37 : mcP 37 := rfl
set_option maxRecDepth 100000 in
theorem mo_37 : moP 37 := by unfold moP; decide +kernel
set_option maxRecDepth 100000 in
theorem mc_38 : mcP 38 := rfl
set_option maxRecDepth 100000 in
theorem mo_38 : moP 38 := by unfold moP; decide +kernel
set_option maxRecDepth 100000 in
theorem mc_39 : mcP 39 := rfl
set_option maxRecDepth 100000 in
theorem mo_39 : moP 39 := by unfold moP; decide +kernel
set_option maxRecDepth 100000 in
theorem mc_40 : mcP 40 := rfl
set_option maxRecDepth 100000 in
theorem mo_40 : moP 40 := by unfold moP; decide +kernel
set_option maxRecDepth 100000 in
theorem mc_41 : mcP 41 := rfl
set_option maxRecDepth 100000 in
theorem mo_41 : moP 41 := by unfold moP; decide +kernel
set_option maxRecDepth 100000 in
theorem mc_42 : mcP 42 := rfl
set_option maxRecDepth 100000 in
theorem mo_42 : moP 42 := by unfold moP; decide +kernel
set_option maxRecDepth 100000 in
theorem mc_43 : mcP 43 := rfl
set_option maxRecDepth 100000 in
theorem mo_43 : moP 43 := by unfold moP; decide +kernel
set_option maxRecDepth 100000 in
theorem mc_44 : mcP 44 := rfl
set_option maxRecDepth 100000 in
theorem mo_44 : moP 44 := by unfold moP; decide +kernel
set_option maxRecDepth 100000 in
theorem mc_45 : mcP 45 := rfl
set_option maxRecDepth 100000 in
theorem mo_45 : moP 45 := by unfold moP; decide +kernel
set_option maxRecDepth 100000 in
theorem mc_46 : mcP 46 := rfl
set_option maxRecDepth 100000 in
theorem mo_46 : moP 46 := by unfold moP; decide +kernel
set_option maxRecDepth 100000 in
theorem mc_47 : mcP 47 := rfl
set_option maxRecDepth 100000 in
theorem mo_47 : moP 47 := by unfold moP; decide +kernel
set_option maxRecDepth 100000 in
theorem mc_48 : mcP 48 := rfl
set_option maxRecDepth 100000 in
theorem mo_48 : moP 48 := by unfold moP; decide +kernel
set_option maxRecDepth 100000 in
theorem mc_49 : mcP 49 := rfl
set_option maxRecDepth 100000 in
theorem mo_49 : moP 49 := by unfold moP; decide +kernel
set_option maxRecDepth 100000 in
theorem mc_50 : mcP 50 := rfl
set_option maxRecDepth 100000 in
theorem mo_50 : moP 50 := by unfold moP; decide +kernel
set_option maxRecDepth 100000 in
theorem mc_51 : mcP 51 := rfl
set_option maxRecDepth 100000 in
theorem mo_51 : moP 51 := by unfold moP; decide +kernel
set_option maxRecDepth 100000 in
theorem mc_52 : mcP 52 := rfl
set_option maxRecDepth 100000 in
theorem mo_52 : moP 52 := by unfold moP; decide +kernel
set_option maxRecDepth 100000 in
theorem mc_53 : mcP 53 := rfl
set_option maxRecDepth 100000 in
theorem mo_53 : moP 53 := by unfold moP; decide +kernel
set_option maxRecDepth 100000 in
theorem mc_54 : mcP 54 := rfl
set_option maxRecDepth 100000 in
theorem mo_54 : moP 54 := by unfold moP; decide +kernel
set_option maxRecDepth 100000 in
theorem mc_55 : mcP 55 := rfl
set_option maxRecDepth 100000 in
theorem mo_55 : moP 55 := by unfold moP; decide +kernel
set_option maxRecDepth 100000 in
theorem mc_56 : mcP 56 := rfl
set_option maxRecDepth 100000 in
theorem mo_56 : moP 56 := by unfold moP; decide +kernel
set_option maxRecDepth 100000 in
theorem mc_57 : mcP 57 := rfl
set_option maxRecDepth 100000 in
theorem mo_57 : moP 57 := by unfold moP; decide +kernel
set_option maxRecDepth 100000 in
theorem mc_58 : mcP 58 := rfl
set_option maxRecDepth 100000 in
theorem mo_58 : moP 58 := by unfold moP; decide +kernel
set_option maxRecDepth 100000 in
theorem mc_59 : mcP 59 := rfl
set_option maxRecDepth 100000 in
theorem mo_59 : moP 59 := by unfold moP; decide +kernel
set_option maxRecDepth 100000 in
theorem mc_60 : mcP 60 := rfl
set_option maxRecDepth 100000 in
theorem mo_60 : moP 60 := by unfold moP; decide +kernel
set_option maxRecDepth 100000 in
theorem mc_61 : mcP 61 := rfl
set_option maxRecDepth 100000 in
theorem mo_61 : moP 61 := by unfold moP; decide +kernel
set_option maxRecDepth 100000 in
theorem mc_62 : mcP 62 := rfl
set_option maxRecDepth 100000 in
theorem mo_62 : moP 62 := by unfold moP; decide +kernel
set_option maxRecDepth 100000 in
theorem mc_63 : mcP 63 := rfl
set_option maxRecDepth 100000 in
theorem mo_63 : moP 63 := by unfold moP; decide +kernel
set_option maxRecDepth 100000 in
theorem mc_64 : mcP 64 := rfl
set_option maxRecDepth 100000 in
theorem mo_64 : moP 64 := by unfold moP; decide +kernel
set_option maxRecDepth 100000 in
theorem mc_65 : mcP 65 := rfl
set_option maxRecDepth 100000 in
theorem mo_65 : moP 65 := by unfold moP; decide +kernel
set_option maxRecDepth 100000 in
theorem mc_66 : mcP 66 := rfl
set_option maxRecDepth 100000 in
theorem mo_66 : moP 66 := by unfold moP; decide +kernel
set_option maxRecDepth 100000 in
theorem mc_67 : mcP 67 := rfl
set_option maxRecDepth 100000 in
theorem mo_67 : moP 67 := by unfold moP; decide +kernel
set_option maxRecDepth 100000 in
theorem mc_68 : mcP 68 := rfl
set_option maxRecDepth 100000 in
theorem mo_68 : moP 68 := by unfold moP; decide +kernel
set_option maxRecDepth 100000 in
theorem mc_69 : mcP 69 := rfl
set_option maxRecDepth 100000 in
theorem mo_69 : moP 69 := by unfold moP; decide +kernel
set_option maxRecDepth 100000 in
theorem mc_70 : mcP 70 := rfl
set_option maxRecDepth 100000 in
theorem mo_70 : moP 70 := by unfold moP; decide +kernel
set_option maxRecDepth 100000 in
theorem mc_71 : mcP 71 := rfl
set_option maxRecDepth 100000 in
theorem mo_71 : moP 71 := by unfold moP; decide +kernel
set_option maxRecDepth 100000 in
theorem mc_72 : mcP 72 := rfl
set_option maxRecDepth 100000 in
theorem mo_72 : moP 72 := by unfold moP; decide +kernel
set_option maxRecDepth 100000 in
theorem mc_73 : mcP 73 := rfl
set_option maxRecDepth 100000 in
theorem mo_73 : moP 73 := by unfold moP; decide +kernel
set_option maxRecDepth 100000 in
theorem mc_74 : mcP 74 := rfl
set_option maxRecDepth 100000 in
theorem mo_74 : moP 74 := by unfold moP; decide +kernel
set_option maxRecDepth 100000 in
theorem mc_75 : mcP 75 := rfl
set_option maxRecDepth 100000 in
theorem mo_75 : moP 75 := by unfold moP; decide +kernel
set_option maxRecDepth 100000 in
theorem mc_76 : mcP 76 := rfl
set_option maxRecDepth 100000 in
theorem mo_76 : moP 76 := by unfold moP; decide +kernel
set_option maxRecDepth 100000 in
theorem mc_77 : mcP 77 := rfl
set_option maxRecDepth 100000 in
theorem mo_77 : moP 77 := by unfold moP; decide +kernel
set_option maxRecDepth 100000 in
theorem mc_78 : mcP 78 := rfl
set_option maxRecDepth 100000 in
theorem mo_78 : moP 78 := by unfold moP; decide +kernel
set_option maxRecDepth 100000 in
theorem mc_79 : mcP 79 := rfl
set_option maxRecDepth 100000 in
theorem mo_79 : moP 79 := by unfold moP; decide +kernel
set_option maxRecDepth 100000 in
theorem mc_80 : mcP 80 := rfl
set_option maxRecDepth 100000 in
theorem mo_80 : moP 80 := by unfold moP; decide +kernel
set_option maxRecDepth 100000 in
theorem mc_81 : mcP 81 := rfl
set_option maxRecDepth 100000 in
theorem mo_81 : moP 81 := by unfold moP; decide +kernel
set_option maxRecDepth 100000 in
theorem mc_82 : mcP 82 := rfl
set_option maxRecDepth 100000 in
theorem mo_82 : moP 82 := by unfold moP; decide +kernel
set_option maxRecDepth 100000 in
theorem mc_83 : mcP 83 := rfl
set_option maxRecDepth 100000 in
theorem mo_83 : moP 83 := by unfold moP; decide +kernel
set_option maxRecDepth 100000 in
theorem mc_84 : mcP 84 := rfl
set_option maxRecDepth 100000 in
theorem mo_84 : moP 84 := by unfold moP; decide +kernel
set_option maxRecDepth 100000 in
theorem mc_85 : mcP 85 := rfl
set_option maxRecDepth 100000 in
theorem mo_85 : moP 85 := by unfold moP; decide +kernel
set_option maxRecDepth 100000 in
theorem mc_86 : mcP 86 := rfl
set_option maxRecDepth 100000 in
theorem mo_86 : moP 86 := by unfold moP; decide +kernel
set_option maxRecDepth 100000 in
theorem mc_87 : mcP 87 := rfl
set_option maxRecDepth 100000 in
theorem mo_87 : moP 87 := by unfold moP; decide +kernel
set_option maxRecDepth 100000 in
theorem mc_88 : mcP 88 := rfl
set_option maxRecDepth 100000 in
theorem mo_88 : moP 88 := by unfold moP; decide +kernel
set_option maxRecDepth 100000 in
theorem mc_89 : mcP 89 := rfl
set_option maxRecDepth 100000 in
theorem mo_89 : moP 89 := by unfold moP; decide +kernel
set_option maxRecDepth 100000 in
theorem mc_90 : mcP 90 := rfl
set_option maxRecDepth 100000 in
theorem mo_90 : moP 90 := by unfold moP; decide +kernel
set_option maxRecDepth 100000 in
theorem mc_91 : mcP 91 := rfl
set_option maxRecDepth 100000 in
theorem mo_91 : moP 91 := by unfold moP; decide +kernel
set_option maxRecDepth 100000 in
theorem mc_92 : mcP 92 := rfl
set_option maxRecDepth 100000 in
theorem mo_92 : moP 92 := by unfold moP; decide +kernel
set_option maxRecDepth 100000 in
theorem mc_93 : mcP 93 := rfl
set_option maxRecDepth 100000 in
theorem mo_93 : moP 93 := by unfold moP; decide +kernel
set_option maxRecDepth 100000 in
theorem mc_94 : mcP 94 := rfl
set_option maxRecDepth 100000 in
theorem mo_94 : moP 94 := by unfold moP; decide +kernel
set_option maxRecDepth 100000 in
theorem mc_95 : mcP 95 := rfl
set_option maxRecDepth 100000 in
theorem mo_95 : moP 95 := by unfold moP; decide +kernel
set_option maxRecDepth 100000 in
theorem mc_96 : mcP 96 := rfl
set_option maxRecDepth 100000 in
theorem mo_96 : moP 96 := by unfold moP; decide +kernel
set_option maxRecDepth 100000 in
theorem mc_97 : mcP 97 := rfl
set_option maxRecDepth 100000 in
theorem mo_97 : moP 97 := by unfold moP; decide +kernel
set_option maxRecDepth 100000 in
theorem mc_98 : mcP 98 := rfl
set_option maxRecDepth 100000 in
theorem mo_98 : moP 98 := by unfold moP; decide +kernel
set_option maxRecDepth 100000 in
theorem mc_99 : mcP 99 := rfl
set_option maxRecDepth 100000 in
theorem mo_99 : moP 99 := by unfold moP; decide +kernel
set_option maxRecDepth 100000 in
theorem mc_100 : mcP 100 := rfl
set_option maxRecDepth 100000 in
theorem mo_100 : moP 100 := by unfold moP; decide +kernel
set_option maxRecDepth 100000 in
theorem mc_101 : mcP 101 := rfl
set_option maxRecDepth 100000 in
theorem mo_101 : moP 101 := by unfold moP; decide +kernel
set_option maxRecDepth 100000 in
theorem mc_102 : mcP 102 := rfl
set_option maxRecDepth 100000 in
theorem mo_102 : moP 102 := by unfold moP; decide +kernel
set_option maxRecDepth 100000 in
theorem mc_103 : mcP 103 := rfl
set_option maxRecDepth 100000 in
theorem mo_103 : moP 103 := by unfold moP; decide +kernel
set_option maxRecDepth 100000 in
theorem mc_104 : mcP 104 := rfl
set_option maxRecDepth 100000 in
theorem mo_104 : moP 104 := by unfold moP; decide +kernel
set_option maxRecDepth 100000 in
theorem mc_105 : mcP 105 := rfl
set_option maxRecDepth 100000 in
theorem mo_105 : moP 105 := by unfold moP; decide +kernel
set_option maxRecDepth 100000 in
theorem mc_106 : mcP 106 := rfl
set_option maxRecDepth 100000 in
theorem mo_106 : moP 106 := by unfold moP; decide +kernel
set_option maxRecDepth 100000 in
theorem mc_107 : mcP 107 := rfl
set_option maxRecDepth 100000 in
theorem mo_107 : moP 107 := by unfold moP; decide +kernel
set_option maxRecDepth 100000 in
theorem mc_108 : mcP 108 := rfl
set_option maxRecDepth 100000 in
theorem mo_108 : moP 108 := by unfold moP; decide +kernel
set_option maxRecDepth 100000 in
theorem mc_109 : mcP 109 := rfl
set_option maxRecDepth 100000 in
theorem mo_109 : moP 109 := by unfold moP; decide +kernel
set_option maxRecDepth 100000 in
theorem mc_110 : mcP 110 := rfl
set_option maxRecDepth 100000 in
theorem mo_110 : moP 110 := by unfold moP; decide +kernel
set_option maxRecDepth 100000 in
theorem mc_111 : mcP 111 := rfl
set_option maxRecDepth 100000 in
theorem mo_111 : moP 111 := by unfold moP; decide +kernel
set_option maxRecDepth 100000 in
theorem mc_112 : mcP 112 := rfl
set_option maxRecDepth 100000 in
theorem mo_112 : moP 112 := by unfold moP; decide +kernel
set_option maxRecDepth 100000 in
theorem mc_113 : mcP 113 := rfl
set_option maxRecDepth 100000 in
theorem mo_113 : moP 113 := by unfold moP; decide +kernel
set_option maxRecDepth 100000 in
theorem mc_114 : mcP 114 := rfl
set_option maxRecDepth 100000 in
theorem mo_114 : moP 114 := by unfold moP; decide +kernel
set_option maxRecDepth 100000 in
theorem mc_115 : mcP 115 := rfl
set_option maxRecDepth 100000 in
theorem mo_115 : moP 115 := by unfold moP; decide +kernel
set_option maxRecDepth 100000 in
theorem mc_116 : mcP 116 := rfl
set_option maxRecDepth 100000 in
theorem mo_116 : moP 116 := by unfold moP; decide +kernel
set_option maxRecDepth 100000 in
theorem mc_117 : mcP 117 := rfl
set_option maxRecDepth 100000 in
theorem mo_117 : moP 117 := by unfold moP; decide +kernel
set_option maxRecDepth 100000 in
theorem mc_118 : mcP 118 := rfl
set_option maxRecDepth 100000 in
theorem mo_118 : moP 118 := by unfold moP; decide +kernel
set_option maxRecDepth 100000 in
theorem mc_119 : mcP 119 := rfl
set_option maxRecDepth 100000 in
theorem mo_119 : moP 119 := by unfold moP; decide +kernel
set_option maxRecDepth 100000 in
theorem mc_120 : mcP 120 := rfl
set_option maxRecDepth 100000 in
theorem mo_120 : moP 120 := by unfold moP; decide +kernel
set_option maxRecDepth 100000 in
theorem mc_121 : mcP 121 := rfl
set_option maxRecDepth 100000 in
theorem mo_121 : moP 121 := by unfold moP; decide +kernel
set_option maxRecDepth 100000 in
theorem mc_122 : mcP 122 := rfl
set_option maxRecDepth 100000 in
theorem mo_122 : moP 122 := by unfold moP; decide +kernel
set_option maxRecDepth 100000 in
theorem mc_123 : mcP 123 := rfl
set_option maxRecDepth 100000 in
theorem mo_123 : moP 123 := by unfold moP; decide +kernel
set_option maxRecDepth 100000 in
theorem mc_124 : mcP 124 := rfl
set_option maxRecDepth 100000 in
theorem mo_124 : moP 124 := by unfold moP; decide +kernel
set_option maxRecDepth 100000 in
theorem mc_125 : mcP 125 := rfl
set_option maxRecDepth 100000 in
theorem mo_125 : moP 125 := by unfold moP; decide +kernel
set_option maxRecDepth 100000 in
theorem mc_126 : mcP 126 := rfl
set_option maxRecDepth 100000 in
theorem mo_126 : moP 126 := by unfold moP; decide +kernel
set_option maxRecDepth 100000 in
theorem mc_127 : mcP 127 := rfl
set_option maxRecDepth 100000 in
theorem mo_127 : moP 127 := by unfold moP; decide +kernel
set_option maxRecDepth 100000 in
theorem mc_128 : mcP 128 := rfl
set_option maxRecDepth 100000 in
theorem mo_128 : moP 128 := by unfold moP; decide +kernel
set_option maxRecDepth 100000 in
theorem mc_129 : mcP 129 := rfl
set_option maxRecDepth 100000 in
theorem mo_129 : moP 129 := by unfold moP; decide +kernel
set_option maxRecDepth 100000 in
theorem mc_130 : mcP 130 := rfl
set_option maxRecDepth 100000 in
theorem mo_130 : moP 130 := by unfold moP; decide +kernel
set_option maxRecDepth 100000 in
theorem mc_131 : mcP 131 := rfl
set_option maxRecDepth 100000 in
theorem mo_131 : moP 131 := by unfold moP; decide +kernel
set_option maxRecDepth 100000 in
theorem mc_132 : mcP 132 := rfl
set_option maxRecDepth 100000 in
theorem mo_132 : moP 132 := by unfold moP; decide +kernel
set_option maxRecDepth 100000 in
theorem mc_133 : mcP 133 := rfl
set_option maxRecDepth 100000 in
theorem mo_133 : moP 133 := by unfold moP; decide +kernel
set_option maxRecDepth 100000 in
theorem mc_134 : mcP 134 := rfl
set_option maxRecDepth 100000 in
theorem mo_134 : moP 134 := by unfold moP; decide +kernel
set_option maxRecDepth 100000 in
theorem mc_135 : mcP 135 := rfl
set_option maxRecDepth 100000 in
theorem mo_135 : moP 135 := by unfold moP; decide +kernel
set_option maxRecDepth 100000 in
theorem mc_136 : mcP 136 := rfl
set_option maxRecDepth 100000 in
theorem mo_136 : moP 136 := by unfold moP; decide +kernel
set_option maxRecDepth 100000 in
theorem mc_137 : mcP 137 := rfl
set_option maxRecDepth 100000 in
theorem mo_137 : moP 137 := by unfold moP; decide +kernel
set_option maxRecDepth 100000 in
theorem mc_138 : mcP 138 := rfl
set_option maxRecDepth 100000 in
theorem mo_138 : moP 138 := by unfold moP; decide +kernel
set_option maxRecDepth 100000 in
theorem mc_139 : mcP 139 := rfl
set_option maxRecDepth 100000 in
theorem mo_139 : moP 139 := by unfold moP; decide +kernel
set_option maxRecDepth 100000 in
theorem mc_140 : mcP 140 := rfl
set_option maxRecDepth 100000 in
theorem mo_140 : moP 140 := by unfold moP; decide +kernel
set_option maxRecDepth 100000 in
theorem mc_141 : mcP 141 := rfl
set_option maxRecDepth 100000 in
theorem mo_141 : moP 141 := by unfold moP; decide +kernel
set_option maxRecDepth 100000 in
theorem mc_142 : mcP 142 := rfl
set_option maxRecDepth 100000 in
theorem mo_142 : moP 142 := by unfold moP; decide +kernel
set_option maxRecDepth 100000 in
theorem mc_143 : mcP 143 := rfl
set_option maxRecDepth 100000 in
theorem mo_143 : moP 143 := by unfold moP; decide +kernel
set_option maxRecDepth 100000 in
theorem mc_144 : mcP 144 := rfl
set_option maxRecDepth 100000 in
theorem mo_144 : moP 144 := by unfold moP; decide +kernel
set_option maxRecDepth 100000 in
theorem mc_145 : mcP 145 := rfl
set_option maxRecDepth 100000 in
theorem mo_145 : moP 145 := by unfold moP; decide +kernel
set_option maxRecDepth 100000 in
theorem mc_146 : mcP 146 := rfl
set_option maxRecDepth 100000 in
theorem mo_146 : moP 146 := by unfold moP; decide +kernel
set_option maxRecDepth 100000 in
theorem mc_147 : mcP 147 := rfl
set_option maxRecDepth 100000 in
theorem mo_147 : moP 147 := by unfold moP; decide +kernel
set_option maxRecDepth 100000 in
theorem mc_148 : mcP 148 := rfl
set_option maxRecDepth 100000 in
theorem mo_148 : moP 148 := by unfold moP; decide +kernel
set_option maxRecDepth 100000 in
theorem mc_149 : mcP 149 := rfl
set_option maxRecDepth 100000 in
theorem mo_149 : moP 149 := by unfold moP; decide +kernel
set_option maxRecDepth 100000 in
theorem mc_150 : mcP 150 := rfl
set_option maxRecDepth 100000 in
theorem mo_150 : moP 150 := by unfold moP; decide +kernel
set_option maxRecDepth 100000 in
theorem mc_151 : mcP 151 := rfl
set_option maxRecDepth 100000 in
theorem mo_151 : moP 151 := by unfold moP; decide +kernel
set_option maxRecDepth 100000 in
theorem mc_152 : mcP 152 := rfl
set_option maxRecDepth 100000 in
theorem mo_152 : moP 152 := by unfold moP; decide +kernel
set_option maxRecDepth 100000 in
theorem mc_153 : mcP 153 := rfl
set_option maxRecDepth 100000 in
theorem mo_153 : moP 153 := by unfold moP; decide +kernel
set_option maxRecDepth 100000 in
theorem mc_154 : mcP 154 := rfl
set_option maxRecDepth 100000 in
theorem mo_154 : moP 154 := by unfold moP; decide +kernel
set_option maxRecDepth 100000 in
theorem mc_155 : mcP 155 := rfl
set_option maxRecDepth 100000 in
theorem mo_155 : moP 155 := by unfold moP; decide +kernel
set_option maxRecDepth 100000 in
theorem mc_156 : mcP 156 := rfl
set_option maxRecDepth 100000 in
theorem mo_156 : moP 156 := by unfold moP; decide +kernel
set_option maxRecDepth 100000 in
theorem mc_157 : mcP 157 := rfl
set_option maxRecDepth 100000 in
theorem mo_157 : moP 157 := by unfold moP; decide +kernel
set_option maxRecDepth 100000 in
theorem mc_158 : mcP 158 := rfl
set_option maxRecDepth 100000 in
theorem mo_158 : moP 158 := by unfold moP; decide +kernel
set_option maxRecDepth 100000 in
theorem mc_159 : mcP 159 := rfl
set_option maxRecDepth 100000 in
theorem mo_159 : moP 159 := by unfold moP; decide +kernel
set_option maxRecDepth 100000 in
theorem mc_160 : mcP 160 := rfl
set_option maxRecDepth 100000 in
theorem mo_160 : moP 160 := by unfold moP; decide +kernel
set_option maxRecDepth 100000 in
theorem mc_161 : mcP 161 := rfl
set_option maxRecDepth 100000 in
theorem mo_161 : moP 161 := by unfold moP; decide +kernel
set_option maxRecDepth 100000 in
theorem mc_162 : mcP 162 := rfl
set_option maxRecDepth 100000 in
theorem mo_162 : moP 162 := by unfold moP; decide +kernel
set_option maxRecDepth 100000 in
theorem mc_163 : mcP 163 := rfl
set_option maxRecDepth 100000 in
theorem mo_163 : moP 163 := by unfold moP; decide +kernel
set_option maxRecDepth 100000 in
theorem mc_164 : mcP 164 := rfl
set_option maxRecDepth 100000 in
theorem mo_164 : moP 164 := by unfold moP; decide +kernel
set_option maxRecDepth 100000 in
theorem mc_165 : mcP 165 := rfl
set_option maxRecDepth 100000 in
theorem mo_165 : moP 165 := by unfold moP; decide +kernel
set_option maxRecDepth 100000 in
theorem mc_166 : mcP 166 := rfl
set_option maxRecDepth 100000 in
theorem mo_166 : moP 166 := by unfold moP; decide +kernel
set_option maxRecDepth 100000 in
theorem mc_167 : mcP 167 := rfl
set_option maxRecDepth 100000 in
theorem mo_167 : moP 167 := by unfold moP; decide +kernel
set_option maxRecDepth 100000 in
theorem mc_168 : mcP 168 := rfl
set_option maxRecDepth 100000 in
theorem mo_168 : moP 168 := by unfold moP; decide +kernel
theorem mcT_ok : ∀ k, k < 169 → mcP k := by
  intro k h
  match k, h with
  | 0, _ => exact mc_0
  | 1, _ => exact mc_1
  | 2, _ => exact mc_2
  | 3, _ => exact mc_3
  | 4, _ => exact mc_4
  | 5, _ => exact mc_5
  | 6, _ => exact mc_6
  | 7, _ => exact mc_7
  | 8, _ => exact mc_8
  | 9, _ => exact mc_9
  | 10, _ => exact mc_10
  | 11, _ => exact mc_11
  | 12, _ => exact mc_12
  | 13, _ => exact mc_13
  | 14, _ => exact mc_14
  | 15, _ => exact mc_15
  | 16, _ => exact mc_16
  | 17, _ => exact mc_17
  | 18, _ => exact mc_18
  | 19, _ => exact mc_19
  | 20, _ => exact mc_20
  | 21, _ => exact mc_21
  | 22, _ => exact mc_22
  | 23, _ => exact mc_23
  | 24, _ => exact mc_24
  | 25, _ => exact mc_25
  | 26, _ => exact mc_26
  | 27, _ => exact mc_27
  | 28, _ => exact mc_28
  | 29, _ => exact mc_29
  | 30, _ => exact mc_30
  | 31, _ => exact mc_31
  | 32, _ => exact mc_32
  | 33, _ => exact mc_33
  | 34, _ => exact mc_34
  | 35, _ => exact mc_35
  | 36, _ => exact mc_36
  | 37, _ => exact mc_37
  | 38, _ => exact mc_38
  | 39, _ => exact mc_39
  | 40, _ => exact mc_40
  | 41, _ => exact mc_41
  | 42, _ => exact mc_42
  | 43, _ => exact mc_43
  | 44, _ => exact mc_44
  | 45, _ => exact mc_45
  | 46, _ => exact mc_46
  | 47, _ => exact mc_47
  | 48, _ => exact mc_48
  | 49, _ => exact mc_49
  | 50, _ => exact mc_50
  | 51, _ => exact mc_51
  | 52, _ => exact mc_52
  | 53, _ => exact mc_53
  | 54, _ => exact mc_54
  | 55, _ => exact mc_55
  | 56, _ => exact mc_56
  | 57, _ => exact mc_57
  | 58, _ => exact mc_58
  | 59, _ => exact mc_59
  | 60, _ => exact mc_60
  | 61, _ => exact mc_61
  | 62, _ => exact mc_62
  | 63, _ => exact mc_63
  | 64, _ => exact mc_64
  | 65, _ => exact mc_65
  | 66, _ => exact mc_66
  | 67, _ => exact mc_67
  | 68, _ => exact mc_68
  | 69, _ => exact mc_69
  | 70, _ => exact mc_70
  | 71, _ => exact mc_71
  | 72, _ => exact mc_72
  | 73, _ => exact mc_73
  | 74, _ => exact mc_74
  | 75, _ => exact mc_75
  | 76, _ => exact mc_76
  | 77, _ => exact mc_77
  | 78, _ => exact mc_78
  | 79, _ => exact mc_79
  | 80, _ => exact mc_80
  | 81, _ => exact mc_81
  | 82, _ => exact mc_82
  | 83, _ => exact mc_83
  | 84, _ => exact mc_84
  | 85, _ => exact mc_85
  | 86, _ => exact mc_86
  | 87, _ => exact mc_87
  | 88, _ => exact mc_88
  | 89, _ => exact mc_89
  | 90, _ => exact mc_90
  | 91, _ => exact mc_91
  | 92, _ => exact mc_92
  | 93, _ => exact mc_93
  | 94, _ => exact mc_94
  | 95, _ => exact mc_95
  | 96, _ => exact mc_96
  | 97, _ => exact mc_97
  | 98, _ => exact mc_98
  | 99, _ => exact mc_99
  | 100, _ => exact mc_100
  | 101, _ => exact mc_101
  | 102, _ => exact mc_102
  | 103, _ => exact mc_103
  | 104, _ => exact mc_104
  | 105, _ => exact mc_105
  | 106, _ => exact mc_106
  | 107, _ => exact mc_107
  | 108, _ => exact mc_108
  | 109, _ => exact mc_109
  | 110, _ => exact mc_110
  | 111, _ => exact mc_111
  | 112, _ => exact mc_112
  | 113, _ => exact mc_113
  | 114, _ => exact mc_114
  | 115, _ => exact mc_115
  | 116, _ => exact mc_116
  | 117, _ => exact mc_117
  | 118, _ => exact mc_118
  | 119, _ => exact mc_119
  | 120, _ => exact mc_120
  | 121, _ => exact mc_121
  | 122, _ => exact mc_122
  | 123, _ => exact mc_123
  | 124, _ => exact mc_124
  | 125, _ => exact mc_125
  | 126, _ => exact mc_126
  | 127, _ => exact mc_127
  | 128, _ => exact mc_128
  | 129, _ => exact mc_129
  | 130, _ => exact mc_130
  | 131, _ => exact mc_131
  | 132, _ => exact mc_132
  | 133, _ => exact mc_133
  | 134, _ => exact mc_134
  | 135, _ => exact mc_135
  | 136, _ => exact mc_136
  | 137, _ => exact mc_137
  | 138, _ => exact mc_138
  | 139, _ => exact mc_139
  | 140, _ => exact mc_140
  | 141, _ => exact mc_141
  | 142, _ => exact mc_142
  | 143, _ => exact mc_143
  | 144, _ => exact mc_144
  | 145, _ => exact mc_145
  | 146, _ => exact mc_146
  | 147, _ => exact mc_147
  | 148, _ => exact mc_148
  | 149, _ => exact mc_149
  | 150, _ => exact mc_150
  | 151, _ => exact mc_151
  | 152, _ => exact mc_152
  | 153, _ => exact mc_153
  | 154, _ => exact mc_154
  | 155, _ => exact mc_155
  | 156, _ => exact mc_156
  | 157, _ => exact mc_157
  | 158, _ => exact mc_158
  | 159, _ => exact mc_159
  | 160, _ => exact mc_160
  | 161, _ => exact mc_161
  | 162, _ => exact mc_162
  | 163, _ => exact mc_163
  | 164, _ => exact mc_164
  | 165, _ => exact mc_165
  | 166, _ => exact mc_166
  | 167, _ => exact mc_167
  | 168, _ => exact mc_168
  | k + 169, h => exact absurd h (by omega)
theorem mT_ok : ∀ k, k < 169 → moP k := by
  intro k h
  match k, h with
  | 0, _ => exact mo_0
  | 1, _ => exact mo_1
  | 2, _ => exact mo_2
  | 3, _ => exact mo_3
  | 4, _ => exact mo_4
  | 5, _ => exact mo_5
  | 6, _ => exact mo_6
  | 7, _ => exact mo_7
  | 8, _ => exact mo_8
  | 9, _ => exact mo_9
  | 10, _ => exact mo_10
  | 11, _ => exact mo_11
  | 12, _ => exact mo_12
  | 13, _ => exact mo_13
  | 14, _ => exact mo_14
  | 15, _ => exact mo_15
  | 16, _ => exact mo_16
  | 17, _ => exact mo_17
  | 18, _ => exact mo_18
  | 19, _ => exact mo_19
  | 20, _ => exact mo_20
  | 21, _ => exact mo_21
  | 22, _ => exact mo_22
  | 23, _ => exact mo_23
  | 24, _ => exact mo_24
  | 25, _ => exact mo_25
  | 26, _ => exact mo_26
  | 27, _ => exact mo_27
  | 28, _ => exact mo_28
  | 29, _ => exact mo_29
  | 30, _ => exact mo_30
  | 31, _ => exact mo_31
  | 32, _ => exact mo_32
  | 33, _ => exact mo_33
  | 34, _ => exact mo_34
  | 35, _ => exact mo_35
  | 36, _ => exact mo_36
  | 37, _ => exact mo_37
  | 38, _ => exact mo_38
  | 39, _ => exact mo_39
  | 40, _ => exact mo_40
  | 41, _ => exact mo_41
  | 42, _ => exact mo_42
  | 43, _ => exact mo_43
  | 44, _ => exact mo_44
  | 45, _ => exact mo_45
  | 46, _ => exact mo_46
  | 47, _ => exact mo_47
  | 48, _ => exact mo_48
  | 49, _ => exact mo_49
  | 50, _ => exact mo_50
  | 51, _ => exact mo_51
  | 52, _ => exact mo_52
  | 53, _ => exact mo_53
  | 54, _ => exact mo_54
  | 55, _ => exact mo_55
  | 56, _ => exact mo_56
  | 57, _ => exact mo_57
  | 58, _ => exact mo_58
  | 59, _ => exact mo_59
  | 60, _ => exact mo_60
  | 61, _ => exact mo_61
  | 62, _ => exact mo_62
  | 63, _ => exact mo_63
  | 64, _ => exact mo_64
  | 65, _ => exact mo_65
  | 66, _ => exact mo_66
  | 67, _ => exact mo_67
  | 68, _ => exact mo_68
  | 69, _ => exact mo_69
  | 70, _ => exact mo_70
  | 71, _ => exact mo_71
  | 72, _ => exact mo_72
  | 73, _ => exact mo_73
  | 74, _ => exact mo_74
  | 75, _ => exact mo_75
  | 76, _ => exact mo_76
  | 77, _ => exact mo_77
  | 78, _ => exact mo_78
  | 79, _ => exact mo_79
  | 80, _ => exact mo_80
  | 81, _ => exact mo_81
  | 82, _ => exact mo_82
  | 83, _ => exact mo_83
  | 84, _ => exact mo_84
  | 85, _ => exact mo_85
  | 86, _ => exact mo_86
  | 87, _ => exact mo_87
  | 88, _ => exact mo_88
  | 89, _ => exact mo_89
  | 90, _ => exact mo_90
  | 91, _ => exact mo_91
  | 92, _ => exact mo_92
  | 93, _ => exact mo_93
  | 94, _ => exact mo_94
  | 95, _ => exact mo_95
  | 96, _ => exact mo_96
  | 97, _ => exact mo_97
  | 98, _ => exact mo_98
  | 99, _ => exact mo_99
  | 100, _ => exact mo_100
  | 101, _ => exact mo_101
  | 102, _ => exact mo_102
  | 103, _ => exact mo_103
  | 104, _ => exact mo_104
  | 105, _ => exact mo_105
  | 106, _ => exact mo_106
  | 107, _ => exact mo_107
  | 108, _ => exact mo_108
  | 109, _ => exact mo_109
  | 110, _ => exact mo_110
  | 111, _ => exact mo_111
  | 112, _ => exact mo_112
  | 113, _ => exact mo_113
  | 114, _ => exact mo_114
  | 115, _ => exact mo_115
  | 116, _ => exact mo_116
  | 117, _ => exact mo_117
  | 118, _ => exact mo_118
  | 119, _ => exact mo_119
  | 120, _ => exact mo_120
  | 121, _ => exact mo_121
  | 122, _ => exact mo_122
  | 123, _ => exact mo_123
  | 124, _ => exact mo_124
  | 125, _ => exact mo_125
  | 126, _ => exact mo_126
  | 127, _ => exact mo_127
  | 128, _ => exact mo_128
  | 129, _ => exact mo_129
  | 130, _ => exact mo_130
  | 131, _ => exact mo_131
  | 132, _ => exact mo_132
  | 133, _ => exact mo_133
  | 134, _ => exact mo_134
  | 135, _ => exact mo_135
  | 136, _ => exact mo_136
  | 137, _ => exact mo_137
  | 138, _ => exact mo_138
  | 139, _ => exact mo_139
  | 140, _ => exact mo_140
  | 141, _ => exact mo_141
  | 142, _ => exact mo_142
  | 143, _ => exact mo_143
  | 144, _ => exact mo_144
  | 145, _ => exact mo_145
  | 146, _ => exact mo_146
  | 147, _ => exact mo_147
  | 148, _ => exact mo_148
  | 149, _ => exact mo_149
  | 150, _ => exact mo_150
  | 151, _ => exact mo_151
  | 152, _ => exact mo_152
  | 153, _ => exact mo_153
  | 154, _ => exact mo_154
  | 155, _ => exact mo_155
  | 156, _ => exact mo_156
  | 157, _ => exact mo_157
  | 158, _ => exact mo_158
  | 159, _ => exact mo_159
  | 160, _ => exact mo_160
  | 161, _ => exact mo_161
  | 162, _ => exact mo_162
  | 163, _ => exact mo_163
  | 164, _ => exact mo_164
  | 165, _ => exact mo_165
  | 166, _ => exact mo_166
  | 167, _ => exact mo_167
  | 168, _ => exact mo_168
  | k + 169, h => exact absurd h (by omega)
def wcl : Cond → Bool
  | .fieldLinkNest _ _ _ _ _ _ => true
  | .methodLinkNest _ _ _ _ => true
  | .arrayOver (.object _) => true
  | w => goodWord w
def TW : List Cond := lw_tbl.filter wcl
theorem tw_in {w : Cond} (h : w ∈ lw_tbl) (h2 : wcl w = true) : w ∈ TW := List.mem_filter.mpr ⟨h, h2⟩
theorem cls_ty : ∀ ci, ci < 9 → ∀ k, k < cN ci → parseFieldDescriptor (cT ci k).2.2.1 = some (cTy ci k) := by decide +kernel
theorem cls_nm : ∀ ci, ci < 9 → ∀ a, a < cN ci → ∀ b, b < cN ci → a ≠ b → (cT ci a).2.1 ≠ (cT ci b).2.1 := by decide +kernel
theorem cls_at : ∀ ci, ci < 9 → vwCl[ci]? = some (cnm ci, cT ci, cN ci) := by
  intro ci h
  match ci, h with
  | 0, _ => rfl
  | 1, _ => rfl
  | 2, _ => rfl
  | 3, _ => rfl
  | 4, _ => rfl
  | 5, _ => rfl
  | 6, _ => rfl
  | 7, _ => rfl
  | 8, _ => rfl
theorem cls_in0 : ∀ ci, ci < 9 → ∀ w ∈ u_ws (cnm ci) (cT ci) (cN ci), w ∈ lw_tbl := by
  intro ci h
  match ci, h with
  | 0, _ => exact inX0
  | 1, _ => exact inX1
  | 2, _ => exact inX2
  | 3, _ => exact inX3
  | 4, _ => exact inX4
  | 5, _ => exact inX5
  | 6, _ => exact inX6
  | 7, _ => exact inX7
  | 8, _ => exact inX8
theorem cls_in : ∀ ci, ci < 9 → ∀ w ∈ u_ws (cnm ci) (cT ci) (cN ci), w ∈ TW := by
  intro ci h w hw
  refine tw_in (cls_in0 ci h w hw) ?_
  obtain ⟨k, -, rfl⟩ := List.mem_map.mp hw
  unfold u_lay
  split <;> rfl
theorem cls_nw : ∀ ci, ci < 9 → Cond.instantiable (cnm ci) (cN ci) ∈ lw_tbl ∧ Cond.initialized (cnm ci) ∈ lw_tbl := by decide +kernel
theorem obj_in : Cond.instanceMethod objectInit ∈ lw_tbl ∧ Cond.code objectInit ⟨#[0xb1]⟩ 1 none ∈ lw_tbl := by decide +kernel
theorem arr_in : Cond.arrayClass .int ∈ lw_tbl ∧ Cond.arrayClass .boolean ∈ lw_tbl ∧ Cond.arrayOver (.object "OughtKnown$Deed") ∈ lw_tbl ∧ Cond.arrayOver (.object "OughtKnown$Law") ∈ lw_tbl := by decide +kernel
def fl (o i : Nat) : Option (Nat × Nat) := (flT.find? (fun r => r.1 == o && r.2.1 == i)).map (fun r => (r.2.2.1, r.2.2.2.1))
def ml (o i : Nat) : Option Nat := (mlT.find? (fun r => r.1 == o && r.2.1 == i)).map (fun r => r.2.2.1)
def ol (o i : Nat) : Bool := (olT.find? (fun r => r.1 == o && r.2.1 == i)).isSome
def clk (o i : Nat) : Option Nat := (clT.find? (fun r => r.1 == o && r.2.1 == i)).map (fun r => r.2.2.1)
def kc (o i : Nat) : Option Int32 := (kcT.find? (fun r => r.1 == o && r.2.1 == i)).map (fun r => r.2.2.1)
def kl (o i : Nat) : Option Int64 := (klT.find? (fun r => r.1 == o && r.2.1 == i)).map (fun r => r.2.2.1)
theorem fl_spec {o i ci s : Nat} (h : fl o i = some (ci, s)) : ci < 9 ∧ s < cN ci ∧ (Cond.fieldLink (cnm o) i (cT ci s).1 (cT ci s).2.1 (cT ci s).2.2.1 ∈ lw_tbl ∨ Cond.fieldLinkNest (cnm o) i (cT ci s).1 (cT ci s).2.1 (cT ci s).2.2.1 "OughtKnown" ∈ lw_tbl) := by
  unfold fl at h
  obtain ⟨r, hr, he⟩ := Option.map_eq_some_iff.mp h
  have h1 := List.mem_of_find?_eq_some hr
  have h2 := List.find?_some hr
  simp only [Bool.and_eq_true, beq_iff_eq] at h2
  obtain ⟨a, b, c, d, e⟩ := r
  obtain ⟨rfl, rfl⟩ := h2
  cases he
  obtain ⟨p1, p2, p3⟩ := flT_ok _ h1
  exact ⟨p1, p2, p3.imp tw_mem tw_mem⟩
theorem ml_spec {o i k : Nat} (h : ml o i = some k) : k < 170 ∧ (Cond.methodLink (cnm o) i (my k) ∈ lw_tbl ∨ Cond.methodLinkNest (cnm o) i (my k) "OughtKnown" ∈ lw_tbl) := by
  unfold ml at h
  obtain ⟨r, hr, he⟩ := Option.map_eq_some_iff.mp h
  have h1 := List.mem_of_find?_eq_some hr
  have h2 := List.find?_some hr
  simp only [Bool.and_eq_true, beq_iff_eq] at h2
  obtain ⟨a, b, c, d⟩ := r
  obtain ⟨rfl, rfl⟩ := h2
  cases he
  obtain ⟨p1, p3⟩ := mlT_ok _ h1
  exact ⟨p1, p3.imp tw_mem tw_mem⟩
theorem ol_spec {o i : Nat} (h : ol o i = true) : Cond.methodLink (cnm o) i objectInit ∈ lw_tbl := by
  unfold ol at h
  obtain ⟨r, hr⟩ := Option.isSome_iff_exists.mp h
  have h1 := List.mem_of_find?_eq_some hr
  have h2 := List.find?_some hr
  simp only [Bool.and_eq_true, beq_iff_eq] at h2
  obtain ⟨a, b, c⟩ := r
  obtain ⟨rfl, rfl⟩ := h2
  exact tw_mem (olT_ok _ h1)
theorem clk_spec {o i ci : Nat} (h : clk o i = some ci) : ci < 9 ∧ Cond.classLink (cnm o) i (cnm ci) ∈ lw_tbl := by
  unfold clk at h
  obtain ⟨r, hr, he⟩ := Option.map_eq_some_iff.mp h
  have h1 := List.mem_of_find?_eq_some hr
  have h2 := List.find?_some hr
  simp only [Bool.and_eq_true, beq_iff_eq] at h2
  obtain ⟨a, b, c, d⟩ := r
  obtain ⟨rfl, rfl⟩ := h2
  cases he
  obtain ⟨p1, p3⟩ := clT_ok _ h1
  exact ⟨p1, tw_mem p3⟩
theorem kc_spec {o i : Nat} {v : Int32} (h : kc o i = some v) : Cond.constant (cnm o) i v ∈ lw_tbl := by
  unfold kc at h
  obtain ⟨r, hr, he⟩ := Option.map_eq_some_iff.mp h
  have h1 := List.mem_of_find?_eq_some hr
  have h2 := List.find?_some hr
  simp only [Bool.and_eq_true, beq_iff_eq] at h2
  obtain ⟨a, b, c, d⟩ := r
  obtain ⟨rfl, rfl⟩ := h2
  cases he
  exact tw_mem (kcT_ok _ h1)
theorem kl_spec {o i : Nat} {v : Int64} (h : kl o i = some v) : Cond.constantLong (cnm o) i v ∈ lw_tbl := by
  unfold kl at h
  obtain ⟨r, hr, he⟩ := Option.map_eq_some_iff.mp h
  have h1 := List.mem_of_find?_eq_some hr
  have h2 := List.find?_some hr
  simp only [Bool.and_eq_true, beq_iff_eq] at h2
  obtain ⟨a, b, c, d⟩ := r
  obtain ⟨rfl, rfl⟩ := h2
  cases he
  exact tw_mem (klT_ok _ h1)
theorem min_in : Cond.static Lib.Math.min.name ∈ lw_tbl ∧ Cond.code Lib.Math.min.name Lib.Math.min.code 2 (some .int) ∈ lw_tbl ∧ Cond.initialized "java/lang/Math" ∈ lw_tbl ∧ my 169 = Lib.Math.min.name := by decide +kernel

