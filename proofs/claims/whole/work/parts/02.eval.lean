/-! ===== an evaluator of the class's bytecode over a world of numbers: what stands in each cell, by numbers of objects ===== -/
abbrev Hs : Type := Nat → Nat → Int32
abbrev Rs : Type := Option (Option Value × Hs)
abbrev Sr : Type := (Nat × List Value × List Value × Hs) ⊕ (Option Value × Hs)
abbrev uu : Value := .float 0
def up2 (σ : Hs) (o k : Nat) (v : Int32) : Hs := fun a b => if a = o ∧ b = k then v else σ a b
def cp2 (σ : Hs) (b a sp dp n : Nat) : Hs := fun q => if q = a then va_cpy (σ b) (σ a) sp dp n else σ q
def shpT : List (Nat × Nat) := [(7, 9), (5, 7), (0, 14), (10, 30), (10, 30), (10, 30), (10, 30), (10, 30), (11, 30), (10, 5), (10, 9), (10, 9), (10, 9), (1, 2), (12, 3), (10, 60), (3, 2), (10, 60), (3, 2), (10, 60), (3, 2), (10, 60), (3, 2), (10, 60), (3, 2), (10, 12), (3, 2), (10, 12), (3, 2), (10, 24), (5, 7), (0, 14), (10, 30), (10, 30), (10, 30), (10, 30), (10, 30), (11, 30), (10, 5), (10, 9), (10, 9), (10, 9), (1, 2), (12, 3), (10, 60), (3, 2), (10, 60), (3, 2), (10, 60), (3, 2), (10, 60), (3, 2), (10, 60), (3, 2), (10, 12), (3, 2), (10, 12), (3, 2), (10, 24), (0, 14), (10, 30), (10, 30), (10, 30), (10, 30), (10, 30), (11, 30), (10, 5), (10, 9), (10, 9), (10, 9), (2, 5), (3, 2), (10, 60), (6, 5), (3, 2), (10, 30), (13, 4), (4, 3), (10, 24), (4, 3), (10, 24), (4, 3), (10, 24), (4, 3), (10, 24), (10, 7), (10, 60), (8, 26), (10, 545), (10, 545), (10, 545), (10, 7), (10, 7), (10, 7), (10, 5), (14, 3), (10, 60), (10, 4), (10, 60), (10, 30), (10, 4), (10, 4), (10, 96), (10, 24)]
def crT : List (List Nat) := [[1, 30, 59, 70, 73, 76, 85, 86], [2, 13, 22, 24, 26, 28], [3, 4, 5, 6, 7, 8, 9, 10, 11, 12], [], [], [], [], [], [], [], [], [], [], [14, 15], [16, 18, 20], [], [17], [], [19], [], [21], [], [23], [], [25], [], [27], [], [29], [], [31, 42, 51, 53, 55, 57], [32, 33, 34, 35, 36, 37, 38, 39, 40, 41], [], [], [], [], [], [], [], [], [], [], [43, 44], [45, 47, 49], [], [46], [], [48], [], [50], [], [52], [], [54], [], [56], [], [58], [], [60, 61, 62, 63, 64, 65, 66, 67, 68, 69], [], [], [], [], [], [], [], [], [], [], [71], [72], [], [74], [75], [], [77, 79, 81, 83], [78], [], [80], [], [82], [], [84], [], [], [], [88, 89, 90, 0, 91, 92, 93, 94, 95, 0, 0, 0, 0, 96, 0, 97, 98, 0, 99, 0, 0, 0, 100, 101, 102, 103], [], [], [], [], [], [], [], [119, 120, 121], [], [], [], [], [], [], [], []]
/-- fields: 0 int, 1 boolean, 2 a final reference, 3 another reference -/
def fkT : List (List Nat) := [[2, 2, 2, 2, 2, 2, 2, 2, 2, 2, 0, 0, 0, 0], [2, 2], [2, 3, 3, 0, 1], [2, 0], [2, 0, 0], [2, 2, 2, 2, 2, 2, 0], [2, 1, 0, 0, 0], [2, 2, 2, 2, 2, 2, 2, 2, 0], [2, 2, 2, 0, 2, 2, 2, 2, 2, 0, 0, 0, 1, 2, 0, 2, 2, 0, 2, 0, 0, 1, 2, 2, 2, 2]]
def ftyT : List (List FieldType) := [[.array .int, .array .int, .array .int, .array .int, .array .int, .array .boolean, .array .int, .array .int, .array .int, .array .int, .int, .int, .int, .int],
  [.array (.object "SmokyHeap$Row"), .array .int],
  [.object "SmokyHeap$Row", .object "SmokyHeap$Row", .object "java/lang/String", .int, .boolean],
  [.array .int, .int],
  [.array .int, .int, .int],
  [.object "SmokyHeap$Heap", .object "SmokyHeap$Laws", .object "SmokyHeap$Row", .object "SmokyHeap$Row", .object "SmokyHeap$Row", .object "SmokyHeap$Row", .int],
  [.object "SmokyHeap$Row", .boolean, .int, .int, .int],
  [.object "SmokyHeap$State", .object "SmokyHeap$State", .object "SmokyHeap$Heap", .object "SmokyHeap$Reader", .object "SmokyHeap$Voices", .array (.object "SmokyHeap$Sheet"), .array .int, .array .int, .int],
  [.array .int, .array .int, .array .int, .int, .array .int, .array .int, .array .int, .array .int, .array (.object "java/lang/String"), .int, .int, .int, .boolean, .array .int, .int, .array .int, .array .int, .int, .array .int, .int, .int, .boolean, .array .int, .array .int, .array .int, .array .int]]
def stbT : List (List Int32) := [[(-1), 0, 0, 1, 2, 0, 5], [4, 5, 8, 3, 5, 3, 3], [60, 30, 120, 6, 120, 90, 10000], [1439, 99, 3, 999, 8], [10, 11, 12, 13, 20, 0, 0, 21, 0, 0, 30, 0, 40, 41, 0, 0, 0, 0, 50, 51, 0, 60, 0, 0, 70, 0, 71, 0], [900, 5, 0, 60, 4]]
def bytT : List (List Int32) := [[], [100, 115, 119, 114], [104, 119, 108, 110], [104, 119, 115], [124], [38], [60, 61, 62], [43, 45], [42, 47, 37], [100, 115, 119, 114], [104, 119, 108, 110], [104, 119, 115]]
def lenT : List Nat := [0, 4, 4, 3, 1, 1, 3, 2, 3, 4, 4, 3]
def owT : List String := [RX0, RX1, RX2, RX3, RX4, RX5, RX6, RX7, RX8, RJ0, RJ1, RJ6, RJ3]
def mT : List (MethodName × ByteArray × Nat × Option FieldType × Bool × Nat × Nat) := [(yX0_copyFrom, cX0_copyFrom, 2, none, false, 1, 0),
  (yX0_has, cX0_has, 2, (some .boolean), false, 1, 0),
  (yX0_layOnTop, cX0_layOnTop, 7, (some .int), false, 4, 0),
  (yX0_remove, cX0_remove, 4, none, false, 1, 0),
  (yX0_heightOf, cX0_heightOf, 4, (some .int), false, 1, 0),
  (yX0_hourNow, cX0_hourNow, 1, (some .int), false, 0, 0),
  (yX0_howMany, cX0_howMany, 3, (some .int), false, 0, 0),
  (yX0_howManyLit, cX0_howManyLit, 3, (some .int), false, 0, 0),
  (yX0_canBeLit, cX0_canBeLit, 2, (some .boolean), false, 1, 0),
  (yX0_lightByHand, cX0_lightByHand, 2, none, false, 1, 0),
  (yX0_pourOn, cX0_pourOn, 3, none, false, 2, 0),
  (yX0_pourOnLit, cX0_pourOnLit, 3, none, false, 1, 0),
  (yX0_draughtOf, cX0_draughtOf, 9, (some .int), false, 1, 0),
  (yX0_pass, cX0_pass, 5, none, false, 2, 0),
  (yX0_burn, cX0_burn, 4, (some .int), false, 1, 0),
  (yX0_burnAt, cX0_burnAt, 8, (some .int), false, 2, 0),
  (yX0_burnsAsKind, cX0_burnsAsKind, 2, (some .int), true, 2, 0),
  (yX0_warmNeighbours, cX0_warmNeighbours, 3, none, false, 1, 0),
  (yX0_giveWarm, cX0_giveWarm, 4, none, false, 2, 0),
  (yX0_dryAndCool, cX0_dryAndCool, 4, none, false, 1, 0),
  (yX0_drift, cX0_drift, 8, none, false, 2, 0),
  (yX0_lyingOf, cX0_lyingOf, 4, (some .int), false, 3, 0),
  (yX0_forgetBothered, cX0_forgetBothered, 2, none, false, 0, 0),
  (yX0_botheredInAll, cX0_botheredInAll, 3, (some .int), false, 0, 0),
  (yX0_hangingWith, cX0_hangingWith, 5, (some .int), false, 1, 0),
  (yX0_besideToo, cX0_besideToo, 4, (some .int), true, 1, 0),
  (yX0_armfulTells, cX0_armfulTells, 3, (some .int), false, 2, 0),
  (yX0_gardenTells, cX0_gardenTells, 3, (some .int), false, 2, 0),
  (yX0_heapTells, cX0_heapTells, 2, (some .int), false, 1, 0),
  (yX0_sumOf, cX0_sumOf, 4, (some .int), false, 1, 0),
  (yX0_highest, cX0_highest, 3, (some .int), false, 0, 0),
  (yX1_has, cX1_has, 2, (some .boolean), false, 1, 1),
  (yX1_copyFrom, cX1_copyFrom, 3, none, false, 1, 1),
  (yX1_work, cX1_work, 10, (some .int), false, 5, 1),
  (yX1_joined, cX1_joined, 3, (some .int), true, 3, 1),
  (yX2_faultOf, cX2_faultOf, 3, (some .int), false, 2, 2),
  (yX2_namesOf, cX2_namesOf, 1, (some (.object "java/lang/String")), true, 1, 2),
  (yX2_signsOf, cX2_signsOf, 1, (some (.object "java/lang/String")), true, 1, 2),
  (yX2_next, cX2_next, 1, (some .char), false, 0, 2),
  (yX2_readLevel, cX2_readLevel, 6, none, false, 2, 2),
  (yX2_readUnit, cX2_readUnit, 4, none, false, 1, 2),
  (yX2_readClosing, cX2_readClosing, 1, none, false, 0, 2),
  (yX2_readNumber, cX2_readNumber, 3, none, false, 0, 2),
  (yX2_isDigit, cX2_isDigit, 1, (some .boolean), true, 1, 2),
  (yX3_has, cX3_has, 2, (some .boolean), false, 1, 3),
  (yX3_add, cX3_add, 2, (some .boolean), false, 1, 3),
  (yX3_copyFrom, cX3_copyFrom, 3, none, false, 1, 3),
  (yX4_isMissing, cX4_isMissing, 1, (some .boolean), false, 0, 4),
  (yX4_begin, cX4_begin, 4, none, false, 2, 4),
  (yX4_stand, cX4_stand, 3, (some .boolean), false, 2, 4),
  (yX4_write, cX4_write, 3, none, false, 2, 4),
  (yX5_copyFrom, cX5_copyFrom, 2, none, false, 1, 5),
  (yX5_draw, cX5_draw, 1, (some .int), false, 0, 5),
  (yX5_suspectsWithout, cX5_suspectsWithout, 4, (some .int), false, 1, 5),
  (yX5_gardensUpwind, cX5_gardensUpwind, 6, (some .int), true, 2, 5),
  (yX6_begin, cX6_begin, 4, none, false, 3, 6),
  (yX6_speak, cX6_speak, 9, (some .int), false, 4, 6),
  (yX6_shared, cX6_shared, 3, (some .int), false, 1, 6),
  (yX6_ownerOf, cX6_ownerOf, 4, (some .int), true, 2, 6),
  (yX7_lay, cX7_lay, 6, (some .int), false, 4, 7),
  (yX7_take, cX7_take, 3, (some .int), false, 1, 7),
  (yX7_armful, cX7_armful, 3, (some .int), false, 2, 7),
  (yX7_as, cX7_as, 3, (some .int), false, 2, 7),
  (yX7_become, cX7_become, 4, (some .int), false, 2, 7),
  (yX7_light, cX7_light, 2, (some .int), false, 1, 7),
  (yX7_fork, cX7_fork, 4, (some .int), false, 2, 7),
  (yX7_pour, cX7_pour, 3, (some .int), false, 2, 7),
  (yX7_set, cX7_set, 4, (some .int), false, 2, 7),
  (yX7_feed, cX7_feed, 5, (some .int), false, 2, 7),
  (yX7_text, cX7_text, 3, (some .int), false, 1, 7),
  (yX7_untell, cX7_untell, 3, (some .int), false, 1, 7),
  (yX7_minutes, cX7_minutes, 2, (some .int), false, 1, 7),
  (yX7_gusts, cX7_gusts, 4, (some .int), false, 1, 7),
  (yX7_seed, cX7_seed, 3, (some .int), false, 1, 7),
  (yX7_washing, cX7_washing, 6, (some .int), false, 3, 7),
  (yX7_garden, cX7_garden, 3, (some .int), false, 2, 7),
  (yX7_heap, cX7_heap, 2, (some .int), false, 1, 7),
  (yX7_may, cX7_may, 1, (some .int), false, 0, 7),
  (yX7_then, cX7_then, 3, (some .int), false, 2, 7),
  (yX7_gardenThen, cX7_gardenThen, 4, (some .int), false, 3, 7),
  (yX7_hour, cX7_hour, 7, (some .int), false, 2, 7),
  (yX7_spot, cX7_spot, 5, (some .int), false, 1, 7),
  (yX7_out, cX7_out, 3, (some .int), false, 1, 7),
  (yX7_catches, cX7_catches, 4, (some .int), false, 2, 7),
  (yX7_reach, cX7_reach, 2, (some .int), false, 1, 7),
  (yX7_report, cX7_report, 4, (some .int), false, 2, 7),
  (yX7_suspects, cX7_suspects, 1, (some .int), false, 0, 7),
  (yX7_liar, cX7_liar, 5, (some .int), false, 0, 7),
  (yX7_voice, cX7_voice, 5, (some .int), false, 3, 7),
  (yX7_body, cX7_body, 2, (some .int), false, 1, 7),
  (yX7_sheet, cX7_sheet, 4, (some .int), false, 3, 7),
  (yX7_put, cX7_put, 4, (some .int), false, 3, 7),
  (yX7_move, cX7_move, 8, (some .int), false, 5, 7),
  (yX7_armfuls, cX7_armfuls, 5, (some .int), false, 1, 7),
  (yX7_image, cX7_image, 1, (some .int), false, 0, 7),
  (yX7_restore, cX7_restore, 1, (some .int), false, 0, 7),
  (yX7_tell, cX7_tell, 2, (some .int), false, 1, 7),
  (yX7_check, cX7_check, 6, (some .int), false, 1, 7),
  (yX7_count, cX7_count, 2, (some .int), false, 1, 7),
  (yX7_told, cX7_told, 2, (some .int), false, 1, 7),
  (yX7_failed, cX7_failed, 2, (some .int), false, 1, 7),
  (yX7_bylawLets, cX7_bylawLets, 2, (some .boolean), false, 0, 7),
  (yX7_botheredFrom, cX7_botheredFrom, 4, (some .int), false, 2, 7),
  (yX7_within, cX7_within, 3, (some .boolean), true, 3, 7),
  (yX7_isPlace, cX7_isPlace, 1, (some .boolean), true, 1, 7),
  (yX7_isKind, cX7_isKind, 1, (some .boolean), true, 1, 7),
  (yX7_isUse, cX7_isUse, 1, (some .boolean), true, 1, 7),
  (yX7_isGarden, cX7_isGarden, 1, (some .boolean), true, 1, 7),
  (yX7_isSheet, cX7_isSheet, 1, (some .boolean), true, 1, 7),
  (yX7_isAhead, cX7_isAhead, 1, (some .boolean), true, 1, 7),
  (yX7_isOfKind, cX7_isOfKind, 4, (some .boolean), true, 2, 7),
  (yX7_nextGarden, cX7_nextGarden, 4, (some .int), true, 2, 7),
  (yX8_finding, cX8_finding, 2, (some .int), false, 1, 8),
  (yX8_within, cX8_within, 3, (some .boolean), true, 3, 8),
  (yX8_has, cX8_has, 2, (some .boolean), true, 2, 8),
  (yX8_held, cX8_held, 3, (some .int), true, 3, 8),
  (yX8_copy, cX8_copy, 3, none, true, 2, 8),
  (yX8_comes, cX8_comes, 4, (some .int), false, 2, 8),
  (yX8_back, cX8_back, 2, (some .int), false, 1, 8),
  (yX8_of, cX8_of, 3, (some .int), false, 2, 8),
  (yX8_tells, cX8_tells, 4, none, false, 3, 8),
  (yX8_isPlace, cX8_isPlace, 1, (some .boolean), true, 1, 8),
  (yX8_is, cX8_is, 2, (some .boolean), false, 1, 8),
  (yX8_isLit, cX8_isLit, 2, (some .boolean), false, 1, 8),
  (yX8_highOf, cX8_highOf, 3, (some .int), false, 1, 8),
  (yX8_isAsTold, cX8_isAsTold, 5, (some .boolean), false, 4, 8),
  (yX8_lays, cX8_lays, 6, (some .int), false, 4, 8),
  (yX8_lay, cX8_lay, 5, (some .int), false, 4, 8),
  (yX8_goes, cX8_goes, 4, none, false, 1, 8),
  (yX8_take, cX8_take, 3, (some .int), false, 1, 8),
  (yX8_beside, cX8_beside, 2, (some .int), true, 2, 8),
  (yX8_isOpen, cX8_isOpen, 4, (some .boolean), false, 2, 8),
  (yX8_draughtOf, cX8_draughtOf, 5, (some .int), false, 1, 8),
  (yX8_armful, cX8_armful, 4, (some .int), false, 2, 8),
  (yX8_above, cX8_above, 1, (some .int), true, 1, 8),
  (yX8_as, cX8_as, 4, (some .int), false, 2, 8),
  (yX8_changes, cX8_changes, 5, (some .int), false, 4, 8),
  (yX8_become, cX8_become, 3, (some .int), false, 2, 8),
  (yX8_fork, cX8_fork, 3, (some .int), false, 2, 8),
  (yX8_lights, cX8_lights, 2, none, false, 1, 8),
  (yX8_light, cX8_light, 2, (some .int), false, 1, 8),
  (yX8_pours, cX8_pours, 3, none, false, 2, 8),
  (yX8_pour, cX8_pour, 3, (some .int), false, 2, 8),
  (yX8_set, cX8_set, 3, (some .int), false, 2, 8),
  (yX8_feed, cX8_feed, 5, (some .int), false, 2, 8),
  (yX8_here, cX8_here, 1, (some .int), false, 0, 8),
  (yX8_takes, cX8_takes, 3, (some .boolean), false, 1, 8),
  (yX8_codes, cX8_codes, 2, none, false, 1, 8),
  (yX8_either, cX8_either, 1, none, false, 0, 8),
  (yX8_both, cX8_both, 1, none, false, 0, 8),
  (yX8_compared, cX8_compared, 2, none, false, 0, 8),
  (yX8_sum, cX8_sum, 2, none, false, 0, 8),
  (yX8_product, cX8_product, 2, none, false, 0, 8),
  (yX8_nameOf, cX8_nameOf, 4, (some .int), false, 1, 8),
  (yX8_one, cX8_one, 4, none, false, 0, 8),
  (yX8_text, cX8_text, 3, (some .int), false, 1, 8),
  (yX8_untell, cX8_untell, 2, (some .int), false, 1, 8),
  (yX8_done, cX8_done, 3, (some .int), true, 3, 8),
  (yX8_worked, cX8_worked, 5, (some .int), false, 1, 8),
  (yX8_given, cX8_given, 7, (some .int), false, 5, 8),
  (yX8_sum_, cX8_sum_, 4, (some .int), false, 1, 8),
  (yX8_mayBe, cX8_mayBe, 1, (some .boolean), false, 0, 8),
  (yX8_may, cX8_may, 1, (some .int), false, 0, 8),
  (yX8_burnsOf, cX8_burnsOf, 4, (some .int), false, 1, 8),
  (yX8_more, cX8_more, 2, (some .int), true, 2, 8),
  (yX8_warms, cX8_warms, 3, none, false, 2, 8),
  (yX8_burns, cX8_burns, 3, (some .boolean), false, 1, 8),
  (yX8_glows, cX8_glows, 5, none, false, 1, 8),
  (yX8_next, cX8_next, 4, (some .int), true, 2, 8),
  (yX8_lies, cX8_lies, 6, none, false, 0, 8),
  (yX8_minute, cX8_minute, 2, none, false, 0, 8),
  (yX8_minutesGo, cX8_minutesGo, 3, none, false, 1, 8),
  (yX8_whyNot, cX8_whyNot, 2, (some .int), false, 1, 8),
  (yX8_minutes, cX8_minutes, 3, (some .int), false, 1, 8),
  (yX8_drawn, cX8_drawn, 2, (some .int), false, 1, 8),
  (yX8_gusts, cX8_gusts, 5, (some .int), false, 1, 8),
  (yX8_seed, cX8_seed, 2, (some .int), false, 1, 8),
  (yX8_isGarden, cX8_isGarden, 1, (some .boolean), true, 1, 8),
  (yX8_washing, cX8_washing, 6, (some .int), false, 3, 8),
  (yX8_garden, cX8_garden, 3, (some .int), false, 2, 8),
  (yX8_ofHeap, cX8_ofHeap, 4, (some .int), false, 1, 8),
  (yX8_heap, cX8_heap, 2, (some .int), false, 1, 8),
  (yX8_isAhead, cX8_isAhead, 1, (some .boolean), true, 1, 8),
  (yX8_then, cX8_then, 3, (some .int), false, 2, 8),
  (yX8_gardenThen, cX8_gardenThen, 4, (some .int), false, 3, 8),
  (yX8_bothered, cX8_bothered, 4, (some .long), false, 0, 8),
  (yX8_hour, cX8_hour, 9, (some .int), false, 2, 8),
  (yX8_spot, cX8_spot, 6, (some .int), false, 1, 8),
  (yX8_out, cX8_out, 4, (some .int), false, 1, 8),
  (yX8_catches, cX8_catches, 5, (some .int), false, 2, 8),
  (yX8_reach, cX8_reach, 7, (some .int), false, 1, 8),
  (yX8_bits, cX8_bits, 3, (some .int), true, 1, 8),
  (yX8_report, cX8_report, 4, (some .int), false, 2, 8),
  (yX8_from, cX8_from, 5, (some .int), false, 1, 8),
  (yX8_suspectsBut, cX8_suspectsBut, 4, (some .int), false, 1, 8),
  (yX8_suspects, cX8_suspects, 1, (some .int), false, 0, 8),
  (yX8_liar, cX8_liar, 5, (some .int), false, 0, 8),
  (yX8_began, cX8_began, 2, none, false, 1, 8),
  (yX8_hasOwn, cX8_hasOwn, 2, (some .boolean), true, 2, 8),
  (yX8_voiced, cX8_voiced, 3, (some .int), false, 2, 8),
  (yX8_bodyFrom, cX8_bodyFrom, 5, (some .int), false, 3, 8),
  (yX8_body, cX8_body, 6, (some .int), false, 3, 8),
  (yX8_voice, cX8_voice, 5, (some .int), false, 3, 8),
  (yX8_body_, cX8_body_, 2, (some .int), false, 1, 8),
  (yX8_isSheet, cX8_isSheet, 1, (some .boolean), true, 1, 8),
  (yX8_sheet, cX8_sheet, 5, (some .int), false, 3, 8),
  (yX8_put, cX8_put, 4, (some .int), false, 3, 8),
  (yX8_move, cX8_move, 7, (some .int), false, 5, 8),
  (yX8_armfuls, cX8_armfuls, 5, (some .int), false, 1, 8),
  (yX8_image, cX8_image, 1, (some .int), false, 0, 8),
  (yX8_restore, cX8_restore, 1, (some .int), false, 0, 8),
  (yX8_tell, cX8_tell, 2, (some .int), false, 1, 8),
  (yX8_check, cX8_check, 5, (some .int), false, 1, 8),
  (yX8_count, cX8_count, 2, (some .int), false, 1, 8),
  (yX8_told, cX8_told, 2, (some .int), false, 1, 8),
  (yJ0_isLatin1_aae02, cJ0_isLatin1_aae02, 1, (some .boolean), false, 0, 9),
  (yJ0_coder_7d493, cJ0_coder_7d493, 1, (some .byte), false, 0, 9),
  (yJ0_length_8abf5, cJ0_length_8abf5, 1, (some .int), false, 0, 9),
  (yJ1_canEncode_9a6ad, cJ1_canEncode_9a6ad, 1, (some .boolean), true, 1, 10),
  (yJ1_indexOfChar_4cfef, cJ1_indexOfChar_4cfef, 6, (some .int), true, 4, 10),
  (yJ1_indexOf_4cfef, cJ1_indexOf_4cfef, 4, (some .int), true, 4, 10),
  (yJ0_indexOf_7cf53, cJ0_indexOf_7cf53, 3, (some .int), false, 2, 9),
  (yJ0_indexOf_0f7a4, cJ0_indexOf_0f7a4, 2, (some .int), false, 1, 9),
  (yJ6_bitCount_0f7a4, cJ6_bitCount_0f7a4, 1, (some .int), true, 1, 11),
  (yJ3_checkIndex_8e157, cJ3_checkIndex_8e157, 3, (some .int), true, 3, 12),
  (yJ0_checkIndex_df160, cJ0_checkIndex_df160, 2, none, true, 2, 9),
  (yJ1_charAt_3b067, cJ1_charAt_3b067, 2, (some .char), true, 2, 10),
  (yJ0_charAt_5068e, cJ0_charAt_5068e, 2, (some .char), false, 1, 9)]
/-- what the constant pools name: by the class (its place in owT) and the entry; the last number: the place of the word -/
def linkT : List (List (Nat × Nat × Nat)) := [[(65, 105, 2001), (69, 103, 2002), (73, 4, 347), (86, 10, 764), (90, 14, 624), (94, 20, 651), (99, 15, 628), (103, 3, 638), (107, 17, 639), (110, 19, 647), (113, 12, 380), (116, 31, 632), (121, 33, 633), (125, 16, 634), (131, 18, 643), (137, 5, 655), (141, 21, 656), (145, 107, 2005), (148, 111, 2006), (151, 25, 777), (154, 29, 706), (158, 7, 710), (161, 30, 711)],
  [(28, 46, 881), (35, 34, 434)],
  [(37, 36, 482), (44, 39, 488), (64, 44, 500), (72, 40, 492), (75, 37, 598), (78, 38, 496), (82, 222, 504), (88, 45, 593), (91, 43, 586), (95, 42, 589), (98, 41, 594)],
  [],
  [],
  [(47, 0, 876), (51, 32, 877), (54, 46, 882), (65, 54, 792), (69, 107, 2007), (73, 111, 2008)],
  [(37, 58, 813), (48, 45, 820), (52, 56, 821), (56, 57, 822), (60, 105, 2009)],
  [(61, 2, 337), (65, 100, 351), (69, 104, 361), (73, 1, 364), (79, 3, 368), (83, 103, 355), (87, 26, 376), (91, 105, 392), (97, 110, 393), (101, 8, 406), (104, 101, 410), (108, 9, 437), (114, 10, 450), (136, 45, 467), (139, 106, 475), (142, 35, 478), (159, 46, 606), (163, 31, 414), (168, 13, 620), (172, 52, 671), (179, 107, 666), (185, 223, 684), (190, 27, 694), (193, 28, 702), (196, 109, 723), (199, 0, 726), (202, 14, 738), (206, 102, 739), (212, 11, 760), (215, 7, 422), (222, 24, 773), (231, 53, 788), (234, 55, 805), (238, 56, 809), (248, 44, 830), (252, 108, 835), (255, 48, 838), (257, 47, 847), (260, 49, 851), (263, 50, 855), (278, 51, 872), (284, 4, 895), (292, 6, 426), (296, 5, 418), (299, 33, 430), (303, 22, 743), (306, 20, 747), (309, 23, 748)],
  [(77, 116, 1301), (81, 113, 1003), (85, 119, 1020), (88, 122, 1016), (92, 124, 1012), (96, 120, 1029), (100, 125, 999), (105, 112, 1007), (109, 126, 1025), (113, 121, 1037), (117, 128, 1041), (121, 130, 1057), (124, 131, 1053), (128, 132, 1049), (131, 134, 1064), (135, 117, 1076), (138, 136, 1072), (142, 123, 1088), (145, 161, 1092), (150, 139, 1112), (153, 141, 1121), (167, 145, 1163), (174, 149, 1143), (177, 146, 1171), (180, 147, 1167), (183, 150, 1147), (186, 151, 1151), (189, 152, 1155), (192, 154, 1159), (198, 217, 1179), (201, 227, 1180), (208, 148, 1139), (211, 153, 1175), (214, 157, 1108), (218, 158, 1104), (221, 160, 1096), (223, 159, 1100), (227, 115, 1233), (235, 163, 1229), (238, 165, 1236), (244, 164, 1240), (249, 114, 1256), (252, 168, 1259), (255, 166, 1225), (258, 167, 1247), (261, 169, 1251), (264, 170, 1221), (268, 172, 1212), (271, 171, 1217), (275, 174, 1266), (278, 177, 1279), (281, 180, 1290), (284, 182, 1298), (287, 118, 1304), (290, 185, 1316), (294, 191, 1336), (297, 193, 1351), (300, 194, 1347), (309, 200, 1367), (312, 198, 1371), (318, 201, 1374), (321, 197, 1378), (324, 199, 1363), (328, 204, 1391)],
  [(335, 216, 522), (492, 215, 512), (495, 226, 1184), (505, 217, 518), (633, 221, 508), (637, 220, 526), (1059, 224, 1190)],
  [(9, 225, 1187), (88, 218, 529), (95, 219, 534)],
  [],
  []]
def fldT : List (List (Nat × Nat × Nat × Nat)) := [[(9, 0, 0, 106), (15, 0, 1, 108), (18, 0, 2, 110), (21, 0, 3, 112), (24, 0, 4, 114), (27, 0, 5, 115), (31, 0, 6, 117), (34, 0, 7, 119), (37, 0, 8, 121), (40, 0, 9, 122), (43, 0, 10, 123), (47, 0, 11, 124), (50, 0, 12, 126), (53, 0, 13, 127)],
  [(11, 1, 0, 192), (17, 1, 1, 194), (24, 3, 1, 182), (32, 3, 0, 177)],
  [(14, 2, 0, 242), (20, 2, 1, 244), (25, 2, 2, 245), (29, 2, 3, 246), (33, 2, 4, 247), (41, 3, 1, 184), (68, 3, 0, 179)],
  [(13, 3, 0, 176), (19, 3, 1, 181)],
  [(9, 4, 0, 293), (15, 4, 1, 295), (19, 4, 2, 297)],
  [(12, 5, 0, 202), (21, 5, 1, 204), (30, 5, 2, 206), (34, 5, 3, 208), (37, 5, 4, 210), (40, 5, 5, 212), (43, 5, 6, 214), (58, 3, 1, 185), (61, 3, 0, 178)],
  [(14, 6, 0, 268), (20, 6, 1, 270), (24, 6, 2, 272), (28, 6, 3, 273), (31, 6, 4, 274), (34, 3, 1, 183)],
  [(10, 7, 0, 305), (16, 7, 1, 306), (22, 7, 2, 307), (29, 7, 3, 308), (36, 7, 4, 309), (42, 7, 5, 310), (47, 7, 6, 311), (51, 7, 7, 312), (54, 7, 8, 313), (58, 5, 0, 203), (76, 0, 1, 109), (94, 0, 0, 107), (111, 0, 3, 113), (118, 0, 2, 111), (124, 0, 6, 118), (127, 5, 2, 207), (131, 3, 1, 186), (146, 5, 1, 205), (150, 1, 0, 193), (156, 2, 0, 243), (164, 0, 13, 128), (176, 5, 6, 215), (182, 0, 7, 120), (209, 0, 11, 125), (218, 0, 5, 116), (225, 5, 3, 209), (228, 5, 4, 211), (241, 6, 1, 271), (245, 6, 0, 269), (249, 3, 0, 180), (266, 4, 1, 296), (269, 4, 0, 294), (281, 5, 5, 213)],
  [(9, 8, 0, 916), (13, 8, 1, 917), (16, 8, 2, 918), (19, 8, 4, 920), (22, 8, 5, 921), (25, 8, 6, 922), (28, 8, 7, 923), (39, 8, 8, 924), (43, 8, 13, 929), (46, 8, 15, 931), (49, 8, 16, 932), (52, 8, 18, 934), (55, 8, 22, 938), (58, 8, 23, 939), (61, 8, 24, 940), (64, 8, 25, 941), (159, 8, 12, 928), (163, 8, 9, 925), (171, 8, 14, 930), (195, 8, 11, 927), (205, 8, 10, 926), (241, 8, 17, 933), (303, 8, 19, 935), (306, 8, 20, 936), (315, 8, 21, 937), (331, 8, 3, 919)],
  [(9, 9, 0, 1432), (15, 9, 1, 1431)],
  [],
  [],
  []]
def sttT : List (List (Nat × Nat × Nat)) := [[(56, 109, 2000), (128, 105, 2003), (134, 106, 2004)],
  [],
  [],
  [],
  [],
  [],
  [(41, 104, 2011), (45, 108, 2010)],
  [(121, 107, 461), (312, 104, 396)],
  [],
  [(38, 200, 516), (1053, 201, 555)],
  [],
  [],
  []]
def ldcT : List (List (Nat × Value × Nat)) := [[(98, .int 1999999999, 637)],
  [],
  [(23, .ref 110, 3000), (48, .ref 111, 3001), (50, .ref 112, 3002), (52, .ref 113, 3003), (54, .ref 114, 3004), (56, .ref 115, 3005), (58, .ref 116, 3006), (60, .ref 117, 3007), (62, .ref 118, 3008)],
  [],
  [],
  [(57, .int 1103515245, 675)],
  [],
  [(167, .int 99999, 619), (295, .int (-1000000), 356)],
  [(33, .ref 119, 3009), (35, .ref 120, 3010), (37, .ref 121, 3011), (67, .int (-1000000), 1011), (104, .int (-1000001), 1006), (108, .int (-1000004), 1024), (116, .int (-1000002), 1040), (134, .int (-1000005), 1067), (149, .int (-1000003), 1111), (267, .int 99999, 1216), (274, .int 1103515245, 1270), (327, .int (-1000006), 1382)],
  [],
  [],
  [(265, .int 1431655765, 687), (266, .int 858993459, 688), (267, .int 252645135, 689)],
  []]
def ld2T : List (List (Nat × Int64 × Nat)) := [[],
  [],
  [],
  [],
  [],
  [],
  [],
  [],
  [(157, 255, 1134), (230, 1999999999, 1243), (247, 100, 1255)],
  [],
  [],
  [],
  []]
def acpT : List (Nat × Nat) := [(0, 59), (7, 272)]
def acpP : List Nat := [103, 863]
def mxT : List (Nat × Nat) := [(3, 7), (0, 77), (10, 92), (8, 74)]
def mxP : List Nat := [173, 441, 532, 1116]
def miT : List (Nat × Nat) := [(0, 83), (10, 38), (3, 23), (4, 22), (7, 287), (8, 68)]
def miP : List Nat := [454, 533, 610, 842, 896, 1125]
def mjT : List (Nat × Nat) := [(8, 232)]
def mjP : List Nat := [1244]
def nestW : List Cond := [.fieldLinkNest "SmokyHeap$Heap" 56 "SmokyHeap" "SETTINGS_FIRST" "[I" "SmokyHeap",
  .methodLinkNest "SmokyHeap$Heap" 65 (⟨"SmokyHeap", "isKind", "(I)Z"⟩) "SmokyHeap",
  .methodLinkNest "SmokyHeap$Heap" 69 (⟨"SmokyHeap", "within", "(III)Z"⟩) "SmokyHeap",
  .fieldLinkNest "SmokyHeap$Heap" 128 "SmokyHeap" "HEATS" "[I" "SmokyHeap",
  .fieldLinkNest "SmokyHeap$Heap" 134 "SmokyHeap" "CATCHES" "[I" "SmokyHeap",
  .methodLinkNest "SmokyHeap$Heap" 145 (⟨"SmokyHeap", "isGarden", "(I)Z"⟩) "SmokyHeap",
  .methodLinkNest "SmokyHeap$Heap" 148 (⟨"SmokyHeap", "nextGarden", "(II)I"⟩) "SmokyHeap",
  .methodLinkNest "SmokyHeap$State" 69 (⟨"SmokyHeap", "isGarden", "(I)Z"⟩) "SmokyHeap",
  .methodLinkNest "SmokyHeap$State" 73 (⟨"SmokyHeap", "nextGarden", "(II)I"⟩) "SmokyHeap",
  .methodLinkNest "SmokyHeap$Voices" 60 (⟨"SmokyHeap", "isKind", "(I)Z"⟩) "SmokyHeap",
  .fieldLinkNest "SmokyHeap$Voices" 45 "SmokyHeap" "BODIES" "[I" "SmokyHeap",
  .fieldLinkNest "SmokyHeap$Voices" 41 "SmokyHeap" "KIND_ABOVE" "[I" "SmokyHeap"]
def kT : List (String × Nat × String) := [("SmokyHeap$Reader", 23, ""), ("SmokyHeap$Reader", 48, "dswr"), ("SmokyHeap$Reader", 50, "hwln"), ("SmokyHeap$Reader", 52, "hws"), ("SmokyHeap$Reader", 54, "|"), ("SmokyHeap$Reader", 56, "&"), ("SmokyHeap$Reader", 58, "<=>"), ("SmokyHeap$Reader", 60, "+-"), ("SmokyHeap$Reader", 62, "*/%"), ("SmokyHeapModel", 33, "dswr"), ("SmokyHeapModel", 35, "hwln"), ("SmokyHeapModel", 37, "hws")]
def snT : List String := ["KIND_ABOVE", "HEATS", "CATCHES", "SETTINGS_MOST", "BODIES", "SETTINGS_FIRST"]
def mpT : List (Nat × Nat × Nat × Nat) := [(729, 727, 728, 66), (367, 365, 366, 66), (340, 338, 339, 66), (371, 369, 370, 66), (350, 348, 349, 66), (421, 419, 420, 66), (429, 427, 428, 66), (425, 423, 424, 66), (409, 407, 408, 66), (440, 438, 439, 66), (453, 451, 452, 66), (763, 761, 762, 66), (383, 381, 382, 66), (623, 621, 622, 66), (627, 625, 626, 66), (631, 630, 7, 66), (636, 635, 0, 66), (642, 641, 8, 66), (646, 645, 9, 66), (650, 649, 10, 66), (654, 652, 653, 66), (659, 658, 11, 66), (746, 744, 745, 66), (751, 749, 750, 66), (776, 774, 775, 66), (779, 778, 0, 66), (379, 377, 378, 66), (697, 695, 696, 66), (705, 703, 704, 66), (709, 708, 12, 66), (714, 713, 13, 66), (417, 415, 416, 68), (880, 878, 879, 68), (433, 431, 432, 68), (436, 435, 0, 68), (481, 479, 480, 71), (484, 483, 0, 71), (600, 599, 0, 71), (499, 498, 4, 71), (491, 490, 2, 71), (495, 494, 3, 71), (597, 596, 6, 71), (592, 591, 5, 71), (588, 587, 0, 71), (503, 501, 502, 69), (470, 468, 469, 69), (609, 607, 608, 69), (850, 848, 849, 73), (841, 839, 840, 73), (854, 852, 853, 73), (858, 856, 857, 73), (875, 873, 874, 65), (674, 672, 673, 65), (791, 789, 790, 65), (794, 793, 0, 65), (808, 806, 807, 72), (812, 810, 811, 72), (825, 824, 15, 72), (815, 814, 0, 72), (336, 334, 335, 64), (360, 358, 359, 64), (375, 373, 374, 64), (391, 389, 390, 64), (401, 399, 400, 64), (405, 403, 404, 64), (445, 443, 444, 64), (449, 447, 448, 64), (460, 458, 459, 64), (466, 464, 465, 64), (474, 472, 473, 64), (614, 612, 613, 64), (618, 616, 617, 64), (670, 668, 669, 64), (679, 677, 678, 64), (683, 681, 682, 64), (693, 691, 692, 64), (701, 699, 700, 64), (718, 716, 717, 64), (722, 720, 721, 64), (733, 731, 732, 64), (737, 735, 736, 64), (755, 753, 754, 64), (759, 757, 758, 64), (768, 766, 767, 64), (772, 770, 771, 64), (783, 781, 782, 64), (787, 785, 786, 64), (800, 798, 799, 64), (804, 802, 803, 64), (829, 827, 828, 64), (834, 832, 833, 64), (846, 844, 845, 64), (862, 860, 861, 64), (867, 865, 866, 64), (871, 869, 870, 64), (886, 884, 885, 64), (890, 888, 889, 64), (894, 892, 893, 64), (900, 898, 899, 64), (904, 902, 903, 64), (354, 353, 0, 64), (413, 412, 1, 64), (742, 741, 14, 64), (346, 345, 0, 64), (363, 362, 0, 64), (343, 342, 0, 64), (477, 476, 0, 64), (662, 661, 0, 64), (837, 836, 0, 64), (725, 724, 0, 64), (395, 394, 0, 64), (665, 664, 0, 64), (1010, 1009, 17, 74), (1005, 1004, 0, 74), (1258, 1257, 0, 74), (1235, 1234, 0, 74), (1303, 1302, 0, 74), (1079, 1078, 27, 74), (1307, 1306, 55, 74), (1023, 1022, 20, 74), (1032, 1031, 22, 74), (1039, 1038, 0, 74), (1019, 1018, 19, 74), (1091, 1090, 28, 74), (1015, 1014, 18, 74), (1002, 1001, 16, 74), (1028, 1027, 21, 74), (998, 996, 997, 74), (1044, 1043, 23, 74), (1036, 1034, 1035, 74), (1059, 1058, 0, 74), (1056, 1055, 25, 74), (1052, 1051, 24, 74), (1048, 1046, 1047, 74), (1066, 1065, 0, 74), (1063, 1061, 1062, 74), (1075, 1074, 26, 74), (1071, 1069, 1070, 74), (1083, 1081, 1082, 74), (1115, 1114, 33, 74), (1087, 1085, 1086, 74), (1124, 1123, 34, 74), (1120, 1118, 1119, 74), (1129, 1127, 1128, 74), (1133, 1131, 1132, 74), (1166, 1165, 41, 74), (1174, 1173, 43, 74), (1170, 1169, 42, 74), (1142, 1141, 35, 74), (1146, 1145, 36, 74), (1150, 1149, 37, 74), (1154, 1153, 38, 74), (1158, 1157, 39, 74), (1178, 1177, 44, 74), (1162, 1161, 40, 74), (1138, 1136, 1137, 74), (1203, 1201, 1202, 74), (1110, 1109, 0, 74), (1107, 1106, 32, 74), (1103, 1102, 31, 74), (1099, 1098, 30, 74), (1095, 1094, 29, 74), (1207, 1205, 1206, 74), (1232, 1231, 49, 74), (1242, 1241, 0, 74), (1239, 1238, 50, 74), (1228, 1227, 48, 74), (1250, 1249, 51, 74), (1261, 1260, 0, 74), (1254, 1253, 52, 74), (1224, 1223, 47, 74), (1220, 1219, 46, 74), (1215, 1214, 45, 74), (1211, 1209, 1210, 74), (1269, 1268, 53, 74), (1265, 1263, 1264, 74), (1274, 1272, 1273, 74), (1281, 1280, 0, 74), (1278, 1276, 1277, 74), (1285, 1283, 1284, 74), (1293, 1292, 54, 74), (1289, 1287, 1288, 74), (1300, 1299, 0, 74), (1297, 1295, 1296, 74), (1311, 1309, 1310, 74), (1319, 1318, 56, 74), (1315, 1313, 1314, 74), (1323, 1321, 1322, 74), (1327, 1325, 1326, 74), (1331, 1329, 1330, 74), (1335, 1333, 1334, 74), (1338, 1337, 0, 74), (1342, 1340, 1341, 74), (1354, 1353, 58, 74), (1350, 1349, 57, 74), (1346, 1344, 1345, 74), (1358, 1356, 1357, 74), (1381, 1380, 62, 74), (1373, 1372, 0, 74), (1366, 1365, 59, 74), (1370, 1369, 60, 74), (1377, 1376, 61, 74), (1362, 1360, 1361, 74), (1386, 1384, 1385, 74), (1393, 1392, 0, 74), (1390, 1388, 1389, 74), (1397, 1395, 1396, 74), (1401, 1399, 1400, 74), (1405, 1403, 1404, 74), (1409, 1407, 1408, 74), (1413, 1411, 1412, 74), (1417, 1415, 1416, 74), (1421, 1419, 1420, 74), (1425, 1423, 1424, 74), (1429, 1427, 1428, 74), (515, 513, 514, 75), (525, 523, 524, 75), (521, 519, 520, 75), (531, 530, 0, 76), (536, 535, 0, 76), (528, 527, 0, 76), (511, 509, 510, 75), (507, 505, 506, 75), (686, 685, 0, 80), (1192, 1191, 0, 78), (1189, 1188, 0, 75), (1186, 1185, 0, 76), (1183, 1181, 1182, 75)]
def acW : Nat × Nat × Nat := (105, 104, 67)
def mxW : Nat × Nat := (174, 455)
def mjW : Nat × Nat := (1245, 70)
def mxC : Nat := 175
def miC : Nat := 456
def mjC : Nat := 1246
def stv (k : Nat) : Value := if k = 200 then .int 1 else if k = 201 then .retAddr 0 else .ref k
def shp (o : Nat) : Nat × Nat := shpT.getD o (99, 0)
def cr (o k : Nat) : Nat := (crT.getD o []).getD k 0
def fk (c k : Nat) : Nat := (fkT.getD c []).getD k 9
def fv (σ : Hs) (o c k : Nat) : Value := if fk c k = 2 then .ref (cr o k) else if fk c k = 3 then .ref (σ o k).toNatClampNeg else .int (σ o k)
def isIA (o : Nat) : Bool := (shp o).1 == 10 || (decide (104 ≤ o) && decide (o < 110))
def aln (o : Nat) : Nat := if o < 104 then (shp o).2 else (stbT.getD (o - 104) []).length
def rdA (σ : Hs) (o j : Nat) : Int32 := if o < 104 then σ o j else (stbT.getD (o - 104) []).getD j 0
def mt (m : Nat) : MethodName × ByteArray × Nat × Option FieldType × Bool × Nat × Nat := mT.getD m (⟨"", "", ""⟩, ⟨#[]⟩, 0, none, false, 0, 0)
def my (m : Nat) : MethodName := (mt m).1
def mb (m : Nat) : ByteArray := (mt m).2.1
def ml (m : Nat) : Nat := (mt m).2.2.1
def mr (m : Nat) : Option FieldType := (mt m).2.2.2.1
def ms_ (m : Nat) : Bool := (mt m).2.2.2.2.1
def mn (m : Nat) : Nat := (mt m).2.2.2.2.2.1
def mo (m : Nat) : Nat := (mt m).2.2.2.2.2.2
def ow (k : Nat) : String := owT.getD k ""
def lkM (o i : Nat) : Option (Nat × Nat) := (linkT.getD o []).lookup i
def lkF (o i : Nat) : Option (Nat × Nat × Nat) := (fldT.getD o []).lookup i
def lkS (o i : Nat) : Option (Nat × Nat) := (sttT.getD o []).lookup i
def lkC (o i : Nat) : Option (Value × Nat) := (ldcT.getD o []).lookup i
def lkL (o i : Nat) : Option (Int64 × Nat) := (ld2T.getD o []).lookup i
/-- the receiver of a method: an object of its class -/
def obk (o c : Nat) : Bool := (decide (o < 104) && (decide (c < 9) && (shp o).1 == c)) || (c == 9 && (decide (110 ≤ o) && decide (o < 122)))
noncomputable def gd {α : Type} (P : Prop) (x : Option α) : Option α := @ite _ P (Classical.propDecidable P) x none
theorem gd_pos {α : Type} {P : Prop} {x : Option α} (h : P) : gd P x = x := if_pos h
theorem gd_neg {α : Type} {P : Prop} {x : Option α} (h : ¬ P) : gd P x = none := if_neg h
theorem gd_some {α : Type} {P : Prop} {x : Option α} {y : α} (h : gd P x = some y) : P ∧ x = some y := by
  by_cases hP : P
  · rw [gd_pos hP] at h; exact ⟨hP, h⟩
  · rw [gd_neg hP] at h; cases h
def s1i {α : Type} (st : List Value) (f : Int32 → List Value → Option α) : Option α := match st with
  | .int x :: r => f x r
  | _ => none
def s2i {α : Type} (st : List Value) (f : Int32 → Int32 → List Value → Option α) : Option α := match st with
  | .int y :: .int x :: r => f x y r
  | _ => none
def s1l {α : Type} (st : List Value) (f : Int64 → List Value → Option α) : Option α := match st with
  | .long x :: r => f x r
  | _ => none
def s2l {α : Type} (st : List Value) (f : Int64 → Int64 → List Value → Option α) : Option α := match st with
  | .long y :: .long x :: r => f x y r
  | _ => none
def sil {α : Type} (st : List Value) (f : Int64 → Int32 → List Value → Option α) : Option α := match st with
  | .int y :: .long x :: r => f x y r
  | _ => none
def s1r {α : Type} (st : List Value) (f : Nat → List Value → Option α) : Option α := match st with
  | .ref o :: r => f o r
  | _ => none
def sir {α : Type} (st : List Value) (f : Nat → Int32 → List Value → Option α) : Option α := match st with
  | .int i :: .ref o :: r => f o i r
  | _ => none
def siir {α : Type} (st : List Value) (f : Nat → Int32 → Int32 → List Value → Option α) : Option α := match st with
  | .int x :: .int i :: .ref o :: r => f o i x r
  | _ => none
def sany {α : Type} (st : List Value) (f : Value → List Value → Option α) : Option α := match st with
  | v :: r => f v r
  | _ => none
def o1i {α : Type} (v : Option Value) (f : Int32 → Option α) : Option α := match v with
  | some (.int x) => f x
  | _ => none
def o1l {α : Type} (v : Option Value) (f : Int64 → Option α) : Option α := match v with
  | some (.long x) => f x
  | _ => none
def o1r {α : Type} (v : Option Value) (f : Nat → Option α) : Option α := match v with
  | some (.ref x) => f x
  | _ => none
theorem s1i_some {α : Type} {st : List Value} {f : Int32 → List Value → Option α} {q : α} (h : s1i st f = some q) : ∃ x r, st = .int x :: r ∧ f x r = some q := by
  unfold s1i at h; split at h
  · exact ⟨_, _, rfl, h⟩
  · cases h
theorem s2i_some {α : Type} {st : List Value} {f : Int32 → Int32 → List Value → Option α} {q : α} (h : s2i st f = some q) : ∃ x y r, st = .int y :: .int x :: r ∧ f x y r = some q := by
  unfold s2i at h; split at h
  · exact ⟨_, _, _, rfl, h⟩
  · cases h
theorem s1l_some {α : Type} {st : List Value} {f : Int64 → List Value → Option α} {q : α} (h : s1l st f = some q) : ∃ x r, st = .long x :: r ∧ f x r = some q := by
  unfold s1l at h; split at h
  · exact ⟨_, _, rfl, h⟩
  · cases h
theorem s2l_some {α : Type} {st : List Value} {f : Int64 → Int64 → List Value → Option α} {q : α} (h : s2l st f = some q) : ∃ x y r, st = .long y :: .long x :: r ∧ f x y r = some q := by
  unfold s2l at h; split at h
  · exact ⟨_, _, _, rfl, h⟩
  · cases h
theorem sil_some {α : Type} {st : List Value} {f : Int64 → Int32 → List Value → Option α} {q : α} (h : sil st f = some q) : ∃ x y r, st = .int y :: .long x :: r ∧ f x y r = some q := by
  unfold sil at h; split at h
  · exact ⟨_, _, _, rfl, h⟩
  · cases h
theorem s1r_some {α : Type} {st : List Value} {f : Nat → List Value → Option α} {q : α} (h : s1r st f = some q) : ∃ (x : Nat) (r : List Value), st = .ref x :: r ∧ f x r = some q := by
  unfold s1r at h; split at h
  · exact ⟨_, _, rfl, h⟩
  · cases h
theorem sir_some {α : Type} {st : List Value} {f : Nat → Int32 → List Value → Option α} {q : α} (h : sir st f = some q) : ∃ (o : Nat) (i : Int32) (r : List Value), st = .int i :: .ref o :: r ∧ f o i r = some q := by
  unfold sir at h; split at h
  · exact ⟨_, _, _, rfl, h⟩
  · cases h
theorem siir_some {α : Type} {st : List Value} {f : Nat → Int32 → Int32 → List Value → Option α} {q : α} (h : siir st f = some q) : ∃ (o : Nat) (i x : Int32) (r : List Value), st = .int x :: .int i :: .ref o :: r ∧ f o i x r = some q := by
  unfold siir at h; split at h
  · exact ⟨_, _, _, _, rfl, h⟩
  · cases h
theorem sany_some {α : Type} {st : List Value} {f : Value → List Value → Option α} {q : α} (h : sany st f = some q) : ∃ v r, st = v :: r ∧ f v r = some q := by
  unfold sany at h; split at h
  · exact ⟨_, _, rfl, h⟩
  · cases h
theorem o1i_some {α : Type} {v : Option Value} {f : Int32 → Option α} {q : α} (h : o1i v f = some q) : ∃ x, v = some (.int x) ∧ f x = some q := by
  unfold o1i at h; split at h
  · exact ⟨_, rfl, h⟩
  · cases h
theorem o1l_some {α : Type} {v : Option Value} {f : Int64 → Option α} {q : α} (h : o1l v f = some q) : ∃ x, v = some (.long x) ∧ f x = some q := by
  unfold o1l at h; split at h
  · exact ⟨_, rfl, h⟩
  · cases h
theorem o1r_some {α : Type} {v : Option Value} {f : Nat → Option α} {q : α} (h : o1r v f = some q) : ∃ x : Nat, v = some (.ref x) ∧ f x = some q := by
  unfold o1r at h; split at h
  · exact ⟨_, rfl, h⟩
  · cases h
/-- the target of a jump -/
def tgt (pc : Nat) (off : Int) : Option Nat := if 0 ≤ (pc : Int) + off then some ((pc : Int) + off).toNat else none
theorem tgt_some {pc t : Nat} {off : Int} (h : tgt pc off = some t) : (pc : Int) + off = (t : Int) := by
  unfold tgt at h
  by_cases h0 : 0 ≤ (pc : Int) + off
  · rw [if_pos h0] at h; cases h; omega
  · rw [if_neg h0] at h; cases h
/-- a condition of a jump -/
def cnd (c : ClassFile.Cond) (x y : Int32) : Bool := match c with
  | .eq => decide (x = y)
  | .ne => decide (¬ x = y)
  | .lt => decide (x < y)
  | .ge => decide (y ≤ x)
  | .gt => decide (y < x)
  | .le => decide (x ≤ y)
/-- a place in the locals into which one word may go -/
def okS (L : List Value) (i : Nat) : Prop := i < L.length ∧ (L.getD (i - 1) uu).category = 1
def okS2 (L : List Value) (i : Nat) : Prop := i + 1 < L.length ∧ (L.getD (i - 1) uu).category = 1
def tsw (lo hi : Int) (offs : Array Int) (d : Int) (x : Int) : Option Int := if x < lo ∨ hi < x then some d else offs[(x - lo).toNat]?
def srt (ps : Array (Int × Int)) : Bool := (ps.toList.zip (ps.toList.drop 1)).all (fun (a, next) => a.1 < next.1)
def cats (st : List Value) : Nat := (st.map fun v => v.category).sum
def dropC (n : Nat) (st : List Value) : Prop := cats (st.drop n) ≤ 8
def bndC (σ : Hs) (a b : Nat) (sp dp n : Int32) : Prop := a < 104 ∧ b < 104 ∧ ((shp a).1 = 10 ∨ (shp a).1 = 11) ∧ (shp b).1 = (shp a).1 ∧ ¬ sp < 0 ∧ ¬ dp < 0 ∧ ¬ n < 0 ∧ sp.toNatClampNeg + n.toNatClampNeg ≤ (shp b).2 ∧ dp.toNatClampNeg + n.toNatClampNeg ≤ (shp a).2 ∧ ((shp a).1 = 11 → ∀ i, i < n.toNatClampNeg → fits .boolean (.int (σ b (sp.toNatClampNeg + i))) = true)
def fty (c k : Nat) : FieldType := (ftyT.getD c []).getD k .int
noncomputable def retI (st : List Value) (r : Option FieldType) (σ : Hs) : Option Sr := match st, r with
  | [.int x], some ty => gd (narrow ty (.int x) = .int x) (some (.inr (some (.int x), σ)))
  | _, _ => none
def retA (st : List Value) (r : Option FieldType) (σ : Hs) : Option Sr := match st, r with
  | [.ref x], some (.object _) => some (.inr (some (.ref x), σ))
  | _, _ => none
def retL (st : List Value) (r : Option FieldType) (σ : Hs) : Option Sr := match st, r with
  | [.long x], some .long => some (.inr (some (.long x), σ))
  | _, _ => none
def retV (st : List Value) (r : Option FieldType) (σ : Hs) : Option Sr := match st, r with
  | [], none => some (.inr (none, σ))
  | _, _ => none
noncomputable def opI (call : Nat → List Value → Hs → Rs) (mi pc : Nat) (L st : List Value) (σ : Hs) (ins : Instr) (len : Nat) : Option Sr := match ins with
  | .iconst n => gd (len = 1) (some (.inl (pc + 1, L, .int (Int32.ofInt n) :: st, σ)))
  | .bipush n => gd (len = 2) (some (.inl (pc + 2, L, .int (Int8.ofInt n).toInt32 :: st, σ)))
  | .sipush n => gd (len = 3) (some (.inl (pc + 3, L, .int (Int16.ofInt n).toInt32 :: st, σ)))
  | .lconst n => gd (len = 1) (some (.inl (pc + 1, L, .long (Int64.ofNat (n : Nat)) :: st, σ)))
  | .iload_n k => gd (len = 1) (o1i L[(k : Nat)]? fun x => some (.inl (pc + 1, L, .int x :: st, σ)))
  | .iload i => gd (len = 2) (o1i L[i]? fun x => some (.inl (pc + 2, L, .int x :: st, σ)))
  | .lload_n k => gd (len = 1) (o1l L[(k : Nat)]? fun x => some (.inl (pc + 1, L, .long x :: st, σ)))
  | .lload i => gd (len = 2) (o1l L[i]? fun x => some (.inl (pc + 2, L, .long x :: st, σ)))
  | .aload_n k => gd (len = 1) (o1r L[(k : Nat)]? fun x => some (.inl (pc + 1, L, .ref x :: st, σ)))
  | .aload i => gd (len = 2) (o1r L[i]? fun x => some (.inl (pc + 2, L, .ref x :: st, σ)))
  | .istore_n k => gd (len = 1 ∧ okS L (k : Nat)) (s1i st fun x r => some (.inl (pc + 1, L.set (k : Nat) (.int x), r, σ)))
  | .istore i => gd (len = 2 ∧ okS L i) (s1i st fun x r => some (.inl (pc + 2, L.set i (.int x), r, σ)))
  | .astore_n k => gd (len = 1 ∧ okS L (k : Nat)) (s1r st fun x r => some (.inl (pc + 1, L.set (k : Nat) (.ref x), r, σ)))
  | .astore i => gd (len = 2 ∧ okS L i) (s1r st fun x r => some (.inl (pc + 2, L.set i (.ref x), r, σ)))
  | .lstore_n k => gd (len = 1 ∧ okS2 L (k : Nat)) (s1l st fun x r => some (.inl (pc + 1, (L.set (k : Nat) (.long x)).set ((k : Nat) + 1) uu, r, σ)))
  | .lstore i => gd (len = 2 ∧ okS2 L i) (s1l st fun x r => some (.inl (pc + 2, (L.set i (.long x)).set (i + 1) uu, r, σ)))
  | .iinc i n => gd (len = 3 ∧ okS L i) (o1i L[i]? fun x => some (.inl (pc + 3, L.set i (.int (x + Int32.ofInt n)), st, σ)))
  | .iadd => gd (len = 1) (s2i st fun x y r => some (.inl (pc + 1, L, .int (x + y) :: r, σ)))
  | .isub => gd (len = 1) (s2i st fun x y r => some (.inl (pc + 1, L, .int (x - y) :: r, σ)))
  | .imul => gd (len = 1) (s2i st fun x y r => some (.inl (pc + 1, L, .int (x * y) :: r, σ)))
  | .iand => gd (len = 1) (s2i st fun x y r => some (.inl (pc + 1, L, .int (x &&& y) :: r, σ)))
  | .ior => gd (len = 1) (s2i st fun x y r => some (.inl (pc + 1, L, .int (x ||| y) :: r, σ)))
  | .ixor => gd (len = 1) (s2i st fun x y r => some (.inl (pc + 1, L, .int (x ^^^ y) :: r, σ)))
  | .idiv => gd (len = 1) (s2i st fun x y r => gd (¬ y = 0) (some (.inl (pc + 1, L, .int (x / y) :: r, σ))))
  | .irem => gd (len = 1) (s2i st fun x y r => gd (¬ y = 0) (some (.inl (pc + 1, L, .int (x - x / y * y) :: r, σ))))
  | .ineg => gd (len = 1) (s1i st fun x r => some (.inl (pc + 1, L, .int (-x) :: r, σ)))
  | .ishl => gd (len = 1) (s2i st fun x y r => some (.inl (pc + 1, L, .int (x <<< (y &&& 31)) :: r, σ)))
  | .ishr => gd (len = 1) (s2i st fun x y r => some (.inl (pc + 1, L, .int (x >>> (y &&& 31)) :: r, σ)))
  | .iushr => gd (len = 1) (s2i st fun x y r => some (.inl (pc + 1, L, .int (x.toUInt32 >>> (y.toUInt32 &&& Int32.toUInt32 31)).toInt32 :: r, σ)))
  | .ladd => gd (len = 1) (s2l st fun x y r => some (.inl (pc + 1, L, .long (x + y) :: r, σ)))
  | .lmul => gd (len = 1) (s2l st fun x y r => some (.inl (pc + 1, L, .long (x * y) :: r, σ)))
  | .ldiv => gd (len = 1) (s2l st fun x y r => gd (¬ y = 0) (some (.inl (pc + 1, L, .long (x / y) :: r, σ))))
  | .land => gd (len = 1) (s2l st fun x y r => some (.inl (pc + 1, L, .long (x &&& y) :: r, σ)))
  | .lcmp => gd (len = 1) (s2l st fun x y r => some (.inl (pc + 1, L, .int (lg_cmp x y) :: r, σ)))
  | .lushr => gd (len = 1) (sil st fun x y r => some (.inl (pc + 1, L, .long (x.toUInt64 >>> (y.toInt64.toUInt64 &&& Int64.toUInt64 63)).toInt64 :: r, σ)))
  | .lshr => gd (len = 1) (sil st fun x y r => some (.inl (pc + 1, L, .long (x >>> (y.toInt64 &&& 63)) :: r, σ)))
  | .i2l => gd (len = 1) (s1i st fun x r => some (.inl (pc + 1, L, .long x.toInt64 :: r, σ)))
  | .l2i => gd (len = 1) (s1l st fun x r => some (.inl (pc + 1, L, .int x.toInt32 :: r, σ)))
  | .i2b => gd (len = 1) (s1i st fun x r => some (.inl (pc + 1, L, .int x.toInt8.toInt32 :: r, σ)))
  | .i2s => gd (len = 1) (s1i st fun x r => some (.inl (pc + 1, L, .int x.toInt16.toInt32 :: r, σ)))
  | .i2c => gd (len = 1) (s1i st fun x r => some (.inl (pc + 1, L, .int (x.toUInt32 % 65536).toInt32 :: r, σ)))
  | .dup => gd (len = 1) (sany st fun v r => gd (v.category = 1) (some (.inl (pc + 1, L, v :: v :: r, σ))))
  | .pop => gd (len = 1) (sany st fun v r => gd (v.category = 1) (some (.inl (pc + 1, L, r, σ))))
  | .dup2 => gd (len = 1) (sany st fun v r => sany r fun w r => gd (v.category = 1 ∧ w.category = 1) (some (.inl (pc + 1, L, v :: w :: v :: w :: r, σ))))
  | .goto off => gd (len = 3) ((tgt pc off).bind fun t => some (.inl (t, L, st, σ)))
  | .ifCond c off => gd (len = 3) ((tgt pc off).bind fun t => s1i st fun x r => some (.inl (if cnd c x 0 = true then t else pc + 3, L, r, σ)))
  | .if_icmp c off => gd (len = 3) ((tgt pc off).bind fun t => s2i st fun x y r => some (.inl (if cnd c x y = true then t else pc + 3, L, r, σ)))
  | .tableswitch d lo hi offs => s1i st fun x r => (tsw lo hi offs d x.toInt).bind fun off => (tgt pc off).bind fun t => some (.inl (t, L, r, σ))
  | .lookupswitch d ps => gd (srt ps = true) (s1i st fun x r => (tgt pc (Op.lookupswitch.offset ps.toList d x.toInt)).bind fun t => some (.inl (t, L, r, σ)))
  | .getfield i => gd (len = 3) (s1r st fun o r => (lkF (mo mi) i).bind fun q => gd (obk o q.1 = true) (some (.inl (pc + 3, L, (if o < 104 then fv σ o q.1 q.2.1 else if q.2.1 = 0 then .ref (o + 12) else .int 0) :: r, σ))))
  | .putfield i => gd (len = 3) (sany st fun v r => s1r r fun o r => (lkF (mo mi) i).bind fun q => gd (o < 104 ∧ (shp o).1 = q.1) (match v with
      | .int x => gd ((fk q.1 q.2.1 = 0 ∨ fk q.1 q.2.1 = 1) ∧ narrow (fty q.1 q.2.1) (.int x) = .int x ∧ fits (fty q.1 q.2.1) (.int x) = true) (some (.inl (pc + 3, L, r, up2 σ o q.2.1 x)))
      | .ref b => gd (fk q.1 q.2.1 = 3 ∧ b < 2 ^ 31) (some (.inl (pc + 3, L, r, up2 σ o q.2.1 (Int32.ofNat b))))
      | _ => none))
  | .getstatic i => gd (len = 3) ((lkS (mo mi) i).bind fun q => some (.inl (pc + 3, L, stv q.1 :: st, σ)))
  | .ldc i => gd (len = 2) ((lkC (mo mi) i).bind fun q => some (.inl (pc + 2, L, q.1 :: st, σ)))
  | .ldc_w i => gd (len = 3) ((lkC (mo mi) i).bind fun q => match q.1 with
      | .int x => some (.inl (pc + 3, L, .int x :: st, σ))
      | _ => none)
  | .ldc2_w i => gd (len = 3) ((lkL (mo mi) i).bind fun q => some (.inl (pc + 3, L, .long q.1 :: st, σ)))
  | .arraylength => gd (len = 1) (s1r st fun o r => if o < 104 then gd ((shp o).1 = 10) (some (.inl (pc + 1, L, .int (Int32.ofNat (shp o).2) :: r, σ))) else gd (122 ≤ o ∧ o < 134) (some (.inl (pc + 1, L, .int (Int32.ofNat (lenT.getD (o - 122) 0)) :: r, σ))))
  | .iaload => gd (len = 1) (sir st fun o i r => gd (isIA o = true ∧ vp_in i (aln o)) (some (.inl (pc + 1, L, .int (rdA σ o i.toNatClampNeg) :: r, σ))))
  | .baload => gd (len = 1) (sir st fun o i r => if o < 104 then gd ((shp o).1 = 11 ∧ vp_in i (shp o).2) (some (.inl (pc + 1, L, .int (σ o i.toNatClampNeg) :: r, σ)))
      else gd ((122 ≤ o ∧ o < 134) ∧ vp_in i (lenT.getD (o - 122) 0)) (some (.inl (pc + 1, L, .int ((bytT.getD (o - 122) []).getD i.toNatClampNeg 0) :: r, σ))))
  | .aaload => gd (len = 1) (sir st fun o i r => gd (o < 104 ∧ (12 ≤ (shp o).1 ∧ (shp o).1 < 15) ∧ vp_in i (shp o).2) (some (.inl (pc + 1, L, .ref (cr o i.toNatClampNeg) :: r, σ))))
  | .iastore => gd (len = 1) (siir st fun o i x r => gd (o < 104 ∧ (shp o).1 = 10 ∧ vp_in i (shp o).2) (some (.inl (pc + 1, L, r, up2 σ o i.toNatClampNeg x))))
  | .bastore => gd (len = 1) (siir st fun o i x r => gd (o < 104 ∧ (shp o).1 = 11 ∧ vp_in i (shp o).2) (some (.inl (pc + 1, L, r, up2 σ o i.toNatClampNeg (vp_nar .boolean x)))))
  | .invokevirtual i => gd (len = 3) ((lkM (mo mi) i).bind fun q => gd (q.1 < 228 ∧ ms_ q.1 = false ∧ dropC (mn q.1 + 1) st) (o1r st[mn q.1]? fun o => gd (obk o (mo q.1) = true) ((call q.1 (st.take (mn q.1 + 1)).reverse σ).bind fun a => some (.inl (pc + 3, L, a.1.toList ++ st.drop (mn q.1 + 1), a.2)))))
  | .invokestatic i => gd (len = 3) (if (mo mi, i) ∈ acpT then match st with
      | [.int n, .int dp, .ref a, .int sp, .ref b] => gd (bndC σ a b sp dp n) (some (.inl (pc + 3, L, [], cp2 σ b a sp.toNatClampNeg dp.toNatClampNeg n.toNatClampNeg)))
      | _ => none
    else if (mo mi, i) ∈ mxT then s2i st fun x y r => gd (cats r ≤ 8) (some (.inl (pc + 3, L, .int (if x < y then y else x) :: r, σ)))
    else if (mo mi, i) ∈ miT then s2i st fun x y r => gd (cats r ≤ 8) (some (.inl (pc + 3, L, .int (if y < x then y else x) :: r, σ)))
    else if (mo mi, i) ∈ mjT then s2l st fun x y r => gd (cats r ≤ 8) (some (.inl (pc + 3, L, .long (if y < x then y else x) :: r, σ)))
    else (lkM (mo mi) i).bind fun q => gd (q.1 < 228 ∧ ms_ q.1 = true ∧ mn q.1 ≤ st.length ∧ dropC (mn q.1) st) ((call q.1 (st.take (mn q.1)).reverse σ).bind fun a => some (.inl (pc + 3, L, a.1.toList ++ st.drop (mn q.1), a.2))))
  | .ireturn => gd (len = 1) (retI st (mr mi) σ)
  | .areturn => gd (len = 1) (retA st (mr mi) σ)
  | .lreturn => gd (len = 1) (retL st (mr mi) σ)
  | .return_ => gd (len = 1) (retV st (mr mi) σ)
  | _ => none
noncomputable def stepI (call : Nat → List Value → Hs → Rs) (mi pc : Nat) (L st : List Value) (σ : Hs) : Option Sr := match decode (mb mi) pc with
  | .ok q => opI call mi pc L st σ q.1 q.2
  | .error _ => none
noncomputable def runN (call : Nat → List Value → Hs → Rs) (mi : Nat) : Nat → Nat → List Value → List Value → Hs → Rs
  | 0, _, _, _, _ => none
  | n + 1, pc, L, st, σ => match stepI call mi pc L st σ with
    | some (.inl q) => runN call mi n q.1 q.2.1 q.2.2.1 q.2.2.2
    | some (.inr q) => some q
    | none => none
theorem runN_mono {call : Nat → List Value → Hs → Rs} {mi : Nat} : ∀ (n pc : Nat) (L st : List Value) (σ : Hs) (q : Option Value × Hs), runN call mi n pc L st σ = some q → runN call mi (n + 1) pc L st σ = some q := by
  intro n
  induction n with
  | zero => intro pc L st σ q h; cases h
  | succ n ih =>
    intro pc L st σ q h
    rw [runN] at h ⊢
    cases hs : stepI call mi pc L st σ with
    | none => rw [hs] at h; cases h
    | some r =>
      rw [hs] at h
      cases r with
      | inl c => exact ih _ _ _ _ _ h
      | inr c => exact h
theorem runN_le {call : Nat → List Value → Hs → Rs} {mi n k pc : Nat} {L st : List Value} {σ : Hs} {q : Option Value × Hs} (h : runN call mi n pc L st σ = some q) : runN call mi (n + k) pc L st σ = some q := by
  induction k with
  | zero => exact h
  | succ k ih => exact runN_mono _ _ _ _ _ _ ih
theorem runN_det {call : Nat → List Value → Hs → Rs} {mi n k pc : Nat} {L st : List Value} {σ : Hs} {q r : Option Value × Hs} (h : runN call mi n pc L st σ = some q) (h2 : runN call mi k pc L st σ = some r) : q = r := by
  have a := runN_le (k := k) h
  have b := runN_le (k := n) h2
  rw [Nat.add_comm] at b
  exact Option.some.inj (a.symm.trans b)
/-- without a count of steps -/
noncomputable def runE (call : Nat → List Value → Hs → Rs) (mi pc : Nat) (L st : List Value) (σ : Hs) : Rs := @dite _ (∃ q n, runN call mi n pc L st σ = some q) (Classical.propDecidable _) (fun h => some h.choose) (fun _ => none)
theorem runE_some {call : Nat → List Value → Hs → Rs} {mi pc : Nat} {L st : List Value} {σ : Hs} {q : Option Value × Hs} : runE call mi pc L st σ = some q ↔ ∃ n, runN call mi n pc L st σ = some q := by
  unfold runE
  constructor
  · intro h
    by_cases hx : ∃ q n, runN call mi n pc L st σ = some q
    · rw [dif_pos hx] at h
      cases h
      exact hx.choose_spec
    · rw [dif_neg hx] at h
      cases h
  · rintro ⟨n, hn⟩
    have hx : ∃ q n, runN call mi n pc L st σ = some q := ⟨q, n, hn⟩
    rw [dif_pos hx]
    obtain ⟨k, hk⟩ := hx.choose_spec
    rw [runN_det hn hk]
theorem runE_step {call : Nat → List Value → Hs → Rs} {mi pc : Nat} {L st : List Value} {σ : Hs} {pc2 : Nat} {L2 st2 : List Value} {σ2 : Hs} (h : stepI call mi pc L st σ = some (.inl (pc2, L2, st2, σ2))) : runE call mi pc L st σ = runE call mi pc2 L2 st2 σ2 := by
  apply Option.ext
  intro q
  rw [runE_some, runE_some]
  constructor
  · rintro ⟨n, hn⟩
    cases n with
    | zero => cases hn
    | succ n => rw [runN, h] at hn; exact ⟨n, hn⟩
  · rintro ⟨n, hn⟩
    exact ⟨n + 1, by rw [runN, h]; exact hn⟩
theorem runE_end {call : Nat → List Value → Hs → Rs} {mi pc : Nat} {L st : List Value} {σ : Hs} {q : Option Value × Hs} (h : stepI call mi pc L st σ = some (.inr q)) : runE call mi pc L st σ = some q := runE_some.mpr ⟨1, by rw [runN, h]⟩
theorem runE_stuck {call : Nat → List Value → Hs → Rs} {mi pc : Nat} {L st : List Value} {σ : Hs} (h : stepI call mi pc L st σ = none) : runE call mi pc L st σ = none := by
  apply Option.ext
  intro q
  rw [runE_some]
  constructor
  · rintro ⟨n, hn⟩
    cases n with
    | zero => cases hn
    | succ n => rw [runN, h] at hn; cases hn
  · intro hn; cases hn
/-- the locals with which a method begins -/
def arL : List Value → List Value
  | [] => []
  | .long x :: r => .long x :: uu :: arL r
  | .double x :: r => .double x :: uu :: arL r
  | v :: r => v :: arL r
def ent (mi : Nat) (vs : List Value) : List Value := arL vs ++ List.replicate (ml mi - (arL vs).length) uu
noncomputable def callD : Nat → Nat → List Value → Hs → Rs
  | 0, _, _, _ => none
  | d + 1, mi, vs, σ => if (arL vs).length ≤ ml mi then runE (callD d) mi 0 (ent mi vs) [] σ else none
