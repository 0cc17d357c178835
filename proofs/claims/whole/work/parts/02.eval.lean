/-! ===== an evaluator of the class's bytecode over a world of numbers: what stands in each cell, by numbers of objects ===== -/
abbrev Hs : Type := Nat → Nat → Int32
abbrev Rs : Type := Option (Option Value × Hs)
abbrev Sr : Type := (Nat × List Value × List Value × Hs) ⊕ (Option Value × Hs)
abbrev uu : Value := .float 0
def up2 (σ : Hs) (o k : Nat) (v : Int32) : Hs := fun a b => if a = o ∧ b = k then v else σ a b
def cp2 (σ : Hs) (b a sp dp n : Nat) : Hs := fun q => if q = a then va_cpy (σ b) (σ a) sp dp n else σ q
def shpT : List (Nat × Nat) := [(7, 9), (5, 7), (0, 14), (10, 30), (10, 30), (10, 30), (10, 30), (10, 30), (11, 30), (10, 5), (10, 9), (10, 9), (10, 9), (1, 2), (12, 3), (10, 60), (3, 2), (10, 60), (3, 2), (10, 60), (3, 2), (10, 60), (3, 2), (10, 60), (3, 2), (10, 12), (3, 2), (10, 12), (3, 2), (10, 24), (5, 7), (0, 14), (10, 30), (10, 30), (10, 30), (10, 30), (10, 30), (11, 30), (10, 5), (10, 9), (10, 9), (10, 9), (1, 2), (12, 3), (10, 60), (3, 2), (10, 60), (3, 2), (10, 60), (3, 2), (10, 60), (3, 2), (10, 60), (3, 2), (10, 12), (3, 2), (10, 12), (3, 2), (10, 24), (0, 14), (10, 30), (10, 30), (10, 30), (10, 30), (10, 30), (11, 30), (10, 5), (10, 9), (10, 9), (10, 9), (2, 5), (3, 2), (10, 60), (6, 5), (3, 2), (10, 30), (13, 4), (4, 3), (10, 24), (4, 3), (10, 24), (4, 3), (10, 24), (4, 3), (10, 24), (10, 7), (10, 60), (8, 26), (10, 545), (10, 545), (10, 545), (10, 7), (10, 7), (10, 7), (10, 5), (14, 3), (10, 60), (10, 4), (10, 60), (10, 30), (10, 4), (10, 4), (10, 96), (10, 24)]
def crT : List (List Nat) := [[1, 30, 59, 70, 73, 76, 85, 86], [2, 13, 22, 24, 26, 28], [3, 4, 5, 6, 7, 8, 9, 10, 11, 12], [], [], [], [], [], [], [], [], [], [], [14, 15], [16, 18, 20], [], [17], [], [19], [], [21], [], [23], [], [25], [], [27], [], [29], [], [31, 42, 51, 53, 55, 57], [32, 33, 34, 35, 36, 37, 38, 39, 40, 41], [], [], [], [], [], [], [], [], [], [], [43, 44], [45, 47, 49], [], [46], [], [48], [], [50], [], [52], [], [54], [], [56], [], [58], [], [60, 61, 62, 63, 64, 65, 66, 67, 68, 69], [], [], [], [], [], [], [], [], [], [], [71], [72], [], [74], [75], [], [77, 79, 81, 83], [78], [], [80], [], [82], [], [84], [], [], [], [88, 89, 90, 0, 91, 92, 93, 94, 95, 0, 0, 0, 0, 96, 0, 97, 98, 0, 99, 0, 0, 0, 100, 101, 102, 103], [], [], [], [], [], [], [], [119, 120, 121], [], [], [], [], [], [], [], []]
/-- fields: 0 int, 1 boolean, 2 a final reference, 3 another reference -/
def fkT : List (List Nat) := [[2, 2, 2, 2, 2, 2, 2, 2, 2, 2, 0, 0, 0, 0], [2, 2], [2, 3, 3, 0, 1], [2, 0], [2, 0, 0], [2, 2, 2, 2, 2, 2, 0], [2, 1, 0, 0, 0], [2, 2, 2, 2, 2, 2, 2, 2, 0], [2, 2, 2, 0, 2, 2, 2, 2, 2, 0, 0, 0, 1, 2, 0, 2, 2, 0, 2, 0, 0, 1, 2, 2, 2, 2]]
def ftyT : List (List FieldType) := [[.array .int, .array .int, .array .int, .array .int, .array .int, .array .boolean, .array .int, .array .int, .array .int, .array .int, .int, .int, .int, .int],
  [.array (.object "SmokyHeap$Row"), .array .int],
  [.object "SmokyHeap$Row", .object "SmokyHeap$Row", .object "java/lang/String", .int, .boolean],
  [.array .int, .int],
  [.array .int, .int, .int],
  [.object "SmokyHeap$Heap", .object "SmokyHeap$Laws", .object "SmokyHeap$Row", .object "SmokyHeap$Row", .object "SmokyHeap$Row", .object "SmokyHeap$Row", .int],
  [.object "SmokyHeap$Row", .boolean, .int, .int, .int],
  [.object "SmokyHeap$State", .object "SmokyHeap$State", .object "SmokyHeap$Heap", .object "SmokyHeap$Reader", .object "SmokyHeap$Voices", .array (.object "SmokyHeap$Sheet"), .array .int, .array .int, .int],
  [.array .int, .array .int, .array .int, .int, .array .int, .array .int, .array .int, .array .int, .array (.object "java/lang/String"), .int, .int, .int, .boolean, .array .int, .int, .array .int, .array .int, .int, .array .int, .int, .int, .boolean, .array .int, .array .int, .array .int, .array .int]]
def stbT : List (List Int32) := [[(-1), 0, 0, 1, 2, 0, 5], [4, 5, 8, 3, 5, 3, 3], [60, 30, 120, 6, 120, 90, 10000], [1439, 99, 3, 999, 8], [10, 11, 12, 13, 20, 0, 0, 21, 0, 0, 30, 0, 40, 41, 0, 0, 0, 0, 50, 51, 0, 60, 0, 0, 70, 0, 71, 0], [900, 5, 0, 60, 4]]
def bytT : List (List Int32) := [[], [100, 115, 119, 114], [104, 119, 108, 110], [104, 119, 115], [124], [38], [60, 61, 62], [43, 45], [42, 47, 37], [100, 115, 119, 114], [104, 119, 108, 110], [104, 119, 115]]
def lenT : List Nat := [0, 4, 4, 3, 1, 1, 3, 2, 3, 4, 4, 3]
def owT : List String := [RX0, RX1, RX2, RX3, RX4, RX5, RX6, RX7, RX8, RJ0, RJ1, RJ6, RJ3]
def mT : List (MethodName × ByteArray × Nat × Option FieldType × Bool × Nat × Nat) := [(yX0_copyFrom, cX0_copyFrom, 2, none, false, 1, 0),
  (yX0_has, cX0_has, 2, (some .boolean), false, 1, 0),
  (yX0_layOnTop, cX0_layOnTop, 7, (some .int), false, 4, 0),
  (yX0_remove, cX0_remove, 4, none, false, 1, 0),
  (yX0_heightOf, cX0_heightOf, 4, (some .int), false, 1, 0),
  (yX0_hourNow, cX0_hourNow, 1, (some .int), false, 0, 0),
  (yX0_howMany, cX0_howMany, 3, (some .int), false, 0, 0),
  (yX0_howManyLit, cX0_howManyLit, 3, (some .int), false, 0, 0),
  (yX0_canBeLit, cX0_canBeLit, 2, (some .boolean), false, 1, 0),
  (yX0_lightByHand, cX0_lightByHand, 2, none, false, 1, 0),
  (yX0_pourOn, cX0_pourOn, 3, none, false, 2, 0),
  (yX0_pourOnLit, cX0_pourOnLit, 3, none, false, 1, 0),
  (yX0_draughtOf, cX0_draughtOf, 9, (some .int), false, 1, 0),
  (yX0_pass, cX0_pass, 5, none, false, 2, 0),
  (yX0_burn, cX0_burn, 4, (some .int), false, 1, 0),
  (yX0_burnAt, cX0_burnAt, 8, (some .int), false, 2, 0),
  (yX0_burnsAsKind, cX0_burnsAsKind, 2, (some .int), true, 2, 0),
  (yX0_warmNeighbours, cX0_warmNeighbours, 3, none, false, 1, 0),
  (yX0_giveWarm, cX0_giveWarm, 4, none, false, 2, 0),
  (yX0_dryAndCool, cX0_dryAndCool, 4, none, false, 1, 0),
  (yX0_drift, cX0_drift, 8, none, false, 2, 0),
  (yX0_lyingOf, cX0_lyingOf, 4, (some .int), false, 3, 0),
  (yX0_botheredInAll, cX0_botheredInAll, 3, (some .int), false, 0, 0),
  (yX0_hangingWith, cX0_hangingWith, 5, (some .int), false, 1, 0),
  (yX0_besideToo, cX0_besideToo, 4, (some .int), true, 1, 0),
  (yX0_armfulTells, cX0_armfulTells, 3, (some .int), false, 2, 0),
  (yX0_gardenTells, cX0_gardenTells, 3, (some .int), false, 2, 0),
  (yX0_heapTells, cX0_heapTells, 2, (some .int), false, 1, 0),
  (yX0_sumOf, cX0_sumOf, 4, (some .int), false, 1, 0),
  (yX0_highest, cX0_highest, 3, (some .int), false, 0, 0),
  (yX1_has, cX1_has, 2, (some .boolean), false, 1, 1),
  (yX1_copyFrom, cX1_copyFrom, 3, none, false, 1, 1),
  (yX1_work, cX1_work, 10, (some .int), false, 5, 1),
  (yX1_joined, cX1_joined, 3, (some .int), true, 3, 1),
  (yX2_faultOf, cX2_faultOf, 3, (some .int), false, 2, 2),
  (yX2_namesOf, cX2_namesOf, 1, (some (.object "java/lang/String")), true, 1, 2),
  (yX2_signsOf, cX2_signsOf, 1, (some (.object "java/lang/String")), true, 1, 2),
  (yX2_next, cX2_next, 1, (some .char), false, 0, 2),
  (yX2_readLevel, cX2_readLevel, 6, none, false, 2, 2),
  (yX2_readUnit, cX2_readUnit, 4, none, false, 1, 2),
  (yX2_readClosing, cX2_readClosing, 1, none, false, 0, 2),
  (yX2_readNumber, cX2_readNumber, 3, none, false, 0, 2),
  (yX2_isDigit, cX2_isDigit, 1, (some .boolean), true, 1, 2),
  (yX3_has, cX3_has, 2, (some .boolean), false, 1, 3),
  (yX3_add, cX3_add, 2, (some .boolean), false, 1, 3),
  (yX3_copyFrom, cX3_copyFrom, 3, none, false, 1, 3),
  (yX4_isMissing, cX4_isMissing, 1, (some .boolean), false, 0, 4),
  (yX4_begin, cX4_begin, 4, none, false, 2, 4),
  (yX4_stand, cX4_stand, 3, (some .boolean), false, 2, 4),
  (yX4_write, cX4_write, 3, none, false, 2, 4),
  (yX5_copyFrom, cX5_copyFrom, 2, none, false, 1, 5),
  (yX5_draw, cX5_draw, 1, (some .int), false, 0, 5),
  (yX5_suspectsWithout, cX5_suspectsWithout, 4, (some .int), false, 1, 5),
  (yX5_gardensUpwind, cX5_gardensUpwind, 6, (some .int), true, 2, 5),
  (yX6_answerOf, cX6_answerOf, 6, (some .int), false, 5, 6),
  (yX6_speak, cX6_speak, 9, (some .int), false, 4, 6),
  (yX6_shared, cX6_shared, 3, (some .int), false, 1, 6),
  (yX6_ownerOf, cX6_ownerOf, 4, (some .int), true, 2, 6),
  (yX7_lay, cX7_lay, 6, (some .int), false, 4, 7),
  (yX7_take, cX7_take, 3, (some .int), false, 1, 7),
  (yX7_armful, cX7_armful, 3, (some .int), false, 2, 7),
  (yX7_as, cX7_as, 3, (some .int), false, 2, 7),
  (yX7_become, cX7_become, 4, (some .int), false, 2, 7),
  (yX7_light, cX7_light, 2, (some .int), false, 1, 7),
  (yX7_fork, cX7_fork, 4, (some .int), false, 2, 7),
  (yX7_pour, cX7_pour, 3, (some .int), false, 2, 7),
  (yX7_set, cX7_set, 4, (some .int), false, 2, 7),
  (yX7_feed, cX7_feed, 5, (some .int), false, 2, 7),
  (yX7_text, cX7_text, 3, (some .int), false, 1, 7),
  (yX7_untell, cX7_untell, 3, (some .int), false, 1, 7),
  (yX7_minutes, cX7_minutes, 2, (some .int), false, 1, 7),
  (yX7_gusts, cX7_gusts, 4, (some .int), false, 1, 7),
  (yX7_seed, cX7_seed, 3, (some .int), false, 1, 7),
  (yX7_washing, cX7_washing, 6, (some .int), false, 3, 7),
  (yX7_garden, cX7_garden, 3, (some .int), false, 2, 7),
  (yX7_heap, cX7_heap, 2, (some .int), false, 1, 7),
  (yX7_may, cX7_may, 1, (some .int), false, 0, 7),
  (yX7_then, cX7_then, 3, (some .int), false, 2, 7),
  (yX7_gardenThen, cX7_gardenThen, 4, (some .int), false, 3, 7),
  (yX7_hour, cX7_hour, 7, (some .int), false, 2, 7),
  (yX7_spot, cX7_spot, 5, (some .int), false, 1, 7),
  (yX7_out, cX7_out, 3, (some .int), false, 1, 7),
  (yX7_catches, cX7_catches, 4, (some .int), false, 2, 7),
  (yX7_reach, cX7_reach, 2, (some .int), false, 1, 7),
  (yX7_report, cX7_report, 4, (some .int), false, 2, 7),
  (yX7_suspects, cX7_suspects, 1, (some .int), false, 0, 7),
  (yX7_liar, cX7_liar, 5, (some .int), false, 0, 7),
  (yX7_voice, cX7_voice, 5, (some .int), false, 3, 7),
  (yX7_body, cX7_body, 2, (some .int), false, 1, 7),
  (yX7_sheet, cX7_sheet, 4, (some .int), false, 3, 7),
  (yX7_put, cX7_put, 4, (some .int), false, 3, 7),
  (yX7_move, cX7_move, 8, (some .int), false, 5, 7),
  (yX7_armfuls, cX7_armfuls, 5, (some .int), false, 1, 7),
  (yX7_image, cX7_image, 1, (some .int), false, 0, 7),
  (yX7_restore, cX7_restore, 1, (some .int), false, 0, 7),
  (yX7_tell, cX7_tell, 2, (some .int), false, 1, 7),
  (yX7_check, cX7_check, 6, (some .int), false, 1, 7),
  (yX7_count, cX7_count, 2, (some .int), false, 1, 7),
  (yX7_told, cX7_told, 2, (some .int), false, 1, 7),
  (yX7_failed, cX7_failed, 2, (some .int), false, 1, 7),
  (yX7_bylawLets, cX7_bylawLets, 2, (some .boolean), false, 0, 7),
  (yX7_botheredFrom, cX7_botheredFrom, 4, (some .int), false, 2, 7),
  (yX7_within, cX7_within, 3, (some .boolean), true, 3, 7),
  (yX7_isPlace, cX7_isPlace, 1, (some .boolean), true, 1, 7),
  (yX7_isKind, cX7_isKind, 1, (some .boolean), true, 1, 7),
  (yX7_isUse, cX7_isUse, 1, (some .boolean), true, 1, 7),
  (yX7_isGarden, cX7_isGarden, 1, (some .boolean), true, 1, 7),
  (yX7_isSheet, cX7_isSheet, 1, (some .boolean), true, 1, 7),
  (yX7_isAhead, cX7_isAhead, 1, (some .boolean), true, 1, 7),
  (yX7_isOfKind, cX7_isOfKind, 4, (some .boolean), true, 2, 7),
  (yX7_nextGarden, cX7_nextGarden, 4, (some .int), true, 2, 7),
  (yX8_finding, cX8_finding, 2, (some .int), false, 1, 8),
  (yX8_within, cX8_within, 3, (some .boolean), true, 3, 8),
  (yX8_has, cX8_has, 2, (some .boolean), true, 2, 8),
  (yX8_held, cX8_held, 3, (some .int), true, 3, 8),
  (yX8_copy, cX8_copy, 3, none, true, 2, 8),
  (yX8_comes, cX8_comes, 4, (some .int), false, 2, 8),
  (yX8_back, cX8_back, 2, (some .int), false, 1, 8),
  (yX8_of, cX8_of, 3, (some .int), false, 2, 8),
  (yX8_tells, cX8_tells, 4, none, false, 3, 8),
  (yX8_isPlace, cX8_isPlace, 1, (some .boolean), true, 1, 8),
  (yX8_is, cX8_is, 2, (some .boolean), false, 1, 8),
  (yX8_isLit, cX8_isLit, 2, (some .boolean), false, 1, 8),
  (yX8_highOf, cX8_highOf, 3, (some .int), false, 1, 8),
  (yX8_isAsTold, cX8_isAsTold, 5, (some .boolean), false, 4, 8),
  (yX8_lays, cX8_lays, 6, (some .int), false, 4, 8),
  (yX8_lay, cX8_lay, 5, (some .int), false, 4, 8),
  (yX8_goes, cX8_goes, 4, none, false, 1, 8),
  (yX8_take, cX8_take, 3, (some .int), false, 1, 8),
  (yX8_beside, cX8_beside, 2, (some .int), true, 2, 8),
  (yX8_isOpen, cX8_isOpen, 4, (some .boolean), false, 2, 8),
  (yX8_draughtOf, cX8_draughtOf, 5, (some .int), false, 1, 8),
  (yX8_armful, cX8_armful, 4, (some .int), false, 2, 8),
  (yX8_above, cX8_above, 1, (some .int), true, 1, 8),
  (yX8_as, cX8_as, 4, (some .int), false, 2, 8),
  (yX8_changes, cX8_changes, 5, (some .int), false, 4, 8),
  (yX8_become, cX8_become, 3, (some .int), false, 2, 8),
  (yX8_fork, cX8_fork, 3, (some .int), false, 2, 8),
  (yX8_lights, cX8_lights, 2, none, false, 1, 8),
  (yX8_light, cX8_light, 2, (some .int), false, 1, 8),
  (yX8_pours, cX8_pours, 3, none, false, 2, 8),
  (yX8_pour, cX8_pour, 3, (some .int), false, 2, 8),
  (yX8_set, cX8_set, 3, (some .int), false, 2, 8),
  (yX8_feed, cX8_feed, 5, (some .int), false, 2, 8),
  (yX8_here, cX8_here, 1, (some .int), false, 0, 8),
  (yX8_takes, cX8_takes, 3, (some .boolean), false, 1, 8),
  (yX8_codes, cX8_codes, 2, none, false, 1, 8),
  (yX8_either, cX8_either, 1, none, false, 0, 8),
  (yX8_both, cX8_both, 1, none, false, 0, 8),
  (yX8_compared, cX8_compared, 2, none, false, 0, 8),
  (yX8_sum, cX8_sum, 2, none, false, 0, 8),
  (yX8_product, cX8_product, 2, none, false, 0, 8),
  (yX8_nameOf, cX8_nameOf, 4, (some .int), false, 1, 8),
  (yX8_one, cX8_one, 4, none, false, 0, 8),
  (yX8_text, cX8_text, 3, (some .int), false, 1, 8),
  (yX8_untell, cX8_untell, 2, (some .int), false, 1, 8),
  (yX8_done, cX8_done, 3, (some .int), true, 3, 8),
  (yX8_worked, cX8_worked, 5, (some .int), false, 1, 8),
  (yX8_given, cX8_given, 7, (some .int), false, 5, 8),
  (yX8_sum_, cX8_sum_, 4, (some .int), false, 1, 8),
  (yX8_mayBe, cX8_mayBe, 1, (some .boolean), false, 0, 8),
  (yX8_may, cX8_may, 1, (some .int), false, 0, 8),
  (yX8_burnsOf, cX8_burnsOf, 4, (some .int), false, 1, 8),
  (yX8_more, cX8_more, 2, (some .int), true, 2, 8),
  (yX8_warms, cX8_warms, 3, none, false, 2, 8),
  (yX8_burns, cX8_burns, 3, (some .boolean), false, 1, 8),
  (yX8_glows, cX8_glows, 5, none, false, 1, 8),
  (yX8_next, cX8_next, 4, (some .int), true, 2, 8),
  (yX8_lies, cX8_lies, 6, none, false, 0, 8),
  (yX8_minute, cX8_minute, 2, none, false, 0, 8),
  (yX8_minutesGo, cX8_minutesGo, 3, none, false, 1, 8),
  (yX8_whyNot, cX8_whyNot, 2, (some .int), false, 1, 8),
  (yX8_minutes, cX8_minutes, 3, (some .int), false, 1, 8),
  (yX8_drawn, cX8_drawn, 2, (some .int), false, 1, 8),
  (yX8_gusts, cX8_gusts, 5, (some .int), false, 1, 8),
  (yX8_seed, cX8_seed, 2, (some .int), false, 1, 8),
  (yX8_isGarden, cX8_isGarden, 1, (some .boolean), true, 1, 8),
  (yX8_washing, cX8_washing, 6, (some .int), false, 3, 8),
  (yX8_garden, cX8_garden, 3, (some .int), false, 2, 8),
  (yX8_ofHeap, cX8_ofHeap, 4, (some .int), false, 1, 8),
  (yX8_heap, cX8_heap, 2, (some .int), false, 1, 8),
  (yX8_isAhead, cX8_isAhead, 1, (some .boolean), true, 1, 8),
  (yX8_then, cX8_then, 3, (some .int), false, 2, 8),
  (yX8_gardenThen, cX8_gardenThen, 4, (some .int), false, 3, 8),
  (yX8_bothered, cX8_bothered, 4, (some .long), false, 0, 8),
  (yX8_hour, cX8_hour, 9, (some .int), false, 2, 8),
  (yX8_spot, cX8_spot, 6, (some .int), false, 1, 8),
  (yX8_out, cX8_out, 4, (some .int), false, 1, 8),
  (yX8_catches, cX8_catches, 5, (some .int), false, 2, 8),
  (yX8_reach, cX8_reach, 7, (some .int), false, 1, 8),
  (yX8_bits, cX8_bits, 3, (some .int), true, 1, 8),
  (yX8_report, cX8_report, 4, (some .int), false, 2, 8),
  (yX8_from, cX8_from, 5, (some .int), false, 1, 8),
  (yX8_suspectsBut, cX8_suspectsBut, 4, (some .int), false, 1, 8),
  (yX8_suspects, cX8_suspects, 1, (some .int), false, 0, 8),
  (yX8_liar, cX8_liar, 5, (some .int), false, 0, 8),
  (yX8_began, cX8_began, 2, none, false, 1, 8),
  (yX8_hasOwn, cX8_hasOwn, 2, (some .boolean), true, 2, 8),
  (yX8_voiced, cX8_voiced, 3, (some .int), false, 2, 8),
  (yX8_bodyFrom, cX8_bodyFrom, 5, (some .int), false, 3, 8),
  (yX8_body, cX8_body, 6, (some .int), false, 3, 8),
  (yX8_voice, cX8_voice, 5, (some .int), false, 3, 8),
  (yX8_body_, cX8_body_, 2, (some .int), false, 1, 8),
  (yX8_isSheet, cX8_isSheet, 1, (some .boolean), true, 1, 8),
  (yX8_sheet, cX8_sheet, 5, (some .int), false, 3, 8),
  (yX8_put, cX8_put, 4, (some .int), false, 3, 8),
  (yX8_move, cX8_move, 7, (some .int), false, 5, 8),
  (yX8_armfuls, cX8_armfuls, 5, (some .int), false, 1, 8),
  (yX8_image, cX8_image, 1, (some .int), false, 0, 8),
  (yX8_restore, cX8_restore, 1, (some .int), false, 0, 8),
  (yX8_tell, cX8_tell, 2, (some .int), false, 1, 8),
  (yX8_check, cX8_check, 5, (some .int), false, 1, 8),
  (yX8_count, cX8_count, 2, (some .int), false, 1, 8),
  (yX8_told, cX8_told, 2, (some .int), false, 1, 8),
  (yJ0_isLatin1_aae02, cJ0_isLatin1_aae02, 1, (some .boolean), false, 0, 9),
  (yJ0_coder_7d493, cJ0_coder_7d493, 1, (some .byte), false, 0, 9),
  (yJ0_length_8abf5, cJ0_length_8abf5, 1, (some .int), false, 0, 9),
  (yJ1_canEncode_9a6ad, cJ1_canEncode_9a6ad, 1, (some .boolean), true, 1, 10),
  (yJ1_indexOfChar_4cfef, cJ1_indexOfChar_4cfef, 6, (some .int), true, 4, 10),
  (yJ1_indexOf_4cfef, cJ1_indexOf_4cfef, 4, (some .int), true, 4, 10),
  (yJ0_indexOf_7cf53, cJ0_indexOf_7cf53, 3, (some .int), false, 2, 9),
  (yJ0_indexOf_0f7a4, cJ0_indexOf_0f7a4, 2, (some .int), false, 1, 9),
  (yJ6_bitCount_0f7a4, cJ6_bitCount_0f7a4, 1, (some .int), true, 1, 11),
  (yJ3_checkIndex_8e157, cJ3_checkIndex_8e157, 3, (some .int), true, 3, 12),
  (yJ0_checkIndex_df160, cJ0_checkIndex_df160, 2, none, true, 2, 9),
  (yJ1_charAt_3b067, cJ1_charAt_3b067, 2, (some .char), true, 2, 10),
  (yJ0_charAt_5068e, cJ0_charAt_5068e, 2, (some .char), false, 1, 9)]
/-- what the constant pools name: by the class (its place in owT) and the entry; the last number: the place of the word -/
def linkT : List (List (Nat × Nat × Nat)) := [[(65, 104, 2001), (69, 102, 2002), (73, 4, 349), (86, 10, 763), (90, 14, 626), (94, 20, 653), (99, 15, 630), (103, 3, 640), (107, 17, 641), (110, 19, 649), (113, 12, 382), (116, 30, 634), (121, 32, 635), (125, 16, 636), (131, 18, 645), (137, 5, 657), (141, 21, 658), (145, 106, 2005), (148, 110, 2006), (151, 24, 776), (154, 28, 708), (158, 7, 712), (161, 29, 713)],
  [(28, 45, 878), (35, 33, 436)],
  [(37, 35, 484), (44, 38, 490), (64, 43, 502), (72, 39, 494), (75, 36, 600), (78, 37, 498), (82, 221, 506), (88, 44, 595), (91, 42, 588), (95, 41, 591), (98, 40, 596)],
  [],
  [],
  [(47, 0, 873), (51, 31, 874), (54, 45, 879), (65, 53, 791), (69, 106, 2007), (73, 110, 2008)],
  [(37, 55, 808), (41, 57, 812), (52, 44, 819), (56, 56, 820), (60, 104, 2009)],
  [(61, 2, 339), (65, 99, 353), (69, 103, 363), (73, 1, 366), (79, 3, 370), (83, 102, 357), (87, 25, 378), (91, 104, 394), (97, 109, 395), (101, 8, 408), (104, 100, 412), (108, 9, 439), (114, 10, 452), (136, 44, 469), (139, 105, 477), (142, 34, 480), (159, 45, 608), (163, 30, 416), (168, 13, 622), (172, 51, 673), (179, 106, 668), (185, 222, 686), (190, 26, 696), (193, 27, 704), (196, 108, 725), (199, 0, 728), (202, 14, 740), (206, 101, 741), (212, 11, 759), (215, 7, 424), (222, 23, 772), (231, 52, 787), (234, 54, 804), (245, 43, 828), (249, 107, 833), (252, 47, 836), (255, 46, 845), (258, 48, 849), (261, 49, 853), (276, 50, 869), (282, 4, 892), (290, 6, 428), (294, 5, 420), (297, 32, 432), (303, 20, 746), (306, 22, 747)],
  [(77, 115, 1298), (81, 112, 1000), (85, 118, 1017), (88, 121, 1013), (92, 123, 1009), (96, 119, 1026), (100, 124, 996), (105, 111, 1004), (109, 125, 1022), (113, 120, 1034), (117, 127, 1038), (121, 129, 1054), (124, 130, 1050), (128, 131, 1046), (131, 133, 1061), (135, 116, 1073), (138, 135, 1069), (142, 122, 1085), (145, 160, 1089), (150, 138, 1109), (153, 140, 1118), (167, 144, 1160), (174, 148, 1140), (177, 145, 1168), (180, 146, 1164), (183, 149, 1144), (186, 150, 1148), (189, 151, 1152), (192, 153, 1156), (198, 216, 1176), (201, 226, 1177), (208, 147, 1136), (211, 152, 1172), (214, 156, 1105), (218, 157, 1101), (221, 159, 1093), (223, 158, 1097), (227, 114, 1230), (235, 162, 1226), (238, 164, 1233), (244, 163, 1237), (249, 113, 1253), (252, 167, 1256), (255, 165, 1222), (258, 166, 1244), (261, 168, 1248), (264, 169, 1218), (268, 171, 1209), (271, 170, 1214), (275, 173, 1263), (278, 176, 1276), (281, 179, 1287), (284, 181, 1295), (287, 117, 1301), (290, 184, 1313), (294, 190, 1333), (297, 192, 1348), (300, 193, 1344), (309, 199, 1364), (312, 197, 1368), (318, 200, 1371), (321, 196, 1375), (324, 198, 1360), (328, 203, 1388)],
  [(335, 215, 524), (492, 214, 514), (495, 225, 1181), (505, 216, 520), (633, 220, 510), (637, 219, 528), (1059, 223, 1187)],
  [(9, 224, 1184), (88, 217, 531), (95, 218, 536)],
  [],
  []]
def fldT : List (List (Nat × Nat × Nat × Nat)) := [[(9, 0, 0, 107), (15, 0, 1, 109), (18, 0, 2, 111), (21, 0, 3, 113), (24, 0, 4, 115), (27, 0, 5, 116), (31, 0, 6, 118), (34, 0, 7, 120), (37, 0, 8, 122), (40, 0, 9, 123), (43, 0, 10, 125), (47, 0, 11, 126), (50, 0, 12, 128), (53, 0, 13, 129)],
  [(11, 1, 0, 194), (17, 1, 1, 196), (24, 3, 1, 184), (32, 3, 0, 179)],
  [(14, 2, 0, 244), (20, 2, 1, 246), (25, 2, 2, 247), (29, 2, 3, 248), (33, 2, 4, 249), (41, 3, 1, 186), (68, 3, 0, 181)],
  [(13, 3, 0, 178), (19, 3, 1, 183)],
  [(9, 4, 0, 295), (15, 4, 1, 297), (19, 4, 2, 299)],
  [(12, 5, 0, 204), (21, 5, 1, 206), (30, 5, 2, 208), (34, 5, 3, 210), (37, 5, 4, 212), (40, 5, 5, 214), (43, 5, 6, 216), (58, 3, 1, 187), (61, 3, 0, 180)],
  [(14, 6, 0, 270), (20, 6, 1, 272), (24, 6, 2, 274), (28, 6, 3, 275), (31, 6, 4, 276), (34, 3, 1, 185)],
  [(10, 7, 0, 307), (16, 7, 1, 308), (22, 7, 2, 309), (29, 7, 3, 310), (36, 7, 4, 311), (42, 7, 5, 312), (47, 7, 6, 313), (51, 7, 7, 314), (54, 7, 8, 315), (58, 5, 0, 205), (76, 0, 1, 110), (94, 0, 0, 108), (111, 0, 3, 114), (118, 0, 2, 112), (124, 0, 6, 119), (127, 5, 2, 209), (131, 3, 1, 188), (146, 5, 1, 207), (150, 1, 0, 195), (156, 2, 0, 245), (164, 0, 13, 130), (176, 5, 6, 217), (182, 0, 7, 121), (209, 0, 11, 127), (218, 0, 5, 117), (225, 5, 3, 211), (228, 5, 4, 213), (238, 6, 1, 273), (242, 6, 0, 271), (246, 3, 0, 182), (264, 4, 1, 298), (267, 4, 0, 296), (279, 5, 5, 215), (300, 0, 9, 124)],
  [(9, 8, 0, 913), (13, 8, 1, 914), (16, 8, 2, 915), (19, 8, 4, 917), (22, 8, 5, 918), (25, 8, 6, 919), (28, 8, 7, 920), (39, 8, 8, 921), (43, 8, 13, 926), (46, 8, 15, 928), (49, 8, 16, 929), (52, 8, 18, 931), (55, 8, 22, 935), (58, 8, 23, 936), (61, 8, 24, 937), (64, 8, 25, 938), (159, 8, 12, 925), (163, 8, 9, 922), (171, 8, 14, 927), (195, 8, 11, 924), (205, 8, 10, 923), (241, 8, 17, 930), (303, 8, 19, 932), (306, 8, 20, 933), (315, 8, 21, 934), (331, 8, 3, 916)],
  [(9, 9, 0, 1429), (15, 9, 1, 1428)],
  [],
  [],
  []]
def sttT : List (List (Nat × Nat × Nat)) := [[(56, 109, 2000), (128, 105, 2003), (134, 106, 2004)],
  [],
  [],
  [],
  [],
  [],
  [(45, 104, 2011), (49, 108, 2010)],
  [(121, 107, 463), (309, 104, 398)],
  [],
  [(38, 200, 518), (1053, 201, 557)],
  [],
  [],
  []]
def ldcT : List (List (Nat × Value × Nat)) := [[(98, .int 1999999999, 639)],
  [],
  [(23, .ref 110, 3000), (48, .ref 111, 3001), (50, .ref 112, 3002), (52, .ref 113, 3003), (54, .ref 114, 3004), (56, .ref 115, 3005), (58, .ref 116, 3006), (60, .ref 117, 3007), (62, .ref 118, 3008)],
  [],
  [],
  [(57, .int 1103515245, 677)],
  [],
  [(167, .int 99999, 621), (293, .int (-1000000), 358)],
  [(33, .ref 119, 3009), (35, .ref 120, 3010), (37, .ref 121, 3011), (67, .int (-1000000), 1008), (104, .int (-1000001), 1003), (108, .int (-1000004), 1021), (116, .int (-1000002), 1037), (134, .int (-1000005), 1064), (149, .int (-1000003), 1108), (267, .int 99999, 1213), (274, .int 1103515245, 1267), (327, .int (-1000006), 1379)],
  [],
  [],
  [(265, .int 1431655765, 689), (266, .int 858993459, 690), (267, .int 252645135, 691)],
  []]
def ld2T : List (List (Nat × Int64 × Nat)) := [[],
  [],
  [],
  [],
  [],
  [],
  [],
  [],
  [(157, 255, 1131), (230, 1999999999, 1240), (247, 100, 1252)],
  [],
  [],
  [],
  []]
def acpT : List (Nat × Nat) := [(0, 59), (7, 270)]
def acpP : List Nat := [104, 745]
def mxT : List (Nat × Nat) := [(3, 7), (0, 77), (10, 92), (8, 74)]
def mxP : List Nat := [175, 443, 534, 1113]
def miT : List (Nat × Nat) := [(0, 83), (10, 38), (3, 23), (4, 22), (7, 285), (8, 68)]
def miP : List Nat := [456, 535, 612, 840, 893, 1122]
def mjT : List (Nat × Nat) := [(8, 232)]
def mjP : List Nat := [1241]
def nestW : List Cond := [.fieldLinkNest "SmokyHeap$Heap" 56 "SmokyHeap" "SETTINGS_FIRST" "[I" "SmokyHeap",
  .methodLinkNest "SmokyHeap$Heap" 65 (⟨"SmokyHeap", "isKind", "(I)Z"⟩) "SmokyHeap",
  .methodLinkNest "SmokyHeap$Heap" 69 (⟨"SmokyHeap", "within", "(III)Z"⟩) "SmokyHeap",
  .fieldLinkNest "SmokyHeap$Heap" 128 "SmokyHeap" "HEATS" "[I" "SmokyHeap",
  .fieldLinkNest "SmokyHeap$Heap" 134 "SmokyHeap" "CATCHES" "[I" "SmokyHeap",
  .methodLinkNest "SmokyHeap$Heap" 145 (⟨"SmokyHeap", "isGarden", "(I)Z"⟩) "SmokyHeap",
  .methodLinkNest "SmokyHeap$Heap" 148 (⟨"SmokyHeap", "nextGarden", "(II)I"⟩) "SmokyHeap",
  .methodLinkNest "SmokyHeap$State" 69 (⟨"SmokyHeap", "isGarden", "(I)Z"⟩) "SmokyHeap",
  .methodLinkNest "SmokyHeap$State" 73 (⟨"SmokyHeap", "nextGarden", "(II)I"⟩) "SmokyHeap",
  .methodLinkNest "SmokyHeap$Voices" 60 (⟨"SmokyHeap", "isKind", "(I)Z"⟩) "SmokyHeap",
  .fieldLinkNest "SmokyHeap$Voices" 49 "SmokyHeap" "BODIES" "[I" "SmokyHeap",
  .fieldLinkNest "SmokyHeap$Voices" 45 "SmokyHeap" "KIND_ABOVE" "[I" "SmokyHeap"]
def kT : List (String × Nat × String) := [("SmokyHeap$Reader", 23, ""), ("SmokyHeap$Reader", 48, "dswr"), ("SmokyHeap$Reader", 50, "hwln"), ("SmokyHeap$Reader", 52, "hws"), ("SmokyHeap$Reader", 54, "|"), ("SmokyHeap$Reader", 56, "&"), ("SmokyHeap$Reader", 58, "<=>"), ("SmokyHeap$Reader", 60, "+-"), ("SmokyHeap$Reader", 62, "*/%"), ("SmokyHeapModel", 33, "dswr"), ("SmokyHeapModel", 35, "hwln"), ("SmokyHeapModel", 37, "hws")]
def snT : List String := ["KIND_ABOVE", "HEATS", "CATCHES", "SETTINGS_MOST", "BODIES", "SETTINGS_FIRST"]
def mpT : List (Nat × Nat × Nat × Nat) := [(731, 729, 730, 67), (369, 367, 368, 67), (342, 340, 341, 67), (373, 371, 372, 67), (352, 350, 351, 67), (423, 421, 422, 67), (431, 429, 430, 67), (427, 425, 426, 67), (411, 409, 410, 67), (442, 440, 441, 67), (455, 453, 454, 67), (762, 760, 761, 67), (385, 383, 384, 67), (625, 623, 624, 67), (629, 627, 628, 67), (633, 632, 7, 67), (638, 637, 0, 67), (644, 643, 8, 67), (648, 647, 9, 67), (652, 651, 10, 67), (656, 654, 655, 67), (661, 660, 11, 67), (750, 748, 749, 67), (775, 773, 774, 67), (778, 777, 0, 67), (381, 379, 380, 67), (699, 697, 698, 67), (707, 705, 706, 67), (711, 710, 12, 67), (716, 715, 13, 67), (419, 417, 418, 69), (877, 875, 876, 69), (435, 433, 434, 69), (438, 437, 0, 69), (483, 481, 482, 72), (486, 485, 0, 72), (602, 601, 0, 72), (501, 500, 4, 72), (493, 492, 2, 72), (497, 496, 3, 72), (599, 598, 6, 72), (594, 593, 5, 72), (590, 589, 0, 72), (505, 503, 504, 70), (472, 470, 471, 70), (611, 609, 610, 70), (848, 846, 847, 74), (839, 837, 838, 74), (852, 850, 851, 74), (856, 854, 855, 74), (872, 870, 871, 66), (676, 674, 675, 66), (790, 788, 789, 66), (793, 792, 0, 66), (807, 805, 806, 73), (811, 810, 15, 73), (823, 822, 16, 73), (814, 813, 0, 73), (338, 336, 337, 65), (362, 360, 361, 65), (377, 375, 376, 65), (393, 391, 392, 65), (403, 401, 402, 65), (407, 405, 406, 65), (447, 445, 446, 65), (451, 449, 450, 65), (462, 460, 461, 65), (468, 466, 467, 65), (476, 474, 475, 65), (616, 614, 615, 65), (620, 618, 619, 65), (672, 670, 671, 65), (681, 679, 680, 65), (685, 683, 684, 65), (695, 693, 694, 65), (703, 701, 702, 65), (720, 718, 719, 65), (724, 722, 723, 65), (735, 733, 734, 65), (739, 737, 738, 65), (754, 752, 753, 65), (758, 756, 757, 65), (767, 765, 766, 65), (771, 769, 770, 65), (782, 780, 781, 65), (786, 784, 785, 65), (799, 797, 798, 65), (803, 801, 802, 65), (827, 825, 826, 65), (832, 830, 831, 65), (844, 842, 843, 65), (860, 858, 859, 65), (864, 862, 863, 65), (868, 866, 867, 65), (883, 881, 882, 65), (887, 885, 886, 65), (891, 889, 890, 65), (897, 895, 896, 65), (901, 899, 900, 65), (356, 355, 0, 65), (415, 414, 1, 65), (744, 743, 14, 65), (348, 347, 0, 65), (365, 364, 0, 65), (345, 344, 0, 65), (479, 478, 0, 65), (664, 663, 0, 65), (835, 834, 0, 65), (727, 726, 0, 65), (397, 396, 0, 65), (667, 666, 0, 65), (1007, 1006, 18, 75), (1002, 1001, 0, 75), (1255, 1254, 0, 75), (1232, 1231, 0, 75), (1300, 1299, 0, 75), (1076, 1075, 28, 75), (1304, 1303, 56, 75), (1020, 1019, 21, 75), (1029, 1028, 23, 75), (1036, 1035, 0, 75), (1016, 1015, 20, 75), (1088, 1087, 29, 75), (1012, 1011, 19, 75), (999, 998, 17, 75), (1025, 1024, 22, 75), (995, 993, 994, 75), (1041, 1040, 24, 75), (1033, 1031, 1032, 75), (1056, 1055, 0, 75), (1053, 1052, 26, 75), (1049, 1048, 25, 75), (1045, 1043, 1044, 75), (1063, 1062, 0, 75), (1060, 1058, 1059, 75), (1072, 1071, 27, 75), (1068, 1066, 1067, 75), (1080, 1078, 1079, 75), (1112, 1111, 34, 75), (1084, 1082, 1083, 75), (1121, 1120, 35, 75), (1117, 1115, 1116, 75), (1126, 1124, 1125, 75), (1130, 1128, 1129, 75), (1163, 1162, 42, 75), (1171, 1170, 44, 75), (1167, 1166, 43, 75), (1139, 1138, 36, 75), (1143, 1142, 37, 75), (1147, 1146, 38, 75), (1151, 1150, 39, 75), (1155, 1154, 40, 75), (1175, 1174, 45, 75), (1159, 1158, 41, 75), (1135, 1133, 1134, 75), (1200, 1198, 1199, 75), (1107, 1106, 0, 75), (1104, 1103, 33, 75), (1100, 1099, 32, 75), (1096, 1095, 31, 75), (1092, 1091, 30, 75), (1204, 1202, 1203, 75), (1229, 1228, 50, 75), (1239, 1238, 0, 75), (1236, 1235, 51, 75), (1225, 1224, 49, 75), (1247, 1246, 52, 75), (1258, 1257, 0, 75), (1251, 1250, 53, 75), (1221, 1220, 48, 75), (1217, 1216, 47, 75), (1212, 1211, 46, 75), (1208, 1206, 1207, 75), (1266, 1265, 54, 75), (1262, 1260, 1261, 75), (1271, 1269, 1270, 75), (1278, 1277, 0, 75), (1275, 1273, 1274, 75), (1282, 1280, 1281, 75), (1290, 1289, 55, 75), (1286, 1284, 1285, 75), (1297, 1296, 0, 75), (1294, 1292, 1293, 75), (1308, 1306, 1307, 75), (1316, 1315, 57, 75), (1312, 1310, 1311, 75), (1320, 1318, 1319, 75), (1324, 1322, 1323, 75), (1328, 1326, 1327, 75), (1332, 1330, 1331, 75), (1335, 1334, 0, 75), (1339, 1337, 1338, 75), (1351, 1350, 59, 75), (1347, 1346, 58, 75), (1343, 1341, 1342, 75), (1355, 1353, 1354, 75), (1378, 1377, 63, 75), (1370, 1369, 0, 75), (1363, 1362, 60, 75), (1367, 1366, 61, 75), (1374, 1373, 62, 75), (1359, 1357, 1358, 75), (1383, 1381, 1382, 75), (1390, 1389, 0, 75), (1387, 1385, 1386, 75), (1394, 1392, 1393, 75), (1398, 1396, 1397, 75), (1402, 1400, 1401, 75), (1406, 1404, 1405, 75), (1410, 1408, 1409, 75), (1414, 1412, 1413, 75), (1418, 1416, 1417, 75), (1422, 1420, 1421, 75), (1426, 1424, 1425, 75), (517, 515, 516, 76), (527, 525, 526, 76), (523, 521, 522, 76), (533, 532, 0, 77), (538, 537, 0, 77), (530, 529, 0, 77), (513, 511, 512, 76), (509, 507, 508, 76), (688, 687, 0, 81), (1189, 1188, 0, 79), (1186, 1185, 0, 76), (1183, 1182, 0, 77), (1180, 1178, 1179, 76)]
def acW : Nat × Nat × Nat := (106, 105, 68)
def mxW : Nat × Nat := (176, 457)
def mjW : Nat × Nat := (1242, 71)
def mxC : Nat := 177
def miC : Nat := 458
def mjC : Nat := 1243
def stv (k : Nat) : Value := if k = 200 then .int 1 else if k = 201 then .retAddr 0 else .ref k
def shp (o : Nat) : Nat × Nat := shpT.getD o (99, 0)
def cr (o k : Nat) : Nat := (crT.getD o []).getD k 0
def fk (c k : Nat) : Nat := (fkT.getD c []).getD k 9
def fv (σ : Hs) (o c k : Nat) : Value := if fk c k = 2 then .ref (cr o k) else if fk c k = 3 then .ref (σ o k).toNatClampNeg else .int (σ o k)
def isIA (o : Nat) : Bool := (shp o).1 == 10 || (decide (104 ≤ o) && decide (o < 110))
def aln (o : Nat) : Nat := if o < 104 then (shp o).2 else (stbT.getD (o - 104) []).length
def rdA (σ : Hs) (o j : Nat) : Int32 := if o < 104 then σ o j else (stbT.getD (o - 104) []).getD j 0
def mt (m : Nat) : MethodName × ByteArray × Nat × Option FieldType × Bool × Nat × Nat := mT.getD m (⟨"", "", ""⟩, ⟨#[]⟩, 0, none, false, 0, 0)
def my (m : Nat) : MethodName := (mt m).1
def mb (m : Nat) : ByteArray := (mt m).2.1
def ml (m : Nat) : Nat := (mt m).2.2.1
def mr (m : Nat) : Option FieldType := (mt m).2.2.2.1
def ms_ (m : Nat) : Bool := (mt m).2.2.2.2.1
def mn (m : Nat) : Nat := (mt m).2.2.2.2.2.1
def mo (m : Nat) : Nat := (mt m).2.2.2.2.2.2
def ow (k : Nat) : String := owT.getD k ""
def lkM (o i : Nat) : Option (Nat × Nat) := (linkT.getD o []).lookup i
def lkF (o i : Nat) : Option (Nat × Nat × Nat) := (fldT.getD o []).lookup i
def lkS (o i : Nat) : Option (Nat × Nat) := (sttT.getD o []).lookup i
def lkC (o i : Nat) : Option (Value × Nat) := (ldcT.getD o []).lookup i
def lkL (o i : Nat) : Option (Int64 × Nat) := (ld2T.getD o []).lookup i
/-- the receiver of a method: an object of its class -/
def obk (o c : Nat) : Bool := (decide (o < 104) && (decide (c < 9) && (shp o).1 == c)) || (c == 9 && (decide (110 ≤ o) && decide (o < 122)))
noncomputable def gd {α : Type} (P : Prop) (x : Option α) : Option α := @ite _ P (Classical.propDecidable P) x none
theorem gd_pos {α : Type} {P : Prop} {x : Option α} (h : P) : gd P x = x := if_pos h
theorem gd_neg {α : Type} {P : Prop} {x : Option α} (h : ¬ P) : gd P x = none := if_neg h
theorem gd_some {α : Type} {P : Prop} {x : Option α} {y : α} (h : gd P x = some y) : P ∧ x = some y := by
  by_cases hP : P
  · rw [gd_pos hP] at h; exact ⟨hP, h⟩
  · rw [gd_neg hP] at h; cases h
def s1i {α : Type} (st : List Value) (f : Int32 → List Value → Option α) : Option α := match st with
  | .int x :: r => f x r
  | _ => none
def s2i {α : Type} (st : List Value) (f : Int32 → Int32 → List Value → Option α) : Option α := match st with
  | .int y :: .int x :: r => f x y r
  | _ => none
def s1l {α : Type} (st : List Value) (f : Int64 → List Value → Option α) : Option α := match st with
  | .long x :: r => f x r
  | _ => none
def s2l {α : Type} (st : List Value) (f : Int64 → Int64 → List Value → Option α) : Option α := match st with
  | .long y :: .long x :: r => f x y r
  | _ => none
def sil {α : Type} (st : List Value) (f : Int64 → Int32 → List Value → Option α) : Option α := match st with
  | .int y :: .long x :: r => f x y r
  | _ => none
def s1r {α : Type} (st : List Value) (f : Nat → List Value → Option α) : Option α := match st with
  | .ref o :: r => f o r
  | _ => none
def sir {α : Type} (st : List Value) (f : Nat → Int32 → List Value → Option α) : Option α := match st with
  | .int i :: .ref o :: r => f o i r
  | _ => none
def siir {α : Type} (st : List Value) (f : Nat → Int32 → Int32 → List Value → Option α) : Option α := match st with
  | .int x :: .int i :: .ref o :: r => f o i x r
  | _ => none
def sany {α : Type} (st : List Value) (f : Value → List Value → Option α) : Option α := match st with
  | v :: r => f v r
  | _ => none
def o1i {α : Type} (v : Option Value) (f : Int32 → Option α) : Option α := match v with
  | some (.int x) => f x
  | _ => none
def o1l {α : Type} (v : Option Value) (f : Int64 → Option α) : Option α := match v with
  | some (.long x) => f x
  | _ => none
def o1r {α : Type} (v : Option Value) (f : Nat → Option α) : Option α := match v with
  | some (.ref x) => f x
  | _ => none
theorem s1i_some {α : Type} {st : List Value} {f : Int32 → List Value → Option α} {q : α} (h : s1i st f = some q) : ∃ x r, st = .int x :: r ∧ f x r = some q := by
  unfold s1i at h; split at h
  · exact ⟨_, _, rfl, h⟩
  · cases h
theorem s2i_some {α : Type} {st : List Value} {f : Int32 → Int32 → List Value → Option α} {q : α} (h : s2i st f = some q) : ∃ x y r, st = .int y :: .int x :: r ∧ f x y r = some q := by
  unfold s2i at h; split at h
  · exact ⟨_, _, _, rfl, h⟩
  · cases h
theorem s1l_some {α : Type} {st : List Value} {f : Int64 → List Value → Option α} {q : α} (h : s1l st f = some q) : ∃ x r, st = .long x :: r ∧ f x r = some q := by
  unfold s1l at h; split at h
  · exact ⟨_, _, rfl, h⟩
  · cases h
theorem s2l_some {α : Type} {st : List Value} {f : Int64 → Int64 → List Value → Option α} {q : α} (h : s2l st f = some q) : ∃ x y r, st = .long y :: .long x :: r ∧ f x y r = some q := by
  unfold s2l at h; split at h
  · exact ⟨_, _, _, rfl, h⟩
  · cases h
theorem sil_some {α : Type} {st : List Value} {f : Int64 → Int32 → List Value → Option α} {q : α} (h : sil st f = some q) : ∃ x y r, st = .int y :: .long x :: r ∧ f x y r = some q := by
  unfold sil at h; split at h
  · exact ⟨_, _, _, rfl, h⟩
  · cases h
theorem s1r_some {α : Type} {st : List Value} {f : Nat → List Value → Option α} {q : α} (h : s1r st f = some q) : ∃ (x : Nat) (r : List Value), st = .ref x :: r ∧ f x r = some q := by
  unfold s1r at h; split at h
  · exact ⟨_, _, rfl, h⟩
  · cases h
theorem sir_some {α : Type} {st : List Value} {f : Nat → Int32 → List Value → Option α} {q : α} (h : sir st f = some q) : ∃ (o : Nat) (i : Int32) (r : List Value), st = .int i :: .ref o :: r ∧ f o i r = some q := by
  unfold sir at h; split at h
  · exact ⟨_, _, _, rfl, h⟩
  · cases h
theorem siir_some {α : Type} {st : List Value} {f : Nat → Int32 → Int32 → List Value → Option α} {q : α} (h : siir st f = some q) : ∃ (o : Nat) (i x : Int32) (r : List Value), st = .int x :: .int i :: .ref o :: r ∧ f o i x r = some q := by
  unfold siir at h; split at h
  · exact ⟨_, _, _, _, rfl, h⟩
  · cases h
theorem sany_some {α : Type} {st : List Value} {f : Value → List Value → Option α} {q : α} (h : sany st f = some q) : ∃ v r, st = v :: r ∧ f v r = some q := by
  unfold sany at h; split at h
  · exact ⟨_, _, rfl, h⟩
  · cases h
theorem o1i_some {α : Type} {v : Option Value} {f : Int32 → Option α} {q : α} (h : o1i v f = some q) : ∃ x, v = some (.int x) ∧ f x = some q := by
  unfold o1i at h; split at h
  · exact ⟨_, rfl, h⟩
  · cases h
theorem o1l_some {α : Type} {v : Option Value} {f : Int64 → Option α} {q : α} (h : o1l v f = some q) : ∃ x, v = some (.long x) ∧ f x = some q := by
  unfold o1l at h; split at h
  · exact ⟨_, rfl, h⟩
  · cases h
theorem o1r_some {α : Type} {v : Option Value} {f : Nat → Option α} {q : α} (h : o1r v f = some q) : ∃ x : Nat, v = some (.ref x) ∧ f x = some q := by
  unfold o1r at h; split at h
  · exact ⟨_, rfl, h⟩
  · cases h
/-- the target of a jump -/
def tgt (pc : Nat) (off : Int) : Option Nat := if 0 ≤ (pc : Int) + off then some ((pc : Int) + off).toNat else none
theorem tgt_some {pc t : Nat} {off : Int} (h : tgt pc off = some t) : (pc : Int) + off = (t : Int) := by
  unfold tgt at h
  by_cases h0 : 0 ≤ (pc : Int) + off
  · rw [if_pos h0] at h; cases h; omega
  · rw [if_neg h0] at h; cases h
/-- a condition of a jump -/
def cnd (c : ClassFile.Cond) (x y : Int32) : Bool := match c with
  | .eq => decide (x = y)
  | .ne => decide (¬ x = y)
  | .lt => decide (x < y)
  | .ge => decide (y ≤ x)
  | .gt => decide (y < x)
  | .le => decide (x ≤ y)
/-- a place in the locals into which one word may go -/
def okS (L : List Value) (i : Nat) : Prop := i < L.length ∧ (L.getD (i - 1) uu).category = 1
def okS2 (L : List Value) (i : Nat) : Prop := i + 1 < L.length ∧ (L.getD (i - 1) uu).category = 1
def tsw (lo hi : Int) (offs : Array Int) (d : Int) (x : Int) : Option Int := if x < lo ∨ hi < x then some d else offs[(x - lo).toNat]?
def srt (ps : Array (Int × Int)) : Bool := (ps.toList.zip (ps.toList.drop 1)).all (fun (a, next) => a.1 < next.1)
def cats (st : List Value) : Nat := (st.map fun v => v.category).sum
def dropC (n : Nat) (st : List Value) : Prop := cats (st.drop n) ≤ 8
def bndC (σ : Hs) (a b : Nat) (sp dp n : Int32) : Prop := a < 104 ∧ b < 104 ∧ ((shp a).1 = 10 ∨ (shp a).1 = 11) ∧ (shp b).1 = (shp a).1 ∧ ¬ sp < 0 ∧ ¬ dp < 0 ∧ ¬ n < 0 ∧ sp.toNatClampNeg + n.toNatClampNeg ≤ (shp b).2 ∧ dp.toNatClampNeg + n.toNatClampNeg ≤ (shp a).2 ∧ ((shp a).1 = 11 → ∀ i, i < n.toNatClampNeg → fits .boolean (.int (σ b (sp.toNatClampNeg + i))) = true)
def fty (c k : Nat) : FieldType := (ftyT.getD c []).getD k .int
noncomputable def retI (st : List Value) (r : Option FieldType) (σ : Hs) : Option Sr := match st, r with
  | [.int x], some ty => gd (narrow ty (.int x) = .int x) (some (.inr (some (.int x), σ)))
  | _, _ => none
def retA (st : List Value) (r : Option FieldType) (σ : Hs) : Option Sr := match st, r with
  | [.ref x], some (.object _) => some (.inr (some (.ref x), σ))
  | _, _ => none
def retL (st : List Value) (r : Option FieldType) (σ : Hs) : Option Sr := match st, r with
  | [.long x], some .long => some (.inr (some (.long x), σ))
  | _, _ => none
def retV (st : List Value) (r : Option FieldType) (σ : Hs) : Option Sr := match st, r with
  | [], none => some (.inr (none, σ))
  | _, _ => none
noncomputable def opI (call : Nat → List Value → Hs → Rs) (mi pc : Nat) (L st : List Value) (σ : Hs) (ins : Instr) (len : Nat) : Option Sr := match ins with
  | .iconst n => gd (len = 1) (some (.inl (pc + 1, L, .int (Int32.ofInt n) :: st, σ)))
  | .bipush n => gd (len = 2) (some (.inl (pc + 2, L, .int (Int8.ofInt n).toInt32 :: st, σ)))
  | .sipush n => gd (len = 3) (some (.inl (pc + 3, L, .int (Int16.ofInt n).toInt32 :: st, σ)))
  | .lconst n => gd (len = 1) (some (.inl (pc + 1, L, .long (Int64.ofNat (n : Nat)) :: st, σ)))
  | .iload_n k => gd (len = 1) (o1i L[(k : Nat)]? fun x => some (.inl (pc + 1, L, .int x :: st, σ)))
  | .iload i => gd (len = 2) (o1i L[i]? fun x => some (.inl (pc + 2, L, .int x :: st, σ)))
  | .lload_n k => gd (len = 1) (o1l L[(k : Nat)]? fun x => some (.inl (pc + 1, L, .long x :: st, σ)))
  | .lload i => gd (len = 2) (o1l L[i]? fun x => some (.inl (pc + 2, L, .long x :: st, σ)))
  | .aload_n k => gd (len = 1) (o1r L[(k : Nat)]? fun x => some (.inl (pc + 1, L, .ref x :: st, σ)))
  | .aload i => gd (len = 2) (o1r L[i]? fun x => some (.inl (pc + 2, L, .ref x :: st, σ)))
  | .istore_n k => gd (len = 1 ∧ okS L (k : Nat)) (s1i st fun x r => some (.inl (pc + 1, L.set (k : Nat) (.int x), r, σ)))
  | .istore i => gd (len = 2 ∧ okS L i) (s1i st fun x r => some (.inl (pc + 2, L.set i (.int x), r, σ)))
  | .astore_n k => gd (len = 1 ∧ okS L (k : Nat)) (s1r st fun x r => some (.inl (pc + 1, L.set (k : Nat) (.ref x), r, σ)))
  | .astore i => gd (len = 2 ∧ okS L i) (s1r st fun x r => some (.inl (pc + 2, L.set i (.ref x), r, σ)))
  | .lstore_n k => gd (len = 1 ∧ okS2 L (k : Nat)) (s1l st fun x r => some (.inl (pc + 1, (L.set (k : Nat) (.long x)).set ((k : Nat) + 1) uu, r, σ)))
  | .lstore i => gd (len = 2 ∧ okS2 L i) (s1l st fun x r => some (.inl (pc + 2, (L.set i (.long x)).set (i + 1) uu, r, σ)))
  | .iinc i n => gd (len = 3 ∧ okS L i) (o1i L[i]? fun x => some (.inl (pc + 3, L.set i (.int (x + Int32.ofInt n)), st, σ)))
  | .iadd => gd (len = 1) (s2i st fun x y r => some (.inl (pc + 1, L, .int (x + y) :: r, σ)))
  | .isub => gd (len = 1) (s2i st fun x y r => some (.inl (pc + 1, L, .int (x - y) :: r, σ)))
  | .imul => gd (len = 1) (s2i st fun x y r => some (.inl (pc + 1, L, .int (x * y) :: r, σ)))
  | .iand => gd (len = 1) (s2i st fun x y r => some (.inl (pc + 1, L, .int (x &&& y) :: r, σ)))
  | .ior => gd (len = 1) (s2i st fun x y r => some (.inl (pc + 1, L, .int (x ||| y) :: r, σ)))
  | .ixor => gd (len = 1) (s2i st fun x y r => some (.inl (pc + 1, L, .int (x ^^^ y) :: r, σ)))
  | .idiv => gd (len = 1) (s2i st fun x y r => gd (¬ y = 0) (some (.inl (pc + 1, L, .int (x / y) :: r, σ))))
  | .irem => gd (len = 1) (s2i st fun x y r => gd (¬ y = 0) (some (.inl (pc + 1, L, .int (x - x / y * y) :: r, σ))))
  | .ineg => gd (len = 1) (s1i st fun x r => some (.inl (pc + 1, L, .int (-x) :: r, σ)))
  | .ishl => gd (len = 1) (s2i st fun x y r => some (.inl (pc + 1, L, .int (x <<< (y &&& 31)) :: r, σ)))
  | .ishr => gd (len = 1) (s2i st fun x y r => some (.inl (pc + 1, L, .int (x >>> (y &&& 31)) :: r, σ)))
  | .iushr => gd (len = 1) (s2i st fun x y r => some (.inl (pc + 1, L, .int (x.toUInt32 >>> (y.toUInt32 &&& Int32.toUInt32 31)).toInt32 :: r, σ)))
  | .ladd => gd (len = 1) (s2l st fun x y r => some (.inl (pc + 1, L, .long (x + y) :: r, σ)))
  | .lmul => gd (len = 1) (s2l st fun x y r => some (.inl (pc + 1, L, .long (x * y) :: r, σ)))
  | .ldiv => gd (len = 1) (s2l st fun x y r => gd (¬ y = 0) (some (.inl (pc + 1, L, .long (x / y) :: r, σ))))
  | .land => gd (len = 1) (s2l st fun x y r => some (.inl (pc + 1, L, .long (x &&& y) :: r, σ)))
  | .lcmp => gd (len = 1) (s2l st fun x y r => some (.inl (pc + 1, L, .int (lg_cmp x y) :: r, σ)))
  | .lushr => gd (len = 1) (sil st fun x y r => some (.inl (pc + 1, L, .long (x.toUInt64 >>> (y.toInt64.toUInt64 &&& Int64.toUInt64 63)).toInt64 :: r, σ)))
  | .lshr => gd (len = 1) (sil st fun x y r => some (.inl (pc + 1, L, .long (x >>> (y.toInt64 &&& 63)) :: r, σ)))
  | .i2l => gd (len = 1) (s1i st fun x r => some (.inl (pc + 1, L, .long x.toInt64 :: r, σ)))
  | .l2i => gd (len = 1) (s1l st fun x r => some (.inl (pc + 1, L, .int x.toInt32 :: r, σ)))
  | .i2b => gd (len = 1) (s1i st fun x r => some (.inl (pc + 1, L, .int x.toInt8.toInt32 :: r, σ)))
  | .i2s => gd (len = 1) (s1i st fun x r => some (.inl (pc + 1, L, .int x.toInt16.toInt32 :: r, σ)))
  | .i2c => gd (len = 1) (s1i st fun x r => some (.inl (pc + 1, L, .int (x.toUInt32 % 65536).toInt32 :: r, σ)))
  | .dup => gd (len = 1) (sany st fun v r => gd (v.category = 1) (some (.inl (pc + 1, L, v :: v :: r, σ))))
  | .pop => gd (len = 1) (sany st fun v r => gd (v.category = 1) (some (.inl (pc + 1, L, r, σ))))
  | .dup2 => gd (len = 1) (sany st fun v r => sany r fun w r => gd (v.category = 1 ∧ w.category = 1) (some (.inl (pc + 1, L, v :: w :: v :: w :: r, σ))))
  | .goto off => gd (len = 3) ((tgt pc off).bind fun t => some (.inl (t, L, st, σ)))
  | .ifCond c off => gd (len = 3) ((tgt pc off).bind fun t => s1i st fun x r => some (.inl (if cnd c x 0 = true then t else pc + 3, L, r, σ)))
  | .if_icmp c off => gd (len = 3) ((tgt pc off).bind fun t => s2i st fun x y r => some (.inl (if cnd c x y = true then t else pc + 3, L, r, σ)))
  | .tableswitch d lo hi offs => s1i st fun x r => (tsw lo hi offs d x.toInt).bind fun off => (tgt pc off).bind fun t => some (.inl (t, L, r, σ))
  | .lookupswitch d ps => gd (srt ps = true) (s1i st fun x r => (tgt pc (Op.lookupswitch.offset ps.toList d x.toInt)).bind fun t => some (.inl (t, L, r, σ)))
  | .getfield i => gd (len = 3) (s1r st fun o r => (lkF (mo mi) i).bind fun q => gd (obk o q.1 = true) (some (.inl (pc + 3, L, (if o < 104 then fv σ o q.1 q.2.1 else if q.2.1 = 0 then .ref (o + 12) else .int 0) :: r, σ))))
  | .putfield i => gd (len = 3) (sany st fun v r => s1r r fun o r => (lkF (mo mi) i).bind fun q => gd (o < 104 ∧ (shp o).1 = q.1) (match v with
      | .int x => gd ((fk q.1 q.2.1 = 0 ∨ fk q.1 q.2.1 = 1) ∧ narrow (fty q.1 q.2.1) (.int x) = .int x ∧ fits (fty q.1 q.2.1) (.int x) = true) (some (.inl (pc + 3, L, r, up2 σ o q.2.1 x)))
      | .ref b => gd (fk q.1 q.2.1 = 3 ∧ b < 2 ^ 31) (some (.inl (pc + 3, L, r, up2 σ o q.2.1 (Int32.ofNat b))))
      | _ => none))
  | .getstatic i => gd (len = 3) ((lkS (mo mi) i).bind fun q => some (.inl (pc + 3, L, stv q.1 :: st, σ)))
  | .ldc i => gd (len = 2) ((lkC (mo mi) i).bind fun q => some (.inl (pc + 2, L, q.1 :: st, σ)))
  | .ldc_w i => gd (len = 3) ((lkC (mo mi) i).bind fun q => match q.1 with
      | .int x => some (.inl (pc + 3, L, .int x :: st, σ))
      | _ => none)
  | .ldc2_w i => gd (len = 3) ((lkL (mo mi) i).bind fun q => some (.inl (pc + 3, L, .long q.1 :: st, σ)))
  | .arraylength => gd (len = 1) (s1r st fun o r => if o < 104 then gd ((shp o).1 = 10) (some (.inl (pc + 1, L, .int (Int32.ofNat (shp o).2) :: r, σ))) else gd (122 ≤ o ∧ o < 134) (some (.inl (pc + 1, L, .int (Int32.ofNat (lenT.getD (o - 122) 0)) :: r, σ))))
  | .iaload => gd (len = 1) (sir st fun o i r => gd (isIA o = true ∧ vp_in i (aln o)) (some (.inl (pc + 1, L, .int (rdA σ o i.toNatClampNeg) :: r, σ))))
  | .baload => gd (len = 1) (sir st fun o i r => if o < 104 then gd ((shp o).1 = 11 ∧ vp_in i (shp o).2) (some (.inl (pc + 1, L, .int (σ o i.toNatClampNeg) :: r, σ)))
      else gd ((122 ≤ o ∧ o < 134) ∧ vp_in i (lenT.getD (o - 122) 0)) (some (.inl (pc + 1, L, .int ((bytT.getD (o - 122) []).getD i.toNatClampNeg 0) :: r, σ))))
  | .aaload => gd (len = 1) (sir st fun o i r => gd (o < 104 ∧ (12 ≤ (shp o).1 ∧ (shp o).1 < 15) ∧ vp_in i (shp o).2) (some (.inl (pc + 1, L, .ref (cr o i.toNatClampNeg) :: r, σ))))
  | .iastore => gd (len = 1) (siir st fun o i x r => gd (o < 104 ∧ (shp o).1 = 10 ∧ vp_in i (shp o).2) (some (.inl (pc + 1, L, r, up2 σ o i.toNatClampNeg x))))
  | .bastore => gd (len = 1) (siir st fun o i x r => gd (o < 104 ∧ (shp o).1 = 11 ∧ vp_in i (shp o).2) (some (.inl (pc + 1, L, r, up2 σ o i.toNatClampNeg (vp_nar .boolean x)))))
  | .invokevirtual i => gd (len = 3) ((lkM (mo mi) i).bind fun q => gd (q.1 < 227 ∧ ms_ q.1 = false ∧ dropC (mn q.1 + 1) st) (o1r st[mn q.1]? fun o => gd (obk o (mo q.1) = true) ((call q.1 (st.take (mn q.1 + 1)).reverse σ).bind fun a => some (.inl (pc + 3, L, a.1.toList ++ st.drop (mn q.1 + 1), a.2)))))
  | .invokestatic i => gd (len = 3) (if (mo mi, i) ∈ acpT then match st with
      | [.int n, .int dp, .ref a, .int sp, .ref b] => gd (bndC σ a b sp dp n) (some (.inl (pc + 3, L, [], cp2 σ b a sp.toNatClampNeg dp.toNatClampNeg n.toNatClampNeg)))
      | _ => none
    else if (mo mi, i) ∈ mxT then s2i st fun x y r => gd (cats r ≤ 8) (some (.inl (pc + 3, L, .int (if x < y then y else x) :: r, σ)))
    else if (mo mi, i) ∈ miT then s2i st fun x y r => gd (cats r ≤ 8) (some (.inl (pc + 3, L, .int (if y < x then y else x) :: r, σ)))
    else if (mo mi, i) ∈ mjT then s2l st fun x y r => gd (cats r ≤ 8) (some (.inl (pc + 3, L, .long (if y < x then y else x) :: r, σ)))
    else (lkM (mo mi) i).bind fun q => gd (q.1 < 227 ∧ ms_ q.1 = true ∧ mn q.1 ≤ st.length ∧ dropC (mn q.1) st) ((call q.1 (st.take (mn q.1)).reverse σ).bind fun a => some (.inl (pc + 3, L, a.1.toList ++ st.drop (mn q.1), a.2))))
  | .ireturn => gd (len = 1) (retI st (mr mi) σ)
  | .areturn => gd (len = 1) (retA st (mr mi) σ)
  | .lreturn => gd (len = 1) (retL st (mr mi) σ)
  | .return_ => gd (len = 1) (retV st (mr mi) σ)
  | _ => none
noncomputable def stepI (call : Nat → List Value → Hs → Rs) (mi pc : Nat) (L st : List Value) (σ : Hs) : Option Sr := match decode (mb mi) pc with
  | .ok q => opI call mi pc L st σ q.1 q.2
  | .error _ => none
noncomputable def runN (call : Nat → List Value → Hs → Rs) (mi : Nat) : Nat → Nat → List Value → List Value → Hs → Rs
  | 0, _, _, _, _ => none
  | n + 1, pc, L, st, σ => match stepI call mi pc L st σ with
    | some (.inl q) => runN call mi n q.1 q.2.1 q.2.2.1 q.2.2.2
    | some (.inr q) => some q
    | none => none
theorem runN_mono {call : Nat → List Value → Hs → Rs} {mi : Nat} : ∀ (n pc : Nat) (L st : List Value) (σ : Hs) (q : Option Value × Hs), runN call mi n pc L st σ = some q → runN call mi (n + 1) pc L st σ = some q := by
  intro n
  induction n with
  | zero => intro pc L st σ q h; cases h
  | succ n ih =>
    intro pc L st σ q h
    rw [runN] at h ⊢
    cases hs : stepI call mi pc L st σ with
    | none => rw [hs] at h; cases h
    | some r =>
      rw [hs] at h
      cases r with
      | inl c => exact ih _ _ _ _ _ h
      | inr c => exact h
theorem runN_le {call : Nat → List Value → Hs → Rs} {mi n k pc : Nat} {L st : List Value} {σ : Hs} {q : Option Value × Hs} (h : runN call mi n pc L st σ = some q) : runN call mi (n + k) pc L st σ = some q := by
  induction k with
  | zero => exact h
  | succ k ih => exact runN_mono _ _ _ _ _ _ ih
theorem runN_det {call : Nat → List Value → Hs → Rs} {mi n k pc : Nat} {L st : List Value} {σ : Hs} {q r : Option Value × Hs} (h : runN call mi n pc L st σ = some q) (h2 : runN call mi k pc L st σ = some r) : q = r := by
  have a := runN_le (k := k) h
  have b := runN_le (k := n) h2
  rw [Nat.add_comm] at b
  exact Option.some.inj (a.symm.trans b)
/-- without a count of steps -/
noncomputable def runE (call : Nat → List Value → Hs → Rs) (mi pc : Nat) (L st : List Value) (σ : Hs) : Rs := @dite _ (∃ q n, runN call mi n pc L st σ = some q) (Classical.propDecidable _) (fun h => some h.choose) (fun _ => none)
theorem runE_some {call : Nat → List Value → Hs → Rs} {mi pc : Nat} {L st : List Value} {σ : Hs} {q : Option Value × Hs} : runE call mi pc L st σ = some q ↔ ∃ n, runN call mi n pc L st σ = some q := by
  unfold runE
  constructor
  · intro h
    by_cases hx : ∃ q n, runN call mi n pc L st σ = some q
    · rw [dif_pos hx] at h
      cases h
      exact hx.choose_spec
    · rw [dif_neg hx] at h
      cases h
  · rintro ⟨n, hn⟩
    have hx : ∃ q n, runN call mi n pc L st σ = some q := ⟨q, n, hn⟩
    rw [dif_pos hx]
    obtain ⟨k, hk⟩ := hx.choose_spec
    rw [runN_det hn hk]
theorem runE_step {call : Nat → List Value → Hs → Rs} {mi pc : Nat} {L st : List Value} {σ : Hs} {pc2 : Nat} {L2 st2 : List Value} {σ2 : Hs} (h : stepI call mi pc L st σ = some (.inl (pc2, L2, st2, σ2))) : runE call mi pc L st σ = runE call mi pc2 L2 st2 σ2 := by
  apply Option.ext
  intro q
  rw [runE_some, runE_some]
  constructor
  · rintro ⟨n, hn⟩
    cases n with
    | zero => cases hn
    | succ n => rw [runN, h] at hn; exact ⟨n, hn⟩
  · rintro ⟨n, hn⟩
    exact ⟨n + 1, by rw [runN, h]; exact hn⟩
theorem runE_end {call : Nat → List Value → Hs → Rs} {mi pc : Nat} {L st : List Value} {σ : Hs} {q : Option Value × Hs} (h : stepI call mi pc L st σ = some (.inr q)) : runE call mi pc L st σ = some q := runE_some.mpr ⟨1, by rw [runN, h]⟩
theorem runE_stuck {call : Nat → List Value → Hs → Rs} {mi pc : Nat} {L st : List Value} {σ : Hs} (h : stepI call mi pc L st σ = none) : runE call mi pc L st σ = none := by
  apply Option.ext
  intro q
  rw [runE_some]
  constructor
  · rintro ⟨n, hn⟩
    cases n with
    | zero => cases hn
    | succ n => rw [runN, h] at hn; cases hn
  · intro hn; cases hn
/-- the locals with which a method begins -/
def arL : List Value → List Value
  | [] => []
  | .long x :: r => .long x :: uu :: arL r
  | .double x :: r => .double x :: uu :: arL r
  | v :: r => v :: arL r
def ent (mi : Nat) (vs : List Value) : List Value := arL vs ++ List.replicate (ml mi - (arL vs).length) uu
noncomputable def callD : Nat → Nat → List Value → Hs → Rs
  | 0, _, _, _ => none
  | d + 1, mi, vs, σ => if (arL vs).length ≤ ml mi then runE (callD d) mi 0 (ent mi vs) [] σ else none
