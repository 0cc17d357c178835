/-! ===== text: which name ===== -/
theorem nIb_eq {b c : Nat} (hb : b < 2147483648) (hc : c < 2147483648) : (nI b = nI c) = (c = b) := by
  rw [nI_eq hb hc]
  exact propext eq_comm
theorem nb_100 {c : Nat} (hc : c < 256) : ((100 : Int32) = nI c) = (c = 100) := nIb_eq (b := 100) (by omega) (by omega)
theorem nc_100 {c : Nat} (hc : c < 256) : (nI c = (100 : Int32)) = (c = 100) := by rw [show (100 : Int32) = nI 100 from rfl, nI_eq (by omega) (by omega)]
theorem nb_115 {c : Nat} (hc : c < 256) : ((115 : Int32) = nI c) = (c = 115) := nIb_eq (b := 115) (by omega) (by omega)
theorem nc_115 {c : Nat} (hc : c < 256) : (nI c = (115 : Int32)) = (c = 115) := by rw [show (115 : Int32) = nI 115 from rfl, nI_eq (by omega) (by omega)]
theorem nb_119 {c : Nat} (hc : c < 256) : ((119 : Int32) = nI c) = (c = 119) := nIb_eq (b := 119) (by omega) (by omega)
theorem nc_119 {c : Nat} (hc : c < 256) : (nI c = (119 : Int32)) = (c = 119) := by rw [show (119 : Int32) = nI 119 from rfl, nI_eq (by omega) (by omega)]
theorem nb_114 {c : Nat} (hc : c < 256) : ((114 : Int32) = nI c) = (c = 114) := nIb_eq (b := 114) (by omega) (by omega)
theorem nc_114 {c : Nat} (hc : c < 256) : (nI c = (114 : Int32)) = (c = 114) := by rw [show (114 : Int32) = nI 114 from rfl, nI_eq (by omega) (by omega)]
theorem nb_104 {c : Nat} (hc : c < 256) : ((104 : Int32) = nI c) = (c = 104) := nIb_eq (b := 104) (by omega) (by omega)
theorem nc_104 {c : Nat} (hc : c < 256) : (nI c = (104 : Int32)) = (c = 104) := by rw [show (104 : Int32) = nI 104 from rfl, nI_eq (by omega) (by omega)]
theorem nb_108 {c : Nat} (hc : c < 256) : ((108 : Int32) = nI c) = (c = 108) := nIb_eq (b := 108) (by omega) (by omega)
theorem nc_108 {c : Nat} (hc : c < 256) : (nI c = (108 : Int32)) = (c = 108) := by rw [show (108 : Int32) = nI 108 from rfl, nI_eq (by omega) (by omega)]
theorem nb_110 {c : Nat} (hc : c < 256) : ((110 : Int32) = nI c) = (c = 110) := nIb_eq (b := 110) (by omega) (by omega)
theorem nc_110 {c : Nat} (hc : c < 256) : (nI c = (110 : Int32)) = (c = 110) := by rw [show (110 : Int32) = nI 110 from rfl, nI_eq (by omega) (by omega)]
theorem nb_124 {c : Nat} (hc : c < 256) : ((124 : Int32) = nI c) = (c = 124) := nIb_eq (b := 124) (by omega) (by omega)
theorem nc_124 {c : Nat} (hc : c < 256) : (nI c = (124 : Int32)) = (c = 124) := by rw [show (124 : Int32) = nI 124 from rfl, nI_eq (by omega) (by omega)]
theorem nb_38 {c : Nat} (hc : c < 256) : ((38 : Int32) = nI c) = (c = 38) := nIb_eq (b := 38) (by omega) (by omega)
theorem nc_38 {c : Nat} (hc : c < 256) : (nI c = (38 : Int32)) = (c = 38) := by rw [show (38 : Int32) = nI 38 from rfl, nI_eq (by omega) (by omega)]
theorem nb_60 {c : Nat} (hc : c < 256) : ((60 : Int32) = nI c) = (c = 60) := nIb_eq (b := 60) (by omega) (by omega)
theorem nc_60 {c : Nat} (hc : c < 256) : (nI c = (60 : Int32)) = (c = 60) := by rw [show (60 : Int32) = nI 60 from rfl, nI_eq (by omega) (by omega)]
theorem nb_61 {c : Nat} (hc : c < 256) : ((61 : Int32) = nI c) = (c = 61) := nIb_eq (b := 61) (by omega) (by omega)
theorem nc_61 {c : Nat} (hc : c < 256) : (nI c = (61 : Int32)) = (c = 61) := by rw [show (61 : Int32) = nI 61 from rfl, nI_eq (by omega) (by omega)]
theorem nb_62 {c : Nat} (hc : c < 256) : ((62 : Int32) = nI c) = (c = 62) := nIb_eq (b := 62) (by omega) (by omega)
theorem nc_62 {c : Nat} (hc : c < 256) : (nI c = (62 : Int32)) = (c = 62) := by rw [show (62 : Int32) = nI 62 from rfl, nI_eq (by omega) (by omega)]
theorem nb_43 {c : Nat} (hc : c < 256) : ((43 : Int32) = nI c) = (c = 43) := nIb_eq (b := 43) (by omega) (by omega)
theorem nc_43 {c : Nat} (hc : c < 256) : (nI c = (43 : Int32)) = (c = 43) := by rw [show (43 : Int32) = nI 43 from rfl, nI_eq (by omega) (by omega)]
theorem nb_45 {c : Nat} (hc : c < 256) : ((45 : Int32) = nI c) = (c = 45) := nIb_eq (b := 45) (by omega) (by omega)
theorem nc_45 {c : Nat} (hc : c < 256) : (nI c = (45 : Int32)) = (c = 45) := by rw [show (45 : Int32) = nI 45 from rfl, nI_eq (by omega) (by omega)]
theorem nb_42 {c : Nat} (hc : c < 256) : ((42 : Int32) = nI c) = (c = 42) := nIb_eq (b := 42) (by omega) (by omega)
theorem nc_42 {c : Nat} (hc : c < 256) : (nI c = (42 : Int32)) = (c = 42) := by rw [show (42 : Int32) = nI 42 from rfl, nI_eq (by omega) (by omega)]
theorem nb_47 {c : Nat} (hc : c < 256) : ((47 : Int32) = nI c) = (c = 47) := nIb_eq (b := 47) (by omega) (by omega)
theorem nc_47 {c : Nat} (hc : c < 256) : (nI c = (47 : Int32)) = (c = 47) := by rw [show (47 : Int32) = nI 47 from rfl, nI_eq (by omega) (by omega)]
theorem nb_37 {c : Nat} (hc : c < 256) : ((37 : Int32) = nI c) = (c = 37) := nIb_eq (b := 37) (by omega) (by omega)
theorem nc_37 {c : Nat} (hc : c < 256) : (nI c = (37 : Int32)) = (c = 37) := by rw [show (37 : Int32) = nI 37 from rfl, nI_eq (by omega) (by omega)]
theorem nb_33 {c : Nat} (hc : c < 256) : ((33 : Int32) = nI c) = (c = 33) := nIb_eq (b := 33) (by omega) (by omega)
theorem nc_33 {c : Nat} (hc : c < 256) : (nI c = (33 : Int32)) = (c = 33) := by rw [show (33 : Int32) = nI 33 from rfl, nI_eq (by omega) (by omega)]
theorem nb_40 {c : Nat} (hc : c < 256) : ((40 : Int32) = nI c) = (c = 40) := nIb_eq (b := 40) (by omega) (by omega)
theorem nc_40 {c : Nat} (hc : c < 256) : (nI c = (40 : Int32)) = (c = 40) := by rw [show (40 : Int32) = nI 40 from rfl, nI_eq (by omega) (by omega)]
theorem nb_41 {c : Nat} (hc : c < 256) : ((41 : Int32) = nI c) = (c = 41) := nIb_eq (b := 41) (by omega) (by omega)
theorem nc_41 {c : Nat} (hc : c < 256) : (nI c = (41 : Int32)) = (c = 41) := by rw [show (41 : Int32) = nI 41 from rfl, nI_eq (by omega) (by omega)]
theorem m_name_0 (d c : Nat) (hc : c < 256) (σ : Hs) (hu : σ 87 11 = 0) : callD (d + 6) 152 [.ref 87, .int (nI c)] σ = some (some (.int (ixF [100, 115, 119, 114] 0 c)), σ) := by
  have hl := ln_119 (d + 3) σ
  have k1 : (0 + 1 : Int32) = 1 := rfl
  have k2 : (1 + 1 : Int32) = 2 := rfl
  have k3 : (2 + 1 : Int32) = 3 := rfl
  have k4 : (3 + 1 : Int32) = 4 := rfl
  by_cases q0 : c = 100
  · rw [q0]
    simp only [c152, s152_0, s152_1, s152_2, s152_3, s152_4, s152_5, s152_6_o87, s152_9, s152_10_o87, s152_13_o95, s152_14_o119, s152_14_o120, s152_14_o121, s152_17, s152_20, s152_21_o87, s152_24, s152_25_o87, s152_28_o95, s152_29, s152_30_o119, s152_30_o120, s152_30_o121, s152_33, s152_34, s152_37, s152_38, s152_41, s152_42, s152_43, s152_46, s152_49, s152_50, hu, vp_lit, cr95_0, hl, cha_119_0, cha_119_1, cha_119_2, cha_119_3, k1, k2, k3, k4, show ((100 : Int32) = nI 100) = True from eq_true (by decide +kernel), show ((115 : Int32) = nI 100) = False from eq_false (by decide +kernel), show ((119 : Int32) = nI 100) = False from eq_false (by decide +kernel), show ((114 : Int32) = nI 100) = False from eq_false (by decide +kernel), simprocAttr, if_true, if_false, true_and, and_true, false_and, and_false, not_false_eq_true, not_true_eq_false, gd_T, kont_i, kont_v]
    rfl
  by_cases q1 : c = 115
  · rw [q1]
    simp only [c152, s152_0, s152_1, s152_2, s152_3, s152_4, s152_5, s152_6_o87, s152_9, s152_10_o87, s152_13_o95, s152_14_o119, s152_14_o120, s152_14_o121, s152_17, s152_20, s152_21_o87, s152_24, s152_25_o87, s152_28_o95, s152_29, s152_30_o119, s152_30_o120, s152_30_o121, s152_33, s152_34, s152_37, s152_38, s152_41, s152_42, s152_43, s152_46, s152_49, s152_50, hu, vp_lit, cr95_0, hl, cha_119_0, cha_119_1, cha_119_2, cha_119_3, k1, k2, k3, k4, show ((100 : Int32) = nI 115) = False from eq_false (by decide +kernel), show ((115 : Int32) = nI 115) = True from eq_true (by decide +kernel), show ((119 : Int32) = nI 115) = False from eq_false (by decide +kernel), show ((114 : Int32) = nI 115) = False from eq_false (by decide +kernel), simprocAttr, if_true, if_false, true_and, and_true, false_and, and_false, not_false_eq_true, not_true_eq_false, gd_T, kont_i, kont_v]
    rfl
  by_cases q2 : c = 119
  · rw [q2]
    simp only [c152, s152_0, s152_1, s152_2, s152_3, s152_4, s152_5, s152_6_o87, s152_9, s152_10_o87, s152_13_o95, s152_14_o119, s152_14_o120, s152_14_o121, s152_17, s152_20, s152_21_o87, s152_24, s152_25_o87, s152_28_o95, s152_29, s152_30_o119, s152_30_o120, s152_30_o121, s152_33, s152_34, s152_37, s152_38, s152_41, s152_42, s152_43, s152_46, s152_49, s152_50, hu, vp_lit, cr95_0, hl, cha_119_0, cha_119_1, cha_119_2, cha_119_3, k1, k2, k3, k4, show ((100 : Int32) = nI 119) = False from eq_false (by decide +kernel), show ((115 : Int32) = nI 119) = False from eq_false (by decide +kernel), show ((119 : Int32) = nI 119) = True from eq_true (by decide +kernel), show ((114 : Int32) = nI 119) = False from eq_false (by decide +kernel), simprocAttr, if_true, if_false, true_and, and_true, false_and, and_false, not_false_eq_true, not_true_eq_false, gd_T, kont_i, kont_v]
    rfl
  by_cases q3 : c = 114
  · rw [q3]
    simp only [c152, s152_0, s152_1, s152_2, s152_3, s152_4, s152_5, s152_6_o87, s152_9, s152_10_o87, s152_13_o95, s152_14_o119, s152_14_o120, s152_14_o121, s152_17, s152_20, s152_21_o87, s152_24, s152_25_o87, s152_28_o95, s152_29, s152_30_o119, s152_30_o120, s152_30_o121, s152_33, s152_34, s152_37, s152_38, s152_41, s152_42, s152_43, s152_46, s152_49, s152_50, hu, vp_lit, cr95_0, hl, cha_119_0, cha_119_1, cha_119_2, cha_119_3, k1, k2, k3, k4, show ((100 : Int32) = nI 114) = False from eq_false (by decide +kernel), show ((115 : Int32) = nI 114) = False from eq_false (by decide +kernel), show ((119 : Int32) = nI 114) = False from eq_false (by decide +kernel), show ((114 : Int32) = nI 114) = True from eq_true (by decide +kernel), simprocAttr, if_true, if_false, true_and, and_true, false_and, and_false, not_false_eq_true, not_true_eq_false, gd_T, kont_i, kont_v]
    rfl
  have z : ixF [100, 115, 119, 114] 0 c = -1 := by
    simp only [ixF, if_neg q0, if_neg q1, if_neg q2, if_neg q3]
  rw [z]
  simp only [c152, s152_0, s152_1, s152_2, s152_3, s152_4, s152_5, s152_6_o87, s152_9, s152_10_o87, s152_13_o95, s152_14_o119, s152_14_o120, s152_14_o121, s152_17, s152_20, s152_21_o87, s152_24, s152_25_o87, s152_28_o95, s152_29, s152_30_o119, s152_30_o120, s152_30_o121, s152_33, s152_34, s152_37, s152_38, s152_41, s152_42, s152_43, s152_46, s152_49, s152_50, hu, vp_lit, cr95_0, hl, cha_119_0, cha_119_1, cha_119_2, cha_119_3, k1, k2, k3, k4, nb_100 hc, eq_false q0, nb_115 hc, eq_false q1, nb_119 hc, eq_false q2, nb_114 hc, eq_false q3, simprocAttr, if_true, if_false, true_and, and_true, false_and, and_false, not_false_eq_true, not_true_eq_false, gd_T, kont_i, kont_v]
theorem m_name_1 (d c : Nat) (hc : c < 256) (σ : Hs) (hu : σ 87 11 = 1) : callD (d + 6) 152 [.ref 87, .int (nI c)] σ = some (some (.int (ixF [104, 119, 108, 110] 0 c)), σ) := by
  have hl := ln_120 (d + 3) σ
  have k1 : (0 + 1 : Int32) = 1 := rfl
  have k2 : (1 + 1 : Int32) = 2 := rfl
  have k3 : (2 + 1 : Int32) = 3 := rfl
  have k4 : (3 + 1 : Int32) = 4 := rfl
  by_cases q0 : c = 104
  · rw [q0]
    simp only [c152, s152_0, s152_1, s152_2, s152_3, s152_4, s152_5, s152_6_o87, s152_9, s152_10_o87, s152_13_o95, s152_14_o119, s152_14_o120, s152_14_o121, s152_17, s152_20, s152_21_o87, s152_24, s152_25_o87, s152_28_o95, s152_29, s152_30_o119, s152_30_o120, s152_30_o121, s152_33, s152_34, s152_37, s152_38, s152_41, s152_42, s152_43, s152_46, s152_49, s152_50, hu, vp_lit, cr95_1, hl, cha_120_0, cha_120_1, cha_120_2, cha_120_3, k1, k2, k3, k4, show ((104 : Int32) = nI 104) = True from eq_true (by decide +kernel), show ((119 : Int32) = nI 104) = False from eq_false (by decide +kernel), show ((108 : Int32) = nI 104) = False from eq_false (by decide +kernel), show ((110 : Int32) = nI 104) = False from eq_false (by decide +kernel), simprocAttr, if_true, if_false, true_and, and_true, false_and, and_false, not_false_eq_true, not_true_eq_false, gd_T, kont_i, kont_v]
    rfl
  by_cases q1 : c = 119
  · rw [q1]
    simp only [c152, s152_0, s152_1, s152_2, s152_3, s152_4, s152_5, s152_6_o87, s152_9, s152_10_o87, s152_13_o95, s152_14_o119, s152_14_o120, s152_14_o121, s152_17, s152_20, s152_21_o87, s152_24, s152_25_o87, s152_28_o95, s152_29, s152_30_o119, s152_30_o120, s152_30_o121, s152_33, s152_34, s152_37, s152_38, s152_41, s152_42, s152_43, s152_46, s152_49, s152_50, hu, vp_lit, cr95_1, hl, cha_120_0, cha_120_1, cha_120_2, cha_120_3, k1, k2, k3, k4, show ((104 : Int32) = nI 119) = False from eq_false (by decide +kernel), show ((119 : Int32) = nI 119) = True from eq_true (by decide +kernel), show ((108 : Int32) = nI 119) = False from eq_false (by decide +kernel), show ((110 : Int32) = nI 119) = False from eq_false (by decide +kernel), simprocAttr, if_true, if_false, true_and, and_true, false_and, and_false, not_false_eq_true, not_true_eq_false, gd_T, kont_i, kont_v]
    rfl
  by_cases q2 : c = 108
  · rw [q2]
    simp only [c152, s152_0, s152_1, s152_2, s152_3, s152_4, s152_5, s152_6_o87, s152_9, s152_10_o87, s152_13_o95, s152_14_o119, s152_14_o120, s152_14_o121, s152_17, s152_20, s152_21_o87, s152_24, s152_25_o87, s152_28_o95, s152_29, s152_30_o119, s152_30_o120, s152_30_o121, s152_33, s152_34, s152_37, s152_38, s152_41, s152_42, s152_43, s152_46, s152_49, s152_50, hu, vp_lit, cr95_1, hl, cha_120_0, cha_120_1, cha_120_2, cha_120_3, k1, k2, k3, k4, show ((104 : Int32) = nI 108) = False from eq_false (by decide +kernel), show ((119 : Int32) = nI 108) = False from eq_false (by decide +kernel), show ((108 : Int32) = nI 108) = True from eq_true (by decide +kernel), show ((110 : Int32) = nI 108) = False from eq_false (by decide +kernel), simprocAttr, if_true, if_false, true_and, and_true, false_and, and_false, not_false_eq_true, not_true_eq_false, gd_T, kont_i, kont_v]
    rfl
  by_cases q3 : c = 110
  · rw [q3]
    simp only [c152, s152_0, s152_1, s152_2, s152_3, s152_4, s152_5, s152_6_o87, s152_9, s152_10_o87, s152_13_o95, s152_14_o119, s152_14_o120, s152_14_o121, s152_17, s152_20, s152_21_o87, s152_24, s152_25_o87, s152_28_o95, s152_29, s152_30_o119, s152_30_o120, s152_30_o121, s152_33, s152_34, s152_37, s152_38, s152_41, s152_42, s152_43, s152_46, s152_49, s152_50, hu, vp_lit, cr95_1, hl, cha_120_0, cha_120_1, cha_120_2, cha_120_3, k1, k2, k3, k4, show ((104 : Int32) = nI 110) = False from eq_false (by decide +kernel), show ((119 : Int32) = nI 110) = False from eq_false (by decide +kernel), show ((108 : Int32) = nI 110) = False from eq_false (by decide +kernel), show ((110 : Int32) = nI 110) = True from eq_true (by decide +kernel), simprocAttr, if_true, if_false, true_and, and_true, false_and, and_false, not_false_eq_true, not_true_eq_false, gd_T, kont_i, kont_v]
    rfl
  have z : ixF [104, 119, 108, 110] 0 c = -1 := by
    simp only [ixF, if_neg q0, if_neg q1, if_neg q2, if_neg q3]
  rw [z]
  simp only [c152, s152_0, s152_1, s152_2, s152_3, s152_4, s152_5, s152_6_o87, s152_9, s152_10_o87, s152_13_o95, s152_14_o119, s152_14_o120, s152_14_o121, s152_17, s152_20, s152_21_o87, s152_24, s152_25_o87, s152_28_o95, s152_29, s152_30_o119, s152_30_o120, s152_30_o121, s152_33, s152_34, s152_37, s152_38, s152_41, s152_42, s152_43, s152_46, s152_49, s152_50, hu, vp_lit, cr95_1, hl, cha_120_0, cha_120_1, cha_120_2, cha_120_3, k1, k2, k3, k4, nb_104 hc, eq_false q0, nb_119 hc, eq_false q1, nb_108 hc, eq_false q2, nb_110 hc, eq_false q3, simprocAttr, if_true, if_false, true_and, and_true, false_and, and_false, not_false_eq_true, not_true_eq_false, gd_T, kont_i, kont_v]
theorem m_name_2 (d c : Nat) (hc : c < 256) (σ : Hs) (hu : σ 87 11 = 2) : callD (d + 6) 152 [.ref 87, .int (nI c)] σ = some (some (.int (ixF [104, 119, 115] 0 c)), σ) := by
  have hl := ln_121 (d + 3) σ
  have k1 : (0 + 1 : Int32) = 1 := rfl
  have k2 : (1 + 1 : Int32) = 2 := rfl
  have k3 : (2 + 1 : Int32) = 3 := rfl
  have k4 : (3 + 1 : Int32) = 4 := rfl
  by_cases q0 : c = 104
  · rw [q0]
    simp only [c152, s152_0, s152_1, s152_2, s152_3, s152_4, s152_5, s152_6_o87, s152_9, s152_10_o87, s152_13_o95, s152_14_o119, s152_14_o120, s152_14_o121, s152_17, s152_20, s152_21_o87, s152_24, s152_25_o87, s152_28_o95, s152_29, s152_30_o119, s152_30_o120, s152_30_o121, s152_33, s152_34, s152_37, s152_38, s152_41, s152_42, s152_43, s152_46, s152_49, s152_50, hu, vp_lit, cr95_2, hl, cha_121_0, cha_121_1, cha_121_2, k1, k2, k3, k4, show ((104 : Int32) = nI 104) = True from eq_true (by decide +kernel), show ((119 : Int32) = nI 104) = False from eq_false (by decide +kernel), show ((115 : Int32) = nI 104) = False from eq_false (by decide +kernel), simprocAttr, if_true, if_false, true_and, and_true, false_and, and_false, not_false_eq_true, not_true_eq_false, gd_T, kont_i, kont_v]
    rfl
  by_cases q1 : c = 119
  · rw [q1]
    simp only [c152, s152_0, s152_1, s152_2, s152_3, s152_4, s152_5, s152_6_o87, s152_9, s152_10_o87, s152_13_o95, s152_14_o119, s152_14_o120, s152_14_o121, s152_17, s152_20, s152_21_o87, s152_24, s152_25_o87, s152_28_o95, s152_29, s152_30_o119, s152_30_o120, s152_30_o121, s152_33, s152_34, s152_37, s152_38, s152_41, s152_42, s152_43, s152_46, s152_49, s152_50, hu, vp_lit, cr95_2, hl, cha_121_0, cha_121_1, cha_121_2, k1, k2, k3, k4, show ((104 : Int32) = nI 119) = False from eq_false (by decide +kernel), show ((119 : Int32) = nI 119) = True from eq_true (by decide +kernel), show ((115 : Int32) = nI 119) = False from eq_false (by decide +kernel), simprocAttr, if_true, if_false, true_and, and_true, false_and, and_false, not_false_eq_true, not_true_eq_false, gd_T, kont_i, kont_v]
    rfl
  by_cases q2 : c = 115
  · rw [q2]
    simp only [c152, s152_0, s152_1, s152_2, s152_3, s152_4, s152_5, s152_6_o87, s152_9, s152_10_o87, s152_13_o95, s152_14_o119, s152_14_o120, s152_14_o121, s152_17, s152_20, s152_21_o87, s152_24, s152_25_o87, s152_28_o95, s152_29, s152_30_o119, s152_30_o120, s152_30_o121, s152_33, s152_34, s152_37, s152_38, s152_41, s152_42, s152_43, s152_46, s152_49, s152_50, hu, vp_lit, cr95_2, hl, cha_121_0, cha_121_1, cha_121_2, k1, k2, k3, k4, show ((104 : Int32) = nI 115) = False from eq_false (by decide +kernel), show ((119 : Int32) = nI 115) = False from eq_false (by decide +kernel), show ((115 : Int32) = nI 115) = True from eq_true (by decide +kernel), simprocAttr, if_true, if_false, true_and, and_true, false_and, and_false, not_false_eq_true, not_true_eq_false, gd_T, kont_i, kont_v]
    rfl
  have z : ixF [104, 119, 115] 0 c = -1 := by
    simp only [ixF, if_neg q0, if_neg q1, if_neg q2]
  rw [z]
  simp only [c152, s152_0, s152_1, s152_2, s152_3, s152_4, s152_5, s152_6_o87, s152_9, s152_10_o87, s152_13_o95, s152_14_o119, s152_14_o120, s152_14_o121, s152_17, s152_20, s152_21_o87, s152_24, s152_25_o87, s152_28_o95, s152_29, s152_30_o119, s152_30_o120, s152_30_o121, s152_33, s152_34, s152_37, s152_38, s152_41, s152_42, s152_43, s152_46, s152_49, s152_50, hu, vp_lit, cr95_2, hl, cha_121_0, cha_121_1, cha_121_2, k1, k2, k3, k4, nb_104 hc, eq_false q0, nb_119 hc, eq_false q1, nb_115 hc, eq_false q2, simprocAttr, if_true, if_false, true_and, and_true, false_and, and_false, not_false_eq_true, not_true_eq_false, gd_T, kont_i, kont_v]
