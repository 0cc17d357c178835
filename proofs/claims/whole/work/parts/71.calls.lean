/-! ===== the calls: as, become, fork, pour ===== -/
theorem knd_n {v : Int32} (h : 0 ≤ v ∧ v ≤ 6) : ∃ k : Nat, k < 7 ∧ v = nI k := by
  obtain ⟨p, -, a, e⟩ := within_n (a := 0) (b := 6) h rfl rfl (by omega) (by omega)
  exact ⟨p, by omega, e⟩
theorem L_as {i : Nat} {σ : Hs} (h : RR i σ) (d : Nat) (v w : Int32) : Step d i 62 135 [.int v, .int w] σ := by
  by_cases hv : 0 ≤ v ∧ v ≤ 29
  · have hvt := eq_true hv
    by_cases hw : 0 ≤ w ∧ w ≤ 6
    · have hwt := eq_true hw
      obtain ⟨p, hp, rfl⟩ := plc_n hv
      have p31 : p < 2147483648 := by omega
      have ei := h2_has (d + 98) p hp σ (σ 88) h.hr h.wi.P
      by_cases hi : isT (σ 88) p
      · obtain ⟨k, ek, lk⟩ := h.wi.n hp hi 1 (by omega) (by omega)
        have lk : k < 7 := lk
        have g1 : σ 3 p = nI k := (h.hr.f hp hi 1 (by omega) (by omega)).trans ek
        have g2 : σ 4 p = ofT (σ 88) p 2 := h.hr.f hp hi 2 (by omega) (by omega)
        by_cases m : w ∈ ancL k
        · have c1 : callD (d + 100) 62 [.ref 0, .int (nI p), .int w] σ = some (some (.int (ofT (σ 88) p 2)), σ) := by
            simp only [c62, s62_0, s62_1, s62_4, s62_7, s62_8, s62_11, s62_14, s62_15, s62_16_o0, s62_19, s62_20, s62_21_o0, s62_24_o1, s62_27, s62_28_o2, s62_31, s62_34, s62_35, s62_36_o0, s62_39, s62_40, s62_41_o0, s62_44_o1, s62_47_o2, s62_50, s62_51_o3, s62_52, s62_53, s62_56, s62_59, s62_60, s62_61_o0, s62_64, s62_65, s62_66_o0, s62_69_o1, s62_72_o2, s62_75, s62_76_o4, s62_77, k_isPlace, k_isKind, lt_le30, lt_le7, hvt, hwt, b2_t, ei, b2_T hi, vp_nI hp, cl_nI p31, g1, g2, k_isOfKind _ k lk, b2_T m, simprocAttr, if_true, if_false, true_and, and_true, false_and, and_false, not_false_eq_true, not_true_eq_false, gd_T, kont_i, kont_v]
          have c2 : callD (d + 100) 135 [.ref 87, .int (nI p), .int w] σ = some (some (.int (ofT (σ 88) p 2)), σ) := by
            have hc := anc_m lk (d + 96) w p σ
            rw [clL_in m] at hc
            have w0 : (0 ≤ w) = True := eq_true hw.1
            have w1 : (w < 0) = False := eq_false (Int32.not_lt.mpr hw.1)
            simp only [c135, s135_0, s135_1, s135_4, s135_7, s135_8, s135_9, s135_11, s135_14, s135_17, s135_18, s135_20_o87, s135_23, s135_24, s135_25, s135_26_o87, s135_29, s135_32, s135_33, s135_35_o87, s135_38, s135_39, s135_40, s135_41, s135_42_o87, s135_45, m_isPlace, m_within, hvt, hwt, b2_t, m_is _ _ hp, b2_T hi, m_of_1 _ _ hp, ek, hc, simprocAttr, if_true, if_false, true_and, and_true, false_and, and_false, not_false_eq_true, not_true_eq_false, gd_T, kont_i, kont_v]
            simp only [s135_63, s135_64, s135_67, s135_68, s135_70_o87, s135_73, s135_76, s135_77, s135_78, s135_79_o87, s135_82, m_of_2 _ _ hp, w0, w1, simprocAttr, if_true, if_false, true_and, and_true, false_and, and_false, not_false_eq_true, not_true_eq_false, gd_T, kont_i, kont_v]
          exact ⟨_, _, _, c1, c2, h.same⟩
        · refine Step_err h 5 (v := -1000005) ?_ ?_
          · simp only [c62, s62_0, s62_1, s62_4, s62_7, s62_8, s62_11, s62_14, s62_15, s62_16_o0, s62_19, s62_20, s62_21_o0, s62_24_o1, s62_27, s62_28_o2, s62_31, s62_34, s62_35, s62_36_o0, s62_39, s62_40, s62_41_o0, s62_44_o1, s62_47_o2, s62_50, s62_51_o3, s62_52, s62_53, s62_56, s62_59, s62_60, s62_61_o0, s62_64, s62_65, s62_66_o0, s62_69_o1, s62_72_o2, s62_75, s62_76_o4, s62_77, k_isPlace, k_isKind, lt_le30, lt_le7, hvt, hwt, b2_t, ei, b2_T hi, vp_nI hp, cl_nI p31, g1, g2, k_isOfKind _ k lk, b2_F m, k_failed_5, simprocAttr, if_true, if_false, true_and, and_true, false_and, and_false, not_false_eq_true, not_true_eq_false, gd_T, kont_i, kont_v]
          · have e88 : erC σ 5 88 = σ 88 := rep_ne (by omega)
            have hc := anc_m lk (d + 96) w p (erC σ 5)
            rw [clL_no m] at hc
            simp only [c135, s135_0, s135_1, s135_4, s135_7, s135_8, s135_9, s135_11, s135_14, s135_17, s135_18, s135_20_o87, s135_23, s135_24, s135_25, s135_26_o87, s135_29, s135_32, s135_33, s135_35_o87, s135_38, s135_39, s135_40, s135_41, s135_42_o87, s135_45, m_isPlace, m_within, hvt, hwt, b2_t, m_is _ _ hp, e88, b2_T hi, m_of_1 _ _ hp, ek, hc, simprocAttr, if_true, if_false, true_and, and_true, false_and, and_false, not_false_eq_true, not_true_eq_false, gd_T, kont_i, kont_v]
            simp only [s135_63, s135_64, s135_67, s135_68, s135_70_o87, s135_73, s135_76, s135_77, s135_78, s135_79_o87, s135_82, m_fin_5, simprocAttr, if_true, if_false, true_and, and_true, false_and, and_false, not_false_eq_true, not_true_eq_false, gd_T, kont_i, kont_v]
      · refine Step_err h 2 (v := -1000002) ?_ ?_
        · simp only [c62, s62_0, s62_1, s62_4, s62_7, s62_8, s62_11, s62_14, s62_15, s62_16_o0, s62_19, s62_20, s62_21_o0, s62_24_o1, s62_27, s62_28_o2, s62_31, s62_34, s62_35, s62_36_o0, s62_39, s62_40, s62_41_o0, s62_44_o1, s62_47_o2, s62_50, s62_51_o3, s62_52, s62_53, s62_56, s62_59, s62_60, s62_61_o0, s62_64, s62_65, s62_66_o0, s62_69_o1, s62_72_o2, s62_75, s62_76_o4, s62_77, k_isPlace, k_isKind, lt_le30, lt_le7, hvt, hwt, b2_t, ei, b2_F hi, k_failed_2, simprocAttr, if_true, if_false, true_and, and_true, false_and, and_false, not_false_eq_true, not_true_eq_false, gd_T, kont_i, kont_v]
        · have hi1 : ¬ isT (erC σ 2 88) p := by rw [show erC σ 2 88 = σ 88 from rep_ne (by omega)]; exact hi
          simp only [c135, s135_0, s135_1, s135_4, s135_7, s135_8, s135_9, s135_11, s135_14, s135_17, s135_18, s135_20_o87, s135_23, s135_24, s135_25, s135_26_o87, s135_29, s135_32, s135_33, s135_35_o87, s135_38, s135_39, s135_40, s135_41, s135_42_o87, s135_45, m_isPlace, m_within, hvt, hwt, b2_t, m_is _ _ hp, b2_F hi1, m_fin_2, simprocAttr, if_true, if_false, true_and, and_true, false_and, and_false, not_false_eq_true, not_true_eq_false, gd_T, kont_i, kont_v]
    · have hwf := eq_false hw
      refine Step_err h 1 (v := -1000001) ?_ ?_
      · simp only [c62, s62_0, s62_1, s62_4, s62_7, s62_8, s62_11, s62_14, s62_15, s62_16_o0, s62_19, s62_20, s62_21_o0, s62_24_o1, s62_27, s62_28_o2, s62_31, s62_34, s62_35, s62_36_o0, s62_39, s62_40, s62_41_o0, s62_44_o1, s62_47_o2, s62_50, s62_51_o3, s62_52, s62_53, s62_56, s62_59, s62_60, s62_61_o0, s62_64, s62_65, s62_66_o0, s62_69_o1, s62_72_o2, s62_75, s62_76_o4, s62_77, k_isPlace, k_isKind, lt_le30, lt_le7, hvt, hwf, b2_t, b2_f, k_failed_1, simprocAttr, if_true, if_false, true_and, and_true, false_and, and_false, not_false_eq_true, not_true_eq_false, gd_T, kont_i, kont_v]
      · simp only [c135, s135_0, s135_1, s135_4, s135_7, s135_8, s135_9, s135_11, s135_14, s135_17, s135_18, s135_20_o87, s135_23, s135_24, s135_25, s135_26_o87, s135_29, s135_32, s135_33, s135_35_o87, s135_38, s135_39, s135_40, s135_41, s135_42_o87, s135_45, m_isPlace, m_within, hvt, hwf, b2_t, b2_f, m_fin_1, simprocAttr, if_true, if_false, true_and, and_true, false_and, and_false, not_false_eq_true, not_true_eq_false, gd_T, kont_i, kont_v]
  · have hvf := nplc hv
    refine Step_err h 1 (v := -1000001) ?_ ?_
    · simp only [c62, s62_0, s62_1, s62_4, s62_7, s62_8, s62_11, s62_14, s62_15, s62_16_o0, s62_19, s62_20, s62_21_o0, s62_24_o1, s62_27, s62_28_o2, s62_31, s62_34, s62_35, s62_36_o0, s62_39, s62_40, s62_41_o0, s62_44_o1, s62_47_o2, s62_50, s62_51_o3, s62_52, s62_53, s62_56, s62_59, s62_60, s62_61_o0, s62_64, s62_65, s62_66_o0, s62_69_o1, s62_72_o2, s62_75, s62_76_o4, s62_77, k_isPlace, lt_le30, hvf, b2_f, k_failed_1, simprocAttr, if_true, if_false, true_and, and_true, false_and, and_false, not_false_eq_true, not_true_eq_false, gd_T, kont_i, kont_v]
    · simp only [c135, s135_0, s135_1, s135_4, s135_7, s135_8, s135_9, s135_11, s135_14, s135_17, s135_18, s135_20_o87, s135_23, s135_24, s135_25, s135_26_o87, s135_29, s135_32, s135_33, s135_35_o87, s135_38, s135_39, s135_40, s135_41, s135_42_o87, s135_45, m_isPlace, hvf, b2_f, m_fin_1, simprocAttr, if_true, if_false, true_and, and_true, false_and, and_false, not_false_eq_true, not_true_eq_false, gd_T, kont_i, kont_v]
/-- one number of an armful changes -/
theorem RR.te {i : Nat} {σ σ2 : Hs} (h : RR i σ) {p f : Nat} {v : Int32} (hp : p < 30) (hi : isT (σ 88) p) (h1 : 1 ≤ f) (h6 : f ≤ 6) (n2 : f ≠ 2) (hv : FR f v) (e : σ2 = rep (rep σ (2 + f) (upd (σ (2 + f)) p v)) 88 (teT (σ 88) p f v)) (hW : WB σ2) : RR (i + 1) σ2 := by
  subst e
  refine h.pl (rep_self _ _ _) ?_ (h.wi.te h1 h6 hv) (PlT_te hp (by omega)) ?_ hW ?_ ?_ ?_
  · exact (h.hr.te hp hi f h1 h6 v).fr (fun o o1 o2 => rep_ne (by omega))
  · rw [sN_te (by omega) (by omega) n2]; omega
  · intro o ho
    unfold kpO at ho
    rw [rep_ne (by omega), rep_ne (by omega)]
  · rw [rep_ne (by omega), rep_ne (by omega)]
  · rw [rep_ne (by omega), rep_ne (by omega)]
theorem L_become {i : Nat} {σ : Hs} (h : RR i σ) (d : Nat) (v w : Int32) : Step d i 63 137 [.int v, .int w] σ := by
  by_cases hv : 0 ≤ v ∧ v ≤ 29
  · have hvt := eq_true hv
    by_cases hw : 0 ≤ w ∧ w ≤ 6
    · have hwt := eq_true hw
      obtain ⟨p, hp, rfl⟩ := plc_n hv
      have p31 : p < 2147483648 := by omega
      have ei := h2_has (d + 98) p hp σ (σ 88) h.hr h.wi.P
      obtain ⟨k, -, lk, ek⟩ := within_n (a := 0) (b := 6) hw rfl rfl (by omega) (by omega)
      by_cases hi : isT (σ 88) p
      · have g1 : σ 3 p = ofT (σ 88) p 1 := h.hr.f hp hi 1 (by omega) (by omega)
        have c1 : callD (d + 100) 63 [.ref 0, .int (nI p), .int w] σ = some (some (.int (ofT (σ 88) p 1)), rep σ 3 (upd (σ 3) p w)) := by
          simp only [c63, s63_0, s63_1, s63_4, s63_7, s63_8, s63_11, s63_14, s63_15, s63_16_o0, s63_19, s63_20, s63_21_o0, s63_24_o1, s63_27, s63_28_o2, s63_31, s63_34, s63_35, s63_36_o0, s63_39, s63_40, s63_41_o0, s63_44_o1, s63_47_o2, s63_50, s63_51_o3, s63_52, s63_53, s63_54_o0, s63_57_o1, s63_60_o2, s63_63, s63_64, s63_65_o3, s63_66, s63_67, k_isPlace, k_isKind, lt_le7, lt_le30, hvt, hwt, b2_t, ei, b2_T hi, vp_nI hp, cl_nI p31, g1, up2_rep, simprocAttr, if_true, if_false, true_and, and_true, false_and, and_false, not_false_eq_true, not_true_eq_false, gd_T, kont_i, kont_v]
        have e88 : rep σ 3 (upd (σ 3) p w) 88 = σ 88 := rep_ne (by omega)
        have hi1 : isT (rep σ 3 (upd (σ 3) p w) 88) p := by rw [e88]; exact hi
        have hc := m_comes (d + 97) (14 + 7 * p + 1) (by omega) w (rep σ 3 (upd (σ 3) p w))
        rw [e88] at hc
        have hix : (14 : Int32) + 7 * nI p + 1 = nI (14 + 7 * p + 1) := idxT p 1
        have c2 : callD (d + 100) 137 [.ref 87, .int (nI p), .int w] (rep σ 3 (upd (σ 3) p w)) = some (some (.int (ofT (σ 88) p 1)), rep (rep σ 3 (upd (σ 3) p w)) 88 (teT (σ 88) p 1 w)) := by
          simp only [c137, s137_0, s137_1, s137_2, s137_3, s137_5, s137_8, s137_9, s137_10, s137_11_o87, s137_14, c136, s136_0, s136_1, s136_4, s136_7, s136_8, s136_11, s136_12, s136_14_o87, s136_17, s136_18, s136_19, s136_20_o87, s136_23, s136_26, s136_27, s136_29, s136_31, s136_32, s136_33, s136_34, s136_35, s136_36, s136_38_o87, s136_41, s136_44, s136_45, s136_47_o87, s136_50, m_isPlace, m_within, hvt, hwt, b2_t, m_is _ _ hp, b2_T hi1, hix, hc, simprocAttr, if_true, if_false, true_and, and_true, false_and, and_false, not_false_eq_true, not_true_eq_false, gd_T, kont_i, kont_v]
          rfl
        exact ⟨_, _, _, c1, c2, h.te (f := 1) hp hi (by omega) (by omega) (by omega) (by rw [ek]; exact FR_n (f := 1) (Nat.zero_le _) (show k < 7 by omega)) rfl (h.wb.two c1 c2)⟩
      · refine Step_err h 2 (v := -1000002) ?_ ?_
        · simp only [c63, s63_0, s63_1, s63_4, s63_7, s63_8, s63_11, s63_14, s63_15, s63_16_o0, s63_19, s63_20, s63_21_o0, s63_24_o1, s63_27, s63_28_o2, s63_31, s63_34, s63_35, s63_36_o0, s63_39, s63_40, s63_41_o0, s63_44_o1, s63_47_o2, s63_50, s63_51_o3, s63_52, s63_53, s63_54_o0, s63_57_o1, s63_60_o2, s63_63, s63_64, s63_65_o3, s63_66, s63_67, k_isPlace, k_isKind, lt_le7, lt_le30, hvt, hwt, b2_t, ei, b2_F hi, k_failed_2, simprocAttr, if_true, if_false, true_and, and_true, false_and, and_false, not_false_eq_true, not_true_eq_false, gd_T, kont_i, kont_v]
        · have hi1 : ¬ isT (erC σ 2 88) p := by rw [show erC σ 2 88 = σ 88 from rep_ne (by omega)]; exact hi
          simp only [c137, s137_0, s137_1, s137_2, s137_3, s137_5, s137_8, s137_9, s137_10, s137_11_o87, s137_14, c136, s136_0, s136_1, s136_4, s136_7, s136_8, s136_11, s136_12, s136_14_o87, s136_17, s136_18, s136_19, s136_20_o87, s136_23, s136_26, s136_27, s136_29, s136_31, s136_32, s136_33, s136_34, s136_35, s136_36, s136_38_o87, s136_41, s136_44, s136_45, s136_47_o87, s136_50, m_isPlace, m_within, hvt, hwt, b2_t, m_is _ _ hp, b2_F hi1, m_fin_2, simprocAttr, if_true, if_false, true_and, and_true, false_and, and_false, not_false_eq_true, not_true_eq_false, gd_T, kont_i, kont_v]
    · have hwf := eq_false hw
      refine Step_err h 1 (v := -1000001) ?_ ?_
      · simp only [c63, s63_0, s63_1, s63_4, s63_7, s63_8, s63_11, s63_14, s63_15, s63_16_o0, s63_19, s63_20, s63_21_o0, s63_24_o1, s63_27, s63_28_o2, s63_31, s63_34, s63_35, s63_36_o0, s63_39, s63_40, s63_41_o0, s63_44_o1, s63_47_o2, s63_50, s63_51_o3, s63_52, s63_53, s63_54_o0, s63_57_o1, s63_60_o2, s63_63, s63_64, s63_65_o3, s63_66, s63_67, k_isPlace, k_isKind, lt_le7, lt_le30, hvt, hwf, b2_t, b2_f, k_failed_1, simprocAttr, if_true, if_false, true_and, and_true, false_and, and_false, not_false_eq_true, not_true_eq_false, gd_T, kont_i, kont_v]
      · simp only [c137, s137_0, s137_1, s137_2, s137_3, s137_5, s137_8, s137_9, s137_10, s137_11_o87, s137_14, c136, s136_0, s136_1, s136_4, s136_7, s136_8, s136_11, s136_12, s136_14_o87, s136_17, s136_18, s136_19, s136_20_o87, s136_23, s136_26, s136_27, s136_29, s136_31, s136_32, s136_33, s136_34, s136_35, s136_36, s136_38_o87, s136_41, s136_44, s136_45, s136_47_o87, s136_50, m_isPlace, m_within, hvt, hwf, b2_t, b2_f, m_fin_1, simprocAttr, if_true, if_false, true_and, and_true, false_and, and_false, not_false_eq_true, not_true_eq_false, gd_T, kont_i, kont_v]
  · have hvf := nplc hv
    refine Step_err h 1 (v := -1000001) ?_ ?_
    · simp only [c63, s63_0, s63_1, s63_4, s63_7, s63_8, s63_11, s63_14, s63_15, s63_16_o0, s63_19, s63_20, s63_21_o0, s63_24_o1, s63_27, s63_28_o2, s63_31, s63_34, s63_35, s63_36_o0, s63_39, s63_40, s63_41_o0, s63_44_o1, s63_47_o2, s63_50, s63_51_o3, s63_52, s63_53, s63_54_o0, s63_57_o1, s63_60_o2, s63_63, s63_64, s63_65_o3, s63_66, s63_67, k_isPlace, lt_le30, hvf, b2_f, k_failed_1, simprocAttr, if_true, if_false, true_and, and_true, false_and, and_false, not_false_eq_true, not_true_eq_false, gd_T, kont_i, kont_v]
    · by_cases hw : 0 ≤ w ∧ w ≤ 6
      · have hwt := eq_true hw
        simp only [c137, s137_0, s137_1, s137_2, s137_3, s137_5, s137_8, s137_9, s137_10, s137_11_o87, s137_14, c136, s136_0, s136_1, s136_4, s136_7, s136_8, s136_11, s136_12, s136_14_o87, s136_17, s136_18, s136_19, s136_20_o87, s136_23, s136_26, s136_27, s136_29, s136_31, s136_32, s136_33, s136_34, s136_35, s136_36, s136_38_o87, s136_41, s136_44, s136_45, s136_47_o87, s136_50, m_isPlace, m_within, hvf, hwt, b2_t, b2_f, m_fin_1, simprocAttr, if_true, if_false, true_and, and_true, false_and, and_false, not_false_eq_true, not_true_eq_false, gd_T, kont_i, kont_v]
      · have hwf := eq_false hw
        simp only [c137, s137_0, s137_1, s137_2, s137_3, s137_5, s137_8, s137_9, s137_10, s137_11_o87, s137_14, c136, s136_0, s136_1, s136_4, s136_7, s136_8, s136_11, s136_12, s136_14_o87, s136_17, s136_18, s136_19, s136_20_o87, s136_23, s136_26, s136_27, s136_29, s136_31, s136_32, s136_33, s136_34, s136_35, s136_36, s136_38_o87, s136_41, s136_44, s136_45, s136_47_o87, s136_50, m_isPlace, m_within, hvf, hwf, b2_f, m_fin_1, simprocAttr, if_true, if_false, true_and, and_true, false_and, and_false, not_false_eq_true, not_true_eq_false, gd_T, kont_i, kont_v]
theorem L_fork {i : Nat} {σ : Hs} (h : RR i σ) (d : Nat) (v w : Int32) : Step d i 65 138 [.int v, .int w] σ := by
  by_cases hv : 0 ≤ v ∧ v ≤ 29
  · have hvt := eq_true hv
    by_cases hw : 0 ≤ w ∧ w ≤ 9
    · have hwt := eq_true hw
      obtain ⟨p, hp, rfl⟩ := plc_n hv
      have p31 : p < 2147483648 := by omega
      have ei := h2_has (d + 98) p hp σ (σ 88) h.hr h.wi.P
      obtain ⟨k, -, lk, ek⟩ := within_n (a := 0) (b := 9) hw rfl rfl (by omega) (by omega)
      by_cases hi : isT (σ 88) p
      · have g1 : σ 6 p = ofT (σ 88) p 4 := h.hr.f hp hi 4 (by omega) (by omega)
        have c1 : callD (d + 100) 65 [.ref 0, .int (nI p), .int w] σ = some (some (.int (ofT (σ 88) p 4)), rep σ 6 (upd (σ 6) p w)) := by
          simp only [c65, s65_0, s65_1, s65_4, s65_7, s65_8, s65_9, s65_11, s65_14, s65_17, s65_18, s65_19_o0, s65_22, s65_23, s65_24_o0, s65_27_o1, s65_30, s65_31_o2, s65_34, s65_37, s65_38, s65_39_o0, s65_42, s65_43, s65_44_o0, s65_47_o1, s65_50_o2, s65_53, s65_54_o6, s65_55, s65_56, s65_57_o0, s65_60_o1, s65_63_o2, s65_66, s65_67, s65_68_o6, s65_69, s65_70, k_isPlace, k_within, lt_le30, hvt, hwt, b2_t, ei, b2_T hi, vp_nI hp, cl_nI p31, g1, up2_rep, simprocAttr, if_true, if_false, true_and, and_true, false_and, and_false, not_false_eq_true, not_true_eq_false, gd_T, kont_i, kont_v]
        have e88 : rep σ 6 (upd (σ 6) p w) 88 = σ 88 := rep_ne (by omega)
        have hi1 : isT (rep σ 6 (upd (σ 6) p w) 88) p := by rw [e88]; exact hi
        have hc := m_comes (d + 97) (14 + 7 * p + 4) (by omega) w (rep σ 6 (upd (σ 6) p w))
        rw [e88] at hc
        have hix : (14 : Int32) + 7 * nI p + 4 = nI (14 + 7 * p + 4) := idxT p 4
        have c2 : callD (d + 100) 138 [.ref 87, .int (nI p), .int w] (rep σ 6 (upd (σ 6) p w)) = some (some (.int (ofT (σ 88) p 4)), rep (rep σ 6 (upd (σ 6) p w)) 88 (teT (σ 88) p 4 w)) := by
          simp only [c138, s138_0, s138_1, s138_2, s138_3, s138_5, s138_8, s138_9, s138_10, s138_11_o87, s138_14, c136, s136_0, s136_1, s136_4, s136_7, s136_8, s136_11, s136_12, s136_14_o87, s136_17, s136_18, s136_19, s136_20_o87, s136_23, s136_26, s136_27, s136_29, s136_31, s136_32, s136_33, s136_34, s136_35, s136_36, s136_38_o87, s136_41, s136_44, s136_45, s136_47_o87, s136_50, m_isPlace, m_within, hvt, hwt, b2_t, m_is _ _ hp, b2_T hi1, hix, hc, simprocAttr, if_true, if_false, true_and, and_true, false_and, and_false, not_false_eq_true, not_true_eq_false, gd_T, kont_i, kont_v]
          rfl
        exact ⟨_, _, _, c1, c2, h.te (f := 4) hp hi (by omega) (by omega) (by omega) (by rw [ek]; exact FR_n (f := 4) (Nat.zero_le _) (show k < 10 by omega)) rfl (h.wb.two c1 c2)⟩
      · refine Step_err h 2 (v := -1000002) ?_ ?_
        · simp only [c65, s65_0, s65_1, s65_4, s65_7, s65_8, s65_9, s65_11, s65_14, s65_17, s65_18, s65_19_o0, s65_22, s65_23, s65_24_o0, s65_27_o1, s65_30, s65_31_o2, s65_34, s65_37, s65_38, s65_39_o0, s65_42, s65_43, s65_44_o0, s65_47_o1, s65_50_o2, s65_53, s65_54_o6, s65_55, s65_56, s65_57_o0, s65_60_o1, s65_63_o2, s65_66, s65_67, s65_68_o6, s65_69, s65_70, k_isPlace, k_within, lt_le30, hvt, hwt, b2_t, ei, b2_F hi, k_failed_2, simprocAttr, if_true, if_false, true_and, and_true, false_and, and_false, not_false_eq_true, not_true_eq_false, gd_T, kont_i, kont_v]
        · have hi1 : ¬ isT (erC σ 2 88) p := by rw [show erC σ 2 88 = σ 88 from rep_ne (by omega)]; exact hi
          simp only [c138, s138_0, s138_1, s138_2, s138_3, s138_5, s138_8, s138_9, s138_10, s138_11_o87, s138_14, c136, s136_0, s136_1, s136_4, s136_7, s136_8, s136_11, s136_12, s136_14_o87, s136_17, s136_18, s136_19, s136_20_o87, s136_23, s136_26, s136_27, s136_29, s136_31, s136_32, s136_33, s136_34, s136_35, s136_36, s136_38_o87, s136_41, s136_44, s136_45, s136_47_o87, s136_50, m_isPlace, m_within, hvt, hwt, b2_t, m_is _ _ hp, b2_F hi1, m_fin_2, simprocAttr, if_true, if_false, true_and, and_true, false_and, and_false, not_false_eq_true, not_true_eq_false, gd_T, kont_i, kont_v]
    · have hwf := eq_false hw
      refine Step_err h 1 (v := -1000001) ?_ ?_
      · simp only [c65, s65_0, s65_1, s65_4, s65_7, s65_8, s65_9, s65_11, s65_14, s65_17, s65_18, s65_19_o0, s65_22, s65_23, s65_24_o0, s65_27_o1, s65_30, s65_31_o2, s65_34, s65_37, s65_38, s65_39_o0, s65_42, s65_43, s65_44_o0, s65_47_o1, s65_50_o2, s65_53, s65_54_o6, s65_55, s65_56, s65_57_o0, s65_60_o1, s65_63_o2, s65_66, s65_67, s65_68_o6, s65_69, s65_70, k_isPlace, k_within, lt_le30, hvt, hwf, b2_t, b2_f, k_failed_1, simprocAttr, if_true, if_false, true_and, and_true, false_and, and_false, not_false_eq_true, not_true_eq_false, gd_T, kont_i, kont_v]
      · simp only [c138, s138_0, s138_1, s138_2, s138_3, s138_5, s138_8, s138_9, s138_10, s138_11_o87, s138_14, c136, s136_0, s136_1, s136_4, s136_7, s136_8, s136_11, s136_12, s136_14_o87, s136_17, s136_18, s136_19, s136_20_o87, s136_23, s136_26, s136_27, s136_29, s136_31, s136_32, s136_33, s136_34, s136_35, s136_36, s136_38_o87, s136_41, s136_44, s136_45, s136_47_o87, s136_50, m_isPlace, m_within, hvt, hwf, b2_t, b2_f, m_fin_1, simprocAttr, if_true, if_false, true_and, and_true, false_and, and_false, not_false_eq_true, not_true_eq_false, gd_T, kont_i, kont_v]
  · have hvf := nplc hv
    refine Step_err h 1 (v := -1000001) ?_ ?_
    · simp only [c65, s65_0, s65_1, s65_4, s65_7, s65_8, s65_9, s65_11, s65_14, s65_17, s65_18, s65_19_o0, s65_22, s65_23, s65_24_o0, s65_27_o1, s65_30, s65_31_o2, s65_34, s65_37, s65_38, s65_39_o0, s65_42, s65_43, s65_44_o0, s65_47_o1, s65_50_o2, s65_53, s65_54_o6, s65_55, s65_56, s65_57_o0, s65_60_o1, s65_63_o2, s65_66, s65_67, s65_68_o6, s65_69, s65_70, k_isPlace, lt_le30, hvf, b2_f, k_failed_1, simprocAttr, if_true, if_false, true_and, and_true, false_and, and_false, not_false_eq_true, not_true_eq_false, gd_T, kont_i, kont_v]
    · by_cases hw : 0 ≤ w ∧ w ≤ 9
      · have hwt := eq_true hw
        simp only [c138, s138_0, s138_1, s138_2, s138_3, s138_5, s138_8, s138_9, s138_10, s138_11_o87, s138_14, c136, s136_0, s136_1, s136_4, s136_7, s136_8, s136_11, s136_12, s136_14_o87, s136_17, s136_18, s136_19, s136_20_o87, s136_23, s136_26, s136_27, s136_29, s136_31, s136_32, s136_33, s136_34, s136_35, s136_36, s136_38_o87, s136_41, s136_44, s136_45, s136_47_o87, s136_50, m_isPlace, m_within, hvf, hwt, b2_t, b2_f, m_fin_1, simprocAttr, if_true, if_false, true_and, and_true, false_and, and_false, not_false_eq_true, not_true_eq_false, gd_T, kont_i, kont_v]
      · have hwf := eq_false hw
        simp only [c138, s138_0, s138_1, s138_2, s138_3, s138_5, s138_8, s138_9, s138_10, s138_11_o87, s138_14, c136, s136_0, s136_1, s136_4, s136_7, s136_8, s136_11, s136_12, s136_14_o87, s136_17, s136_18, s136_19, s136_20_o87, s136_23, s136_26, s136_27, s136_29, s136_31, s136_32, s136_33, s136_34, s136_35, s136_36, s136_38_o87, s136_41, s136_44, s136_45, s136_47_o87, s136_50, m_isPlace, m_within, hvf, hwf, b2_f, m_fin_1, simprocAttr, if_true, if_false, true_and, and_true, false_and, and_false, not_false_eq_true, not_true_eq_false, gd_T, kont_i, kont_v]
theorem poT_n {T : Nat → Int32} (hW : WI T) {p w : Nat} (hp : p < 30) (hi : isT T p) (hw : w < 1000) : ∃ a b : Nat, a < 1000 ∧ b < 10000 ∧ poT T p (nI w) = teT (teT T p 3 (nI a)) p 5 (nI b) ∧ jmin 999 (ofT T p 3 + nI w) = nI a := by
  obtain ⟨t, et, lt⟩ := hW.n hp hi 3 (by omega) (by omega)
  obtain ⟨u, eu, lu⟩ := hW.n hp hi 5 (by omega) (by omega)
  have lt : t < 1000 := lt
  have lu : u < 10000 := lu
  have e1 : jmin 999 (ofT T p 3 + nI w) = nI (min (t + w) 999) := by
    rw [et, nI_add, jmin_c, show (999 : Int32) = nI 999 from rfl, jmin_n (by omega) (by omega)]
  have e2 : jmax 0 (ofT T p 5 - nI w) = nI (u - w) := by
    rw [eu, jmax_c]; exact jmax_0 (by omega) (by omega)
  refine ⟨min (t + w) 999, u - w, by omega, by omega, ?_, e1⟩
  unfold poT
  rw [e1, e2]
theorem WI.po {T : Nat → Int32} (hW : WI T) {p w : Nat} (hp : p < 30) (hi : isT T p) (hw : w < 1000) : WI (poT T p (nI w)) := by
  obtain ⟨a, b, la, lb, e, -⟩ := poT_n hW hp hi hw
  rw [e]
  exact (hW.te (by omega) (by omega) (FR_n (f := 3) (Nat.zero_le _) la)).te (by omega) (by omega) (FR_n (f := 5) (Nat.zero_le _) lb)
theorem poT_f {T : Nat → Int32} {p q f : Nat} {v : Int32} (hf : f < 7) (h3 : f ≠ 3) (h5 : f ≠ 5) : ofT (poT T p v) q f = ofT T q f := by
  unfold poT
  rw [ofT_te (by omega) hf, if_neg (fun c => h5 c.2), ofT_te (by omega) hf, if_neg (fun c => h3 c.2)]
theorem sN_po {T : Nat → Int32} {p : Nat} {v : Int32} : sN (poT T p v) 30 = sN T 30 := sN_eq (fun q _ => stN_of (poT_f (by omega) (by omega) (by omega)) (poT_f (by omega) (by omega) (by omega)))
theorem PlT_po {T : Nat → Int32} {p : Nat} {v : Int32} (hp : p < 30) : PlT T (poT T p v) := (PlT_te hp (by omega)).tr (PlT_te hp (by omega))
theorem L_pour {i : Nat} {σ : Hs} (h : RR i σ) (d : Nat) (v w : Int32) : Step d i 66 142 [.int v, .int w] σ := by
  by_cases hv : 0 ≤ v ∧ v ≤ 29
  · have hvt := eq_true hv
    by_cases hw : 0 ≤ w ∧ w ≤ 999
    · have hwt := eq_true hw
      obtain ⟨p, hp, rfl⟩ := plc_n hv
      have p31 : p < 2147483648 := by omega
      have ei := h2_has (d + 98) p hp σ (σ 88) h.hr h.wi.P
      obtain ⟨k, -, lk, rfl⟩ := within_n (a := 0) (b := 999) hw rfl rfl (by omega) (by omega)
      by_cases hi : isT (σ 88) p
      · obtain ⟨σ1, e1, r1, f1⟩ := h2_pourOn (d + 98) p hp (nI k) σ (σ 88) h.hr hi
        obtain ⟨a, b, la, lb, ep, ea⟩ := poT_n h.wi hp hi (show k < 1000 by omega)
        have f88 : σ1 88 = σ 88 := f1 88 (by omega) (by omega)
        have ip : isT (poT (σ 88) p (nI k)) p := by unfold isT; rw [poT_f (by omega) (by omega) (by omega)]; exact hi
        have e3 : ofT (poT (σ 88) p (nI k)) p 3 = nI a := by rw [ep, ofT_tn (by omega) (by omega) (by omega), ofT_ts (by omega)]
        have g3 : σ1 5 p = nI a := (r1.f hp ip 3 (by omega) (by omega)).trans e3
        have hi1 : isT (σ1 88) p := by rw [f88]; exact hi
        have hm := m_pours (d + 97) p hp (nI k) σ1
        rw [f88] at hm
        have c1 : callD (d + 100) 66 [.ref 0, .int (nI p), .int (nI k)] σ = some (some (.int (nI a)), σ1) := by
          simp only [c66, s66_0, s66_1, s66_4, s66_7, s66_8, s66_9, s66_12, s66_15, s66_18, s66_19, s66_20_o0, s66_23, s66_24, s66_25_o0, s66_28_o1, s66_31, s66_32_o2, s66_35, s66_38, s66_39, s66_40_o0, s66_43, s66_44, s66_45_o0, s66_48_o1, s66_51, s66_52, s66_53_o2, s66_56, s66_57_o0, s66_60_o1, s66_63_o2, s66_66, s66_67_o5, s66_68, k_isPlace, k_within, lt_le30, hvt, hwt, b2_t, ei, b2_T hi, e1, vp_nI hp, cl_nI p31, g3, simprocAttr, if_true, if_false, true_and, and_true, false_and, and_false, not_false_eq_true, not_true_eq_false, gd_T, kont_i, kont_v]
        have c2 : callD (d + 100) 142 [.ref 87, .int (nI p), .int (nI k)] σ1 = some (some (.int (nI a)), rep σ1 88 (poT (σ 88) p (nI k))) := by
          simp only [c142, s142_0, s142_1, s142_4, s142_7, s142_8, s142_9, s142_12, s142_15, s142_18, s142_19, s142_21_o87, s142_24, s142_25, s142_26, s142_27_o87, s142_30, s142_33, s142_34, s142_36_o87, s142_39, s142_40, s142_41, s142_42, s142_43_o87, s142_46, s142_47, s142_48, s142_49_o87, s142_52, m_isPlace, m_within, hvt, hwt, b2_t, m_is _ _ hp, b2_T hi1, hm, m_of_3 _ _ hp, rep_at, e3, simprocAttr, if_true, if_false, true_and, and_true, false_and, and_false, not_false_eq_true, not_true_eq_false, gd_T, kont_i, kont_v]
        refine ⟨_, _, _, c1, c2, h.pl (rep_self _ _ _) ?_ (h.wi.po hp hi (by omega)) (PlT_po hp) ?_ (h.wb.two c1 c2) ?_ ?_ ?_⟩
        · exact r1.fr (fun o o1 o2 => rep_ne (by omega))
        · rw [sN_po]; omega
        · intro o ho
          unfold kpO at ho
          rw [rep_ne (by omega)]
          exact f1 o (by omega) (by omega)
        · rw [rep_ne (by omega), f1 87 (by omega) (by omega)]
        · rw [rep_ne (by omega), f1 87 (by omega) (by omega)]
      · refine Step_err h 2 (v := -1000002) ?_ ?_
        · simp only [c66, s66_0, s66_1, s66_4, s66_7, s66_8, s66_9, s66_12, s66_15, s66_18, s66_19, s66_20_o0, s66_23, s66_24, s66_25_o0, s66_28_o1, s66_31, s66_32_o2, s66_35, s66_38, s66_39, s66_40_o0, s66_43, s66_44, s66_45_o0, s66_48_o1, s66_51, s66_52, s66_53_o2, s66_56, s66_57_o0, s66_60_o1, s66_63_o2, s66_66, s66_67_o5, s66_68, k_isPlace, k_within, lt_le30, hvt, hwt, b2_t, ei, b2_F hi, k_failed_2, simprocAttr, if_true, if_false, true_and, and_true, false_and, and_false, not_false_eq_true, not_true_eq_false, gd_T, kont_i, kont_v]
        · have hi1 : ¬ isT (erC σ 2 88) p := by rw [show erC σ 2 88 = σ 88 from rep_ne (by omega)]; exact hi
          simp only [c142, s142_0, s142_1, s142_4, s142_7, s142_8, s142_9, s142_12, s142_15, s142_18, s142_19, s142_21_o87, s142_24, s142_25, s142_26, s142_27_o87, s142_30, s142_33, s142_34, s142_36_o87, s142_39, s142_40, s142_41, s142_42, s142_43_o87, s142_46, s142_47, s142_48, s142_49_o87, s142_52, m_isPlace, m_within, hvt, hwt, b2_t, m_is _ _ hp, b2_F hi1, m_fin_2, simprocAttr, if_true, if_false, true_and, and_true, false_and, and_false, not_false_eq_true, not_true_eq_false, gd_T, kont_i, kont_v]
    · have hwf := eq_false hw
      refine Step_err h 1 (v := -1000001) ?_ ?_
      · simp only [c66, s66_0, s66_1, s66_4, s66_7, s66_8, s66_9, s66_12, s66_15, s66_18, s66_19, s66_20_o0, s66_23, s66_24, s66_25_o0, s66_28_o1, s66_31, s66_32_o2, s66_35, s66_38, s66_39, s66_40_o0, s66_43, s66_44, s66_45_o0, s66_48_o1, s66_51, s66_52, s66_53_o2, s66_56, s66_57_o0, s66_60_o1, s66_63_o2, s66_66, s66_67_o5, s66_68, k_isPlace, k_within, lt_le30, hvt, hwf, b2_t, b2_f, k_failed_1, simprocAttr, if_true, if_false, true_and, and_true, false_and, and_false, not_false_eq_true, not_true_eq_false, gd_T, kont_i, kont_v]
      · simp only [c142, s142_0, s142_1, s142_4, s142_7, s142_8, s142_9, s142_12, s142_15, s142_18, s142_19, s142_21_o87, s142_24, s142_25, s142_26, s142_27_o87, s142_30, s142_33, s142_34, s142_36_o87, s142_39, s142_40, s142_41, s142_42, s142_43_o87, s142_46, s142_47, s142_48, s142_49_o87, s142_52, m_isPlace, m_within, hvt, hwf, b2_t, b2_f, m_fin_1, simprocAttr, if_true, if_false, true_and, and_true, false_and, and_false, not_false_eq_true, not_true_eq_false, gd_T, kont_i, kont_v]
  · have hvf := nplc hv
    refine Step_err h 1 (v := -1000001) ?_ ?_
    · simp only [c66, s66_0, s66_1, s66_4, s66_7, s66_8, s66_9, s66_12, s66_15, s66_18, s66_19, s66_20_o0, s66_23, s66_24, s66_25_o0, s66_28_o1, s66_31, s66_32_o2, s66_35, s66_38, s66_39, s66_40_o0, s66_43, s66_44, s66_45_o0, s66_48_o1, s66_51, s66_52, s66_53_o2, s66_56, s66_57_o0, s66_60_o1, s66_63_o2, s66_66, s66_67_o5, s66_68, k_isPlace, k_within, lt_le30, hvf, b2_f, k_failed_1, simprocAttr, if_true, if_false, true_and, and_true, false_and, and_false, not_false_eq_true, not_true_eq_false, gd_T, kont_i, kont_v]
    · simp only [c142, s142_0, s142_1, s142_4, s142_7, s142_8, s142_9, s142_12, s142_15, s142_18, s142_19, s142_21_o87, s142_24, s142_25, s142_26, s142_27_o87, s142_30, s142_33, s142_34, s142_36_o87, s142_39, s142_40, s142_41, s142_42, s142_43_o87, s142_46, s142_47, s142_48, s142_49_o87, s142_52, m_isPlace, m_within, hvf, b2_f, m_fin_1, simprocAttr, if_true, if_false, true_and, and_true, false_and, and_false, not_false_eq_true, not_true_eq_false, gd_T, kont_i, kont_v]
