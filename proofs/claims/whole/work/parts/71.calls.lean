/-! ===== the calls: as, become, fork, pour ===== -/
theorem knd_n {v : Int32} (h : 0 ≤ v ∧ v ≤ 6) : ∃ k : Nat, k < 7 ∧ v = nI k := by
  obtain ⟨p, -, a, e⟩ := within_n (a := 0) (b := 6) h rfl rfl (by omega) (by omega)
  exact ⟨p, by omega, e⟩
theorem L_as {i : Nat} {σ : Hs} (h : RR i σ) (d : Nat) (v w : Int32) : Step d i 61 134 [.int v, .int w] σ := by
  by_cases hv : 0 ≤ v ∧ v ≤ 29
  · have hvt := eq_true hv
    by_cases hw : 0 ≤ w ∧ w ≤ 6
    · have hwt := eq_true hw
      obtain ⟨p, hp, rfl⟩ := plc_n hv
      have p31 : p < 2147483648 := by omega
      have ei := h2_has (d + 98) p hp σ (σ 88) h.hr h.wi.P
      by_cases hi : isT (σ 88) p
      · obtain ⟨k, ek, lk⟩ := h.wi.n hp hi 1 (by omega) (by omega)
        have lk : k < 7 := lk
        have g1 : σ 3 p = nI k := (h.hr.f hp hi 1 (by omega) (by omega)).trans ek
        have g2 : σ 4 p = ofT (σ 88) p 2 := h.hr.f hp hi 2 (by omega) (by omega)
        by_cases m : w ∈ ancL k
        · have c1 : callD (d + 100) 61 [.ref 0, .int (nI p), .int w] σ = some (some (.int (ofT (σ 88) p 2)), σ) := by
            simp only [c61, s61_0, s61_1, s61_4, s61_7, s61_8, s61_11, s61_14, s61_15, s61_16_o0, s61_19, s61_20, s61_21_o0, s61_24_o1, s61_27, s61_28_o2, s61_31, s61_34, s61_35, s61_36_o0, s61_39, s61_40, s61_41_o0, s61_44_o1, s61_47_o2, s61_50, s61_51_o3, s61_52, s61_53, s61_56, s61_59, s61_60, s61_61_o0, s61_64, s61_65, s61_66_o0, s61_69_o1, s61_72_o2, s61_75, s61_76_o4, s61_77, k_isPlace, k_isKind, lt_le30, lt_le7, hvt, hwt, b2_t, ei, b2_T hi, vp_nI hp, cl_nI p31, g1, g2, k_isOfKind _ k lk, b2_T m, simprocAttr, if_true, if_false, true_and, and_true, false_and, and_false, not_false_eq_true, not_true_eq_false, gd_T, kont_i, kont_v]
          have c2 : callD (d + 100) 134 [.ref 87, .int (nI p), .int w] σ = some (some (.int (ofT (σ 88) p 2)), σ) := by
            have hc := anc_m lk (d + 96) w p σ
            rw [clL_in m] at hc
            have w0 : (0 ≤ w) = True := eq_true hw.1
            have w1 : (w < 0) = False := eq_false (Int32.not_lt.mpr hw.1)
            simp only [c134, s134_0, s134_1, s134_4, s134_7, s134_8, s134_9, s134_11, s134_14, s134_17, s134_18, s134_20_o87, s134_23, s134_24, s134_25, s134_26_o87, s134_29, s134_32, s134_33, s134_35_o87, s134_38, s134_39, s134_40, s134_41, s134_42_o87, s134_45, m_isPlace, m_within, hvt, hwt, b2_t, m_is _ _ hp, b2_T hi, m_of_1 _ _ hp, ek, hc, simprocAttr, if_true, if_false, true_and, and_true, false_and, and_false, not_false_eq_true, not_true_eq_false, gd_T, kont_i, kont_v]
            simp only [s134_63, s134_64, s134_67, s134_68, s134_70_o87, s134_73, s134_76, s134_77, s134_78, s134_79_o87, s134_82, m_of_2 _ _ hp, w0, w1, simprocAttr, if_true, if_false, true_and, and_true, false_and, and_false, not_false_eq_true, not_true_eq_false, gd_T, kont_i, kont_v]
          exact ⟨_, _, _, c1, c2, h.same⟩
        · refine Step_err h 5 (v := -1000005) ?_ ?_
          · simp only [c61, s61_0, s61_1, s61_4, s61_7, s61_8, s61_11, s61_14, s61_15, s61_16_o0, s61_19, s61_20, s61_21_o0, s61_24_o1, s61_27, s61_28_o2, s61_31, s61_34, s61_35, s61_36_o0, s61_39, s61_40, s61_41_o0, s61_44_o1, s61_47_o2, s61_50, s61_51_o3, s61_52, s61_53, s61_56, s61_59, s61_60, s61_61_o0, s61_64, s61_65, s61_66_o0, s61_69_o1, s61_72_o2, s61_75, s61_76_o4, s61_77, k_isPlace, k_isKind, lt_le30, lt_le7, hvt, hwt, b2_t, ei, b2_T hi, vp_nI hp, cl_nI p31, g1, g2, k_isOfKind _ k lk, b2_F m, k_failed_5, simprocAttr, if_true, if_false, true_and, and_true, false_and, and_false, not_false_eq_true, not_true_eq_false, gd_T, kont_i, kont_v]
          · have e88 : erC σ 5 88 = σ 88 := rep_ne (by omega)
            have hc := anc_m lk (d + 96) w p (erC σ 5)
            rw [clL_no m] at hc
            simp only [c134, s134_0, s134_1, s134_4, s134_7, s134_8, s134_9, s134_11, s134_14, s134_17, s134_18, s134_20_o87, s134_23, s134_24, s134_25, s134_26_o87, s134_29, s134_32, s134_33, s134_35_o87, s134_38, s134_39, s134_40, s134_41, s134_42_o87, s134_45, m_isPlace, m_within, hvt, hwt, b2_t, m_is _ _ hp, e88, b2_T hi, m_of_1 _ _ hp, ek, hc, simprocAttr, if_true, if_false, true_and, and_true, false_and, and_false, not_false_eq_true, not_true_eq_false, gd_T, kont_i, kont_v]
            simp only [s134_63, s134_64, s134_67, s134_68, s134_70_o87, s134_73, s134_76, s134_77, s134_78, s134_79_o87, s134_82, m_fin_5, simprocAttr, if_true, if_false, true_and, and_true, false_and, and_false, not_false_eq_true, not_true_eq_false, gd_T, kont_i, kont_v]
      · refine Step_err h 2 (v := -1000002) ?_ ?_
        · simp only [c61, s61_0, s61_1, s61_4, s61_7, s61_8, s61_11, s61_14, s61_15, s61_16_o0, s61_19, s61_20, s61_21_o0, s61_24_o1, s61_27, s61_28_o2, s61_31, s61_34, s61_35, s61_36_o0, s61_39, s61_40, s61_41_o0, s61_44_o1, s61_47_o2, s61_50, s61_51_o3, s61_52, s61_53, s61_56, s61_59, s61_60, s61_61_o0, s61_64, s61_65, s61_66_o0, s61_69_o1, s61_72_o2, s61_75, s61_76_o4, s61_77, k_isPlace, k_isKind, lt_le30, lt_le7, hvt, hwt, b2_t, ei, b2_F hi, k_failed_2, simprocAttr, if_true, if_false, true_and, and_true, false_and, and_false, not_false_eq_true, not_true_eq_false, gd_T, kont_i, kont_v]
        · have hi1 : ¬ isT (erC σ 2 88) p := by rw [show erC σ 2 88 = σ 88 from rep_ne (by omega)]; exact hi
          simp only [c134, s134_0, s134_1, s134_4, s134_7, s134_8, s134_9, s134_11, s134_14, s134_17, s134_18, s134_20_o87, s134_23, s134_24, s134_25, s134_26_o87, s134_29, s134_32, s134_33, s134_35_o87, s134_38, s134_39, s134_40, s134_41, s134_42_o87, s134_45, m_isPlace, m_within, hvt, hwt, b2_t, m_is _ _ hp, b2_F hi1, m_fin_2, simprocAttr, if_true, if_false, true_and, and_true, false_and, and_false, not_false_eq_true, not_true_eq_false, gd_T, kont_i, kont_v]
    · have hwf := eq_false hw
      refine Step_err h 1 (v := -1000001) ?_ ?_
      · simp only [c61, s61_0, s61_1, s61_4, s61_7, s61_8, s61_11, s61_14, s61_15, s61_16_o0, s61_19, s61_20, s61_21_o0, s61_24_o1, s61_27, s61_28_o2, s61_31, s61_34, s61_35, s61_36_o0, s61_39, s61_40, s61_41_o0, s61_44_o1, s61_47_o2, s61_50, s61_51_o3, s61_52, s61_53, s61_56, s61_59, s61_60, s61_61_o0, s61_64, s61_65, s61_66_o0, s61_69_o1, s61_72_o2, s61_75, s61_76_o4, s61_77, k_isPlace, k_isKind, lt_le30, lt_le7, hvt, hwf, b2_t, b2_f, k_failed_1, simprocAttr, if_true, if_false, true_and, and_true, false_and, and_false, not_false_eq_true, not_true_eq_false, gd_T, kont_i, kont_v]
      · simp only [c134, s134_0, s134_1, s134_4, s134_7, s134_8, s134_9, s134_11, s134_14, s134_17, s134_18, s134_20_o87, s134_23, s134_24, s134_25, s134_26_o87, s134_29, s134_32, s134_33, s134_35_o87, s134_38, s134_39, s134_40, s134_41, s134_42_o87, s134_45, m_isPlace, m_within, hvt, hwf, b2_t, b2_f, m_fin_1, simprocAttr, if_true, if_false, true_and, and_true, false_and, and_false, not_false_eq_true, not_true_eq_false, gd_T, kont_i, kont_v]
  · have hvf := nplc hv
    refine Step_err h 1 (v := -1000001) ?_ ?_
    · simp only [c61, s61_0, s61_1, s61_4, s61_7, s61_8, s61_11, s61_14, s61_15, s61_16_o0, s61_19, s61_20, s61_21_o0, s61_24_o1, s61_27, s61_28_o2, s61_31, s61_34, s61_35, s61_36_o0, s61_39, s61_40, s61_41_o0, s61_44_o1, s61_47_o2, s61_50, s61_51_o3, s61_52, s61_53, s61_56, s61_59, s61_60, s61_61_o0, s61_64, s61_65, s61_66_o0, s61_69_o1, s61_72_o2, s61_75, s61_76_o4, s61_77, k_isPlace, lt_le30, hvf, b2_f, k_failed_1, simprocAttr, if_true, if_false, true_and, and_true, false_and, and_false, not_false_eq_true, not_true_eq_false, gd_T, kont_i, kont_v]
    · simp only [c134, s134_0, s134_1, s134_4, s134_7, s134_8, s134_9, s134_11, s134_14, s134_17, s134_18, s134_20_o87, s134_23, s134_24, s134_25, s134_26_o87, s134_29, s134_32, s134_33, s134_35_o87, s134_38, s134_39, s134_40, s134_41, s134_42_o87, s134_45, m_isPlace, hvf, b2_f, m_fin_1, simprocAttr, if_true, if_false, true_and, and_true, false_and, and_false, not_false_eq_true, not_true_eq_false, gd_T, kont_i, kont_v]
/-- one number of an armful changes -/
theorem RR.te {i : Nat} {σ σ2 : Hs} (h : RR i σ) {p f : Nat} {v : Int32} (hp : p < 30) (hi : isT (σ 88) p) (h1 : 1 ≤ f) (h6 : f ≤ 6) (n2 : f ≠ 2) (hv : FR f v) (e : σ2 = rep (rep σ (2 + f) (upd (σ (2 + f)) p v)) 88 (teT (σ 88) p f v)) (hW : WB σ2) : RR (i + 1) σ2 := by
  subst e
  refine h.pl (rep_self _ _ _) ?_ (h.wi.te h1 h6 hv) (PlT_te hp (by omega)) ?_ hW ?_ ?_ ?_
  · exact (h.hr.te hp hi f h1 h6 v).fr (fun o o1 o2 => rep_ne (by omega))
  · rw [sN_te (by omega) (by omega) n2]; omega
  · intro o ho
    unfold kpO at ho
    rw [rep_ne (by omega), rep_ne (by omega)]
  · rw [rep_ne (by omega), rep_ne (by omega)]
  · rw [rep_ne (by omega), rep_ne (by omega)]
theorem L_become {i : Nat} {σ : Hs} (h : RR i σ) (d : Nat) (v w : Int32) : Step d i 62 136 [.int v, .int w] σ := by
  by_cases hv : 0 ≤ v ∧ v ≤ 29
  · have hvt := eq_true hv
    by_cases hw : 0 ≤ w ∧ w ≤ 6
    · have hwt := eq_true hw
      obtain ⟨p, hp, rfl⟩ := plc_n hv
      have p31 : p < 2147483648 := by omega
      have ei := h2_has (d + 98) p hp σ (σ 88) h.hr h.wi.P
      obtain ⟨k, -, lk, ek⟩ := within_n (a := 0) (b := 6) hw rfl rfl (by omega) (by omega)
      by_cases hi : isT (σ 88) p
      · have g1 : σ 3 p = ofT (σ 88) p 1 := h.hr.f hp hi 1 (by omega) (by omega)
        have c1 : callD (d + 100) 62 [.ref 0, .int (nI p), .int w] σ = some (some (.int (ofT (σ 88) p 1)), rep σ 3 (upd (σ 3) p w)) := by
          simp only [c62, s62_0, s62_1, s62_4, s62_7, s62_8, s62_11, s62_14, s62_15, s62_16_o0, s62_19, s62_20, s62_21_o0, s62_24_o1, s62_27, s62_28_o2, s62_31, s62_34, s62_35, s62_36_o0, s62_39, s62_40, s62_41_o0, s62_44_o1, s62_47_o2, s62_50, s62_51_o3, s62_52, s62_53, s62_54_o0, s62_57_o1, s62_60_o2, s62_63, s62_64, s62_65_o3, s62_66, s62_67, k_isPlace, k_isKind, lt_le7, lt_le30, hvt, hwt, b2_t, ei, b2_T hi, vp_nI hp, cl_nI p31, g1, up2_rep, simprocAttr, if_true, if_false, true_and, and_true, false_and, and_false, not_false_eq_true, not_true_eq_false, gd_T, kont_i, kont_v]
        have e88 : rep σ 3 (upd (σ 3) p w) 88 = σ 88 := rep_ne (by omega)
        have hi1 : isT (rep σ 3 (upd (σ 3) p w) 88) p := by rw [e88]; exact hi
        have hc := m_comes (d + 97) (14 + 7 * p + 1) (by omega) w (rep σ 3 (upd (σ 3) p w))
        rw [e88] at hc
        have hix : (14 : Int32) + 7 * nI p + 1 = nI (14 + 7 * p + 1) := idxT p 1
        have c2 : callD (d + 100) 136 [.ref 87, .int (nI p), .int w] (rep σ 3 (upd (σ 3) p w)) = some (some (.int (ofT (σ 88) p 1)), rep (rep σ 3 (upd (σ 3) p w)) 88 (teT (σ 88) p 1 w)) := by
          simp only [c136, s136_0, s136_1, s136_2, s136_3, s136_5, s136_8, s136_9, s136_10, s136_11_o87, s136_14, c135, s135_0, s135_1, s135_4, s135_7, s135_8, s135_11, s135_12, s135_14_o87, s135_17, s135_18, s135_19, s135_20_o87, s135_23, s135_26, s135_27, s135_29, s135_31, s135_32, s135_33, s135_34, s135_35, s135_36, s135_38_o87, s135_41, s135_44, s135_45, s135_47_o87, s135_50, m_isPlace, m_within, hvt, hwt, b2_t, m_is _ _ hp, b2_T hi1, hix, hc, simprocAttr, if_true, if_false, true_and, and_true, false_and, and_false, not_false_eq_true, not_true_eq_false, gd_T, kont_i, kont_v]
          rfl
        exact ⟨_, _, _, c1, c2, h.te (f := 1) hp hi (by omega) (by omega) (by omega) (by rw [ek]; exact FR_n (f := 1) (Nat.zero_le _) (show k < 7 by omega)) rfl (h.wb.two c1 c2)⟩
      · refine Step_err h 2 (v := -1000002) ?_ ?_
        · simp only [c62, s62_0, s62_1, s62_4, s62_7, s62_8, s62_11, s62_14, s62_15, s62_16_o0, s62_19, s62_20, s62_21_o0, s62_24_o1, s62_27, s62_28_o2, s62_31, s62_34, s62_35, s62_36_o0, s62_39, s62_40, s62_41_o0, s62_44_o1, s62_47_o2, s62_50, s62_51_o3, s62_52, s62_53, s62_54_o0, s62_57_o1, s62_60_o2, s62_63, s62_64, s62_65_o3, s62_66, s62_67, k_isPlace, k_isKind, lt_le7, lt_le30, hvt, hwt, b2_t, ei, b2_F hi, k_failed_2, simprocAttr, if_true, if_false, true_and, and_true, false_and, and_false, not_false_eq_true, not_true_eq_false, gd_T, kont_i, kont_v]
        · have hi1 : ¬ isT (erC σ 2 88) p := by rw [show erC σ 2 88 = σ 88 from rep_ne (by omega)]; exact hi
          simp only [c136, s136_0, s136_1, s136_2, s136_3, s136_5, s136_8, s136_9, s136_10, s136_11_o87, s136_14, c135, s135_0, s135_1, s135_4, s135_7, s135_8, s135_11, s135_12, s135_14_o87, s135_17, s135_18, s135_19, s135_20_o87, s135_23, s135_26, s135_27, s135_29, s135_31, s135_32, s135_33, s135_34, s135_35, s135_36, s135_38_o87, s135_41, s135_44, s135_45, s135_47_o87, s135_50, m_isPlace, m_within, hvt, hwt, b2_t, m_is _ _ hp, b2_F hi1, m_fin_2, simprocAttr, if_true, if_false, true_and, and_true, false_and, and_false, not_false_eq_true, not_true_eq_false, gd_T, kont_i, kont_v]
    · have hwf := eq_false hw
      refine Step_err h 1 (v := -1000001) ?_ ?_
      · simp only [c62, s62_0, s62_1, s62_4, s62_7, s62_8, s62_11, s62_14, s62_15, s62_16_o0, s62_19, s62_20, s62_21_o0, s62_24_o1, s62_27, s62_28_o2, s62_31, s62_34, s62_35, s62_36_o0, s62_39, s62_40, s62_41_o0, s62_44_o1, s62_47_o2, s62_50, s62_51_o3, s62_52, s62_53, s62_54_o0, s62_57_o1, s62_60_o2, s62_63, s62_64, s62_65_o3, s62_66, s62_67, k_isPlace, k_isKind, lt_le7, lt_le30, hvt, hwf, b2_t, b2_f, k_failed_1, simprocAttr, if_true, if_false, true_and, and_true, false_and, and_false, not_false_eq_true, not_true_eq_false, gd_T, kont_i, kont_v]
      · simp only [c136, s136_0, s136_1, s136_2, s136_3, s136_5, s136_8, s136_9, s136_10, s136_11_o87, s136_14, c135, s135_0, s135_1, s135_4, s135_7, s135_8, s135_11, s135_12, s135_14_o87, s135_17, s135_18, s135_19, s135_20_o87, s135_23, s135_26, s135_27, s135_29, s135_31, s135_32, s135_33, s135_34, s135_35, s135_36, s135_38_o87, s135_41, s135_44, s135_45, s135_47_o87, s135_50, m_isPlace, m_within, hvt, hwf, b2_t, b2_f, m_fin_1, simprocAttr, if_true, if_false, true_and, and_true, false_and, and_false, not_false_eq_true, not_true_eq_false, gd_T, kont_i, kont_v]
  · have hvf := nplc hv
    refine Step_err h 1 (v := -1000001) ?_ ?_
    · simp only [c62, s62_0, s62_1, s62_4, s62_7, s62_8, s62_11, s62_14, s62_15, s62_16_o0, s62_19, s62_20, s62_21_o0, s62_24_o1, s62_27, s62_28_o2, s62_31, s62_34, s62_35, s62_36_o0, s62_39, s62_40, s62_41_o0, s62_44_o1, s62_47_o2, s62_50, s62_51_o3, s62_52, s62_53, s62_54_o0, s62_57_o1, s62_60_o2, s62_63, s62_64, s62_65_o3, s62_66, s62_67, k_isPlace, lt_le30, hvf, b2_f, k_failed_1, simprocAttr, if_true, if_false, true_and, and_true, false_and, and_false, not_false_eq_true, not_true_eq_false, gd_T, kont_i, kont_v]
    · by_cases hw : 0 ≤ w ∧ w ≤ 6
      · have hwt := eq_true hw
        simp only [c136, s136_0, s136_1, s136_2, s136_3, s136_5, s136_8, s136_9, s136_10, s136_11_o87, s136_14, c135, s135_0, s135_1, s135_4, s135_7, s135_8, s135_11, s135_12, s135_14_o87, s135_17, s135_18, s135_19, s135_20_o87, s135_23, s135_26, s135_27, s135_29, s135_31, s135_32, s135_33, s135_34, s135_35, s135_36, s135_38_o87, s135_41, s135_44, s135_45, s135_47_o87, s135_50, m_isPlace, m_within, hvf, hwt, b2_t, b2_f, m_fin_1, simprocAttr, if_true, if_false, true_and, and_true, false_and, and_false, not_false_eq_true, not_true_eq_false, gd_T, kont_i, kont_v]
      · have hwf := eq_false hw
        simp only [c136, s136_0, s136_1, s136_2, s136_3, s136_5, s136_8, s136_9, s136_10, s136_11_o87, s136_14, c135, s135_0, s135_1, s135_4, s135_7, s135_8, s135_11, s135_12, s135_14_o87, s135_17, s135_18, s135_19, s135_20_o87, s135_23, s135_26, s135_27, s135_29, s135_31, s135_32, s135_33, s135_34, s135_35, s135_36, s135_38_o87, s135_41, s135_44, s135_45, s135_47_o87, s135_50, m_isPlace, m_within, hvf, hwf, b2_f, m_fin_1, simprocAttr, if_true, if_false, true_and, and_true, false_and, and_false, not_false_eq_true, not_true_eq_false, gd_T, kont_i, kont_v]
theorem L_fork {i : Nat} {σ : Hs} (h : RR i σ) (d : Nat) (v w : Int32) : Step d i 64 137 [.int v, .int w] σ := by
  by_cases hv : 0 ≤ v ∧ v ≤ 29
  · have hvt := eq_true hv
    by_cases hw : 0 ≤ w ∧ w ≤ 9
    · have hwt := eq_true hw
      obtain ⟨p, hp, rfl⟩ := plc_n hv
      have p31 : p < 2147483648 := by omega
      have ei := h2_has (d + 98) p hp σ (σ 88) h.hr h.wi.P
      obtain ⟨k, -, lk, ek⟩ := within_n (a := 0) (b := 9) hw rfl rfl (by omega) (by omega)
      by_cases hi : isT (σ 88) p
      · have g1 : σ 6 p = ofT (σ 88) p 4 := h.hr.f hp hi 4 (by omega) (by omega)
        have c1 : callD (d + 100) 64 [.ref 0, .int (nI p), .int w] σ = some (some (.int (ofT (σ 88) p 4)), rep σ 6 (upd (σ 6) p w)) := by
          simp only [c64, s64_0, s64_1, s64_4, s64_7, s64_8, s64_9, s64_11, s64_14, s64_17, s64_18, s64_19_o0, s64_22, s64_23, s64_24_o0, s64_27_o1, s64_30, s64_31_o2, s64_34, s64_37, s64_38, s64_39_o0, s64_42, s64_43, s64_44_o0, s64_47_o1, s64_50_o2, s64_53, s64_54_o6, s64_55, s64_56, s64_57_o0, s64_60_o1, s64_63_o2, s64_66, s64_67, s64_68_o6, s64_69, s64_70, k_isPlace, k_within, lt_le30, hvt, hwt, b2_t, ei, b2_T hi, vp_nI hp, cl_nI p31, g1, up2_rep, simprocAttr, if_true, if_false, true_and, and_true, false_and, and_false, not_false_eq_true, not_true_eq_false, gd_T, kont_i, kont_v]
        have e88 : rep σ 6 (upd (σ 6) p w) 88 = σ 88 := rep_ne (by omega)
        have hi1 : isT (rep σ 6 (upd (σ 6) p w) 88) p := by rw [e88]; exact hi
        have hc := m_comes (d + 97) (14 + 7 * p + 4) (by omega) w (rep σ 6 (upd (σ 6) p w))
        rw [e88] at hc
        have hix : (14 : Int32) + 7 * nI p + 4 = nI (14 + 7 * p + 4) := idxT p 4
        have c2 : callD (d + 100) 137 [.ref 87, .int (nI p), .int w] (rep σ 6 (upd (σ 6) p w)) = some (some (.int (ofT (σ 88) p 4)), rep (rep σ 6 (upd (σ 6) p w)) 88 (teT (σ 88) p 4 w)) := by
          simp only [c137, s137_0, s137_1, s137_2, s137_3, s137_5, s137_8, s137_9, s137_10, s137_11_o87, s137_14, c135, s135_0, s135_1, s135_4, s135_7, s135_8, s135_11, s135_12, s135_14_o87, s135_17, s135_18, s135_19, s135_20_o87, s135_23, s135_26, s135_27, s135_29, s135_31, s135_32, s135_33, s135_34, s135_35, s135_36, s135_38_o87, s135_41, s135_44, s135_45, s135_47_o87, s135_50, m_isPlace, m_within, hvt, hwt, b2_t, m_is _ _ hp, b2_T hi1, hix, hc, simprocAttr, if_true, if_false, true_and, and_true, false_and, and_false, not_false_eq_true, not_true_eq_false, gd_T, kont_i, kont_v]
          rfl
        exact ⟨_, _, _, c1, c2, h.te (f := 4) hp hi (by omega) (by omega) (by omega) (by rw [ek]; exact FR_n (f := 4) (Nat.zero_le _) (show k < 10 by omega)) rfl (h.wb.two c1 c2)⟩
      · refine Step_err h 2 (v := -1000002) ?_ ?_
        · simp only [c64, s64_0, s64_1, s64_4, s64_7, s64_8, s64_9, s64_11, s64_14, s64_17, s64_18, s64_19_o0, s64_22, s64_23, s64_24_o0, s64_27_o1, s64_30, s64_31_o2, s64_34, s64_37, s64_38, s64_39_o0, s64_42, s64_43, s64_44_o0, s64_47_o1, s64_50_o2, s64_53, s64_54_o6, s64_55, s64_56, s64_57_o0, s64_60_o1, s64_63_o2, s64_66, s64_67, s64_68_o6, s64_69, s64_70, k_isPlace, k_within, lt_le30, hvt, hwt, b2_t, ei, b2_F hi, k_failed_2, simprocAttr, if_true, if_false, true_and, and_true, false_and, and_false, not_false_eq_true, not_true_eq_false, gd_T, kont_i, kont_v]
        · have hi1 : ¬ isT (erC σ 2 88) p := by rw [show erC σ 2 88 = σ 88 from rep_ne (by omega)]; exact hi
          simp only [c137, s137_0, s137_1, s137_2, s137_3, s137_5, s137_8, s137_9, s137_10, s137_11_o87, s137_14, c135, s135_0, s135_1, s135_4, s135_7, s135_8, s135_11, s135_12, s135_14_o87, s135_17, s135_18, s135_19, s135_20_o87, s135_23, s135_26, s135_27, s135_29, s135_31, s135_32, s135_33, s135_34, s135_35, s135_36, s135_38_o87, s135_41, s135_44, s135_45, s135_47_o87, s135_50, m_isPlace, m_within, hvt, hwt, b2_t, m_is _ _ hp, b2_F hi1, m_fin_2, simprocAttr, if_true, if_false, true_and, and_true, false_and, and_false, not_false_eq_true, not_true_eq_false, gd_T, kont_i, kont_v]
    · have hwf := eq_false hw
      refine Step_err h 1 (v := -1000001) ?_ ?_
      · simp only [c64, s64_0, s64_1, s64_4, s64_7, s64_8, s64_9, s64_11, s64_14, s64_17, s64_18, s64_19_o0, s64_22, s64_23, s64_24_o0, s64_27_o1, s64_30, s64_31_o2, s64_34, s64_37, s64_38, s64_39_o0, s64_42, s64_43, s64_44_o0, s64_47_o1, s64_50_o2, s64_53, s64_54_o6, s64_55, s64_56, s64_57_o0, s64_60_o1, s64_63_o2, s64_66, s64_67, s64_68_o6, s64_69, s64_70, k_isPlace, k_within, lt_le30, hvt, hwf, b2_t, b2_f, k_failed_1, simprocAttr, if_true, if_false, true_and, and_true, false_and, and_false, not_false_eq_true, not_true_eq_false, gd_T, kont_i, kont_v]
      · simp only [c137, s137_0, s137_1, s137_2, s137_3, s137_5, s137_8, s137_9, s137_10, s137_11_o87, s137_14, c135, s135_0, s135_1, s135_4, s135_7, s135_8, s135_11, s135_12, s135_14_o87, s135_17, s135_18, s135_19, s135_20_o87, s135_23, s135_26, s135_27, s135_29, s135_31, s135_32, s135_33, s135_34, s135_35, s135_36, s135_38_o87, s135_41, s135_44, s135_45, s135_47_o87, s135_50, m_isPlace, m_within, hvt, hwf, b2_t, b2_f, m_fin_1, simprocAttr, if_true, if_false, true_and, and_true, false_and, and_false, not_false_eq_true, not_true_eq_false, gd_T, kont_i, kont_v]
  · have hvf := nplc hv
    refine Step_err h 1 (v := -1000001) ?_ ?_
    · simp only [c64, s64_0, s64_1, s64_4, s64_7, s64_8, s64_9, s64_11, s64_14, s64_17, s64_18, s64_19_o0, s64_22, s64_23, s64_24_o0, s64_27_o1, s64_30, s64_31_o2, s64_34, s64_37, s64_38, s64_39_o0, s64_42, s64_43, s64_44_o0, s64_47_o1, s64_50_o2, s64_53, s64_54_o6, s64_55, s64_56, s64_57_o0, s64_60_o1, s64_63_o2, s64_66, s64_67, s64_68_o6, s64_69, s64_70, k_isPlace, lt_le30, hvf, b2_f, k_failed_1, simprocAttr, if_true, if_false, true_and, and_true, false_and, and_false, not_false_eq_true, not_true_eq_false, gd_T, kont_i, kont_v]
    · by_cases hw : 0 ≤ w ∧ w ≤ 9
      · have hwt := eq_true hw
        simp only [c137, s137_0, s137_1, s137_2, s137_3, s137_5, s137_8, s137_9, s137_10, s137_11_o87, s137_14, c135, s135_0, s135_1, s135_4, s135_7, s135_8, s135_11, s135_12, s135_14_o87, s135_17, s135_18, s135_19, s135_20_o87, s135_23, s135_26, s135_27, s135_29, s135_31, s135_32, s135_33, s135_34, s135_35, s135_36, s135_38_o87, s135_41, s135_44, s135_45, s135_47_o87, s135_50, m_isPlace, m_within, hvf, hwt, b2_t, b2_f, m_fin_1, simprocAttr, if_true, if_false, true_and, and_true, false_and, and_false, not_false_eq_true, not_true_eq_false, gd_T, kont_i, kont_v]
      · have hwf := eq_false hw
        simp only [c137, s137_0, s137_1, s137_2, s137_3, s137_5, s137_8, s137_9, s137_10, s137_11_o87, s137_14, c135, s135_0, s135_1, s135_4, s135_7, s135_8, s135_11, s135_12, s135_14_o87, s135_17, s135_18, s135_19, s135_20_o87, s135_23, s135_26, s135_27, s135_29, s135_31, s135_32, s135_33, s135_34, s135_35, s135_36, s135_38_o87, s135_41, s135_44, s135_45, s135_47_o87, s135_50, m_isPlace, m_within, hvf, hwf, b2_f, m_fin_1, simprocAttr, if_true, if_false, true_and, and_true, false_and, and_false, not_false_eq_true, not_true_eq_false, gd_T, kont_i, kont_v]
theorem poT_n {T : Nat → Int32} (hW : WI T) {p w : Nat} (hp : p < 30) (hi : isT T p) (hw : w < 1000) : ∃ a b : Nat, a < 1000 ∧ b < 10000 ∧ poT T p (nI w) = teT (teT T p 3 (nI a)) p 5 (nI b) ∧ jmin 999 (ofT T p 3 + nI w) = nI a := by
  obtain ⟨t, et, lt⟩ := hW.n hp hi 3 (by omega) (by omega)
  obtain ⟨u, eu, lu⟩ := hW.n hp hi 5 (by omega) (by omega)
  have lt : t < 1000 := lt
  have lu : u < 10000 := lu
  have e1 : jmin 999 (ofT T p 3 + nI w) = nI (min (t + w) 999) := by
    rw [et, nI_add, jmin_c, show (999 : Int32) = nI 999 from rfl, jmin_n (by omega) (by omega)]
  have e2 : jmax 0 (ofT T p 5 - nI w) = nI (u - w) := by
    rw [eu, jmax_c]; exact jmax_0 (by omega) (by omega)
  refine ⟨min (t + w) 999, u - w, by omega, by omega, ?_, e1⟩
  unfold poT
  rw [e1, e2]
theorem WI.po {T : Nat → Int32} (hW : WI T) {p w : Nat} (hp : p < 30) (hi : isT T p) (hw : w < 1000) : WI (poT T p (nI w)) := by
  obtain ⟨a, b, la, lb, e, -⟩ := poT_n hW hp hi hw
  rw [e]
  exact (hW.te (by omega) (by omega) (FR_n (f := 3) (Nat.zero_le _) la)).te (by omega) (by omega) (FR_n (f := 5) (Nat.zero_le _) lb)
theorem poT_f {T : Nat → Int32} {p q f : Nat} {v : Int32} (hf : f < 7) (h3 : f ≠ 3) (h5 : f ≠ 5) : ofT (poT T p v) q f = ofT T q f := by
  unfold poT
  rw [ofT_te (by omega) hf, if_neg (fun c => h5 c.2), ofT_te (by omega) hf, if_neg (fun c => h3 c.2)]
theorem sN_po {T : Nat → Int32} {p : Nat} {v : Int32} : sN (poT T p v) 30 = sN T 30 := sN_eq (fun q _ => stN_of (poT_f (by omega) (by omega) (by omega)) (poT_f (by omega) (by omega) (by omega)))
theorem PlT_po {T : Nat → Int32} {p : Nat} {v : Int32} (hp : p < 30) : PlT T (poT T p v) := (PlT_te hp (by omega)).tr (PlT_te hp (by omega))
theorem L_pour {i : Nat} {σ : Hs} (h : RR i σ) (d : Nat) (v w : Int32) : Step d i 65 141 [.int v, .int w] σ := by
  by_cases hv : 0 ≤ v ∧ v ≤ 29
  · have hvt := eq_true hv
    by_cases hw : 0 ≤ w ∧ w ≤ 999
    · have hwt := eq_true hw
      obtain ⟨p, hp, rfl⟩ := plc_n hv
      have p31 : p < 2147483648 := by omega
      have ei := h2_has (d + 98) p hp σ (σ 88) h.hr h.wi.P
      obtain ⟨k, -, lk, rfl⟩ := within_n (a := 0) (b := 999) hw rfl rfl (by omega) (by omega)
      by_cases hi : isT (σ 88) p
      · obtain ⟨σ1, e1, r1, f1⟩ := h2_pourOn (d + 98) p hp (nI k) σ (σ 88) h.hr hi
        obtain ⟨a, b, la, lb, ep, ea⟩ := poT_n h.wi hp hi (show k < 1000 by omega)
        have f88 : σ1 88 = σ 88 := f1 88 (by omega) (by omega)
        have ip : isT (poT (σ 88) p (nI k)) p := by unfold isT; rw [poT_f (by omega) (by omega) (by omega)]; exact hi
        have e3 : ofT (poT (σ 88) p (nI k)) p 3 = nI a := by rw [ep, ofT_tn (by omega) (by omega) (by omega), ofT_ts (by omega)]
        have g3 : σ1 5 p = nI a := (r1.f hp ip 3 (by omega) (by omega)).trans e3
        have hi1 : isT (σ1 88) p := by rw [f88]; exact hi
        have hm := m_pours (d + 97) p hp (nI k) σ1
        rw [f88] at hm
        have c1 : callD (d + 100) 65 [.ref 0, .int (nI p), .int (nI k)] σ = some (some (.int (nI a)), σ1) := by
          simp only [c65, s65_0, s65_1, s65_4, s65_7, s65_8, s65_9, s65_12, s65_15, s65_18, s65_19, s65_20_o0, s65_23, s65_24, s65_25_o0, s65_28_o1, s65_31, s65_32_o2, s65_35, s65_38, s65_39, s65_40_o0, s65_43, s65_44, s65_45_o0, s65_48_o1, s65_51, s65_52, s65_53_o2, s65_56, s65_57_o0, s65_60_o1, s65_63_o2, s65_66, s65_67_o5, s65_68, k_isPlace, k_within, lt_le30, hvt, hwt, b2_t, ei, b2_T hi, e1, vp_nI hp, cl_nI p31, g3, simprocAttr, if_true, if_false, true_and, and_true, false_and, and_false, not_false_eq_true, not_true_eq_false, gd_T, kont_i, kont_v]
        have c2 : callD (d + 100) 141 [.ref 87, .int (nI p), .int (nI k)] σ1 = some (some (.int (nI a)), rep σ1 88 (poT (σ 88) p (nI k))) := by
          simp only [c141, s141_0, s141_1, s141_4, s141_7, s141_8, s141_9, s141_12, s141_15, s141_18, s141_19, s141_21_o87, s141_24, s141_25, s141_26, s141_27_o87, s141_30, s141_33, s141_34, s141_36_o87, s141_39, s141_40, s141_41, s141_42, s141_43_o87, s141_46, s141_47, s141_48, s141_49_o87, s141_52, m_isPlace, m_within, hvt, hwt, b2_t, m_is _ _ hp, b2_T hi1, hm, m_of_3 _ _ hp, rep_at, e3, simprocAttr, if_true, if_false, true_and, and_true, false_and, and_false, not_false_eq_true, not_true_eq_false, gd_T, kont_i, kont_v]
        refine ⟨_, _, _, c1, c2, h.pl (rep_self _ _ _) ?_ (h.wi.po hp hi (by omega)) (PlT_po hp) ?_ (h.wb.two c1 c2) ?_ ?_ ?_⟩
        · exact r1.fr (fun o o1 o2 => rep_ne (by omega))
        · rw [sN_po]; omega
        · intro o ho
          unfold kpO at ho
          rw [rep_ne (by omega)]
          exact f1 o (by omega) (by omega)
        · rw [rep_ne (by omega), f1 87 (by omega) (by omega)]
        · rw [rep_ne (by omega), f1 87 (by omega) (by omega)]
      · refine Step_err h 2 (v := -1000002) ?_ ?_
        · simp only [c65, s65_0, s65_1, s65_4, s65_7, s65_8, s65_9, s65_12, s65_15, s65_18, s65_19, s65_20_o0, s65_23, s65_24, s65_25_o0, s65_28_o1, s65_31, s65_32_o2, s65_35, s65_38, s65_39, s65_40_o0, s65_43, s65_44, s65_45_o0, s65_48_o1, s65_51, s65_52, s65_53_o2, s65_56, s65_57_o0, s65_60_o1, s65_63_o2, s65_66, s65_67_o5, s65_68, k_isPlace, k_within, lt_le30, hvt, hwt, b2_t, ei, b2_F hi, k_failed_2, simprocAttr, if_true, if_false, true_and, and_true, false_and, and_false, not_false_eq_true, not_true_eq_false, gd_T, kont_i, kont_v]
        · have hi1 : ¬ isT (erC σ 2 88) p := by rw [show erC σ 2 88 = σ 88 from rep_ne (by omega)]; exact hi
          simp only [c141, s141_0, s141_1, s141_4, s141_7, s141_8, s141_9, s141_12, s141_15, s141_18, s141_19, s141_21_o87, s141_24, s141_25, s141_26, s141_27_o87, s141_30, s141_33, s141_34, s141_36_o87, s141_39, s141_40, s141_41, s141_42, s141_43_o87, s141_46, s141_47, s141_48, s141_49_o87, s141_52, m_isPlace, m_within, hvt, hwt, b2_t, m_is _ _ hp, b2_F hi1, m_fin_2, simprocAttr, if_true, if_false, true_and, and_true, false_and, and_false, not_false_eq_true, not_true_eq_false, gd_T, kont_i, kont_v]
    · have hwf := eq_false hw
      refine Step_err h 1 (v := -1000001) ?_ ?_
      · simp only [c65, s65_0, s65_1, s65_4, s65_7, s65_8, s65_9, s65_12, s65_15, s65_18, s65_19, s65_20_o0, s65_23, s65_24, s65_25_o0, s65_28_o1, s65_31, s65_32_o2, s65_35, s65_38, s65_39, s65_40_o0, s65_43, s65_44, s65_45_o0, s65_48_o1, s65_51, s65_52, s65_53_o2, s65_56, s65_57_o0, s65_60_o1, s65_63_o2, s65_66, s65_67_o5, s65_68, k_isPlace, k_within, lt_le30, hvt, hwf, b2_t, b2_f, k_failed_1, simprocAttr, if_true, if_false, true_and, and_true, false_and, and_false, not_false_eq_true, not_true_eq_false, gd_T, kont_i, kont_v]
      · simp only [c141, s141_0, s141_1, s141_4, s141_7, s141_8, s141_9, s141_12, s141_15, s141_18, s141_19, s141_21_o87, s141_24, s141_25, s141_26, s141_27_o87, s141_30, s141_33, s141_34, s141_36_o87, s141_39, s141_40, s141_41, s141_42, s141_43_o87, s141_46, s141_47, s141_48, s141_49_o87, s141_52, m_isPlace, m_within, hvt, hwf, b2_t, b2_f, m_fin_1, simprocAttr, if_true, if_false, true_and, and_true, false_and, and_false, not_false_eq_true, not_true_eq_false, gd_T, kont_i, kont_v]
  · have hvf := nplc hv
    refine Step_err h 1 (v := -1000001) ?_ ?_
    · simp only [c65, s65_0, s65_1, s65_4, s65_7, s65_8, s65_9, s65_12, s65_15, s65_18, s65_19, s65_20_o0, s65_23, s65_24, s65_25_o0, s65_28_o1, s65_31, s65_32_o2, s65_35, s65_38, s65_39, s65_40_o0, s65_43, s65_44, s65_45_o0, s65_48_o1, s65_51, s65_52, s65_53_o2, s65_56, s65_57_o0, s65_60_o1, s65_63_o2, s65_66, s65_67_o5, s65_68, k_isPlace, k_within, lt_le30, hvf, b2_f, k_failed_1, simprocAttr, if_true, if_false, true_and, and_true, false_and, and_false, not_false_eq_true, not_true_eq_false, gd_T, kont_i, kont_v]
    · simp only [c141, s141_0, s141_1, s141_4, s141_7, s141_8, s141_9, s141_12, s141_15, s141_18, s141_19, s141_21_o87, s141_24, s141_25, s141_26, s141_27_o87, s141_30, s141_33, s141_34, s141_36_o87, s141_39, s141_40, s141_41, s141_42, s141_43_o87, s141_46, s141_47, s141_48, s141_49_o87, s141_52, m_isPlace, m_within, hvf, b2_f, m_fin_1, simprocAttr, if_true, if_false, true_and, and_true, false_and, and_false, not_false_eq_true, not_true_eq_false, gd_T, kont_i, kont_v]
