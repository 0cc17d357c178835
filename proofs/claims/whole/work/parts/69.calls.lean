/-! ===== the calls: lay, take, armful, become, fork, pour, set ===== -/
theorem k_isPlace (d : Nat) (v : Int32) (σ : Hs) : callD (d + 1) 103 [.int v] σ = some (some (.int (b2 (0 ≤ v ∧ v < 30))), σ) := by
  simp only [c103, s103_0, s103_1, s103_4, s103_5, s103_7, s103_10, s103_11, s103_14, s103_15, isB_0, isB_1]
  by_cases h1 : v < 0
  · rw [if_pos h1, b2_F (fun h => Int32.not_le.mpr h1 h.1)]
  · rw [if_neg h1]
    by_cases h2 : 30 ≤ v
    · rw [if_pos h2, b2_F (fun h => Int32.not_lt.mpr h2 h.2)]
    · rw [if_neg h2, b2_T ⟨Int32.not_lt.mp h1, Int32.not_le.mp h2⟩]
theorem lt_le (a : Int32) {v : Int32} (b : Int32) (h : b.toInt + 1 = a.toInt) : (v < a) = (v ≤ b) := by
  rw [Int32.lt_iff_toInt_lt, Int32.le_iff_toInt_le]
  exact propext ⟨fun q => by omega, fun q => by omega⟩
theorem lt_le30 {v : Int32} : (v < 30) = (v ≤ 29) := lt_le 30 29 rfl
theorem lt_le9 {v : Int32} : (v < 9) = (v ≤ 8) := lt_le 9 8 rfl
theorem plc_n {v : Int32} (h : 0 ≤ v ∧ v ≤ 29) : ∃ p : Nat, p < 30 ∧ v = nI p := by
  obtain ⟨p, -, a, e⟩ := within_n (a := 0) (b := 29) h rfl rfl (by omega) (by omega)
  exact ⟨p, by omega, e⟩
theorem plc_t {p : Nat} (hp : p < 30) : 0 ≤ nI p ∧ nI p ≤ 29 := ⟨nI_pos' (by omega), nI_le (b := 29) (by omega) (by omega)⟩
theorem sN_set {T : Nat → Int32} {p k s w : Nat} {l wa li : Int32} (hp : p < 30) (hs : s < 1000) (hn : ¬ isT T p) : sN (setT T p (nI k) (nI s) (nI w) l wa li) 30 = sN T 30 + s := by
  have h := sN_1 (T := T) (T' := setT T p (nI k) (nI s) (nI w) l wa li) hp (fun q hq hne => stN_of (by rw [setT_of (by omega), if_neg hne]) (by rw [setT_of (by omega), if_neg hne]))
  have e1 : stN T p = 0 := by unfold stN; rw [if_neg hn]
  have e2 : stN (setT T p (nI k) (nI s) (nI w) l wa li) p = s := stN_n (by unfold isT; rw [setT_of (by omega), if_pos rfl, if_pos rfl]) (by rw [setT_of (by omega), if_pos rfl]; rfl) hs
  omega
theorem hi_not {T : Nat → Int32} {c : Nat} (h : hiT T c < 5) : ¬ isT T (6 * hiT T c + c) := hiF_at T c 5 0 h
theorem PlT_set {T : Nat → Int32} {p : Nat} {k s w l wa li : Int32} (hp : p < 30) : PlT T (setT T p k s w l wa li) := fun a ha => setT_ne hp ha
theorem L_lay {i : Nat} {σ : Hs} (h : RR i σ) (d : Nat) (k c s w : Int32) : Step d i 58 126 [.int k, .int c, .int s, .int w] σ := by
  by_cases ht : told4 k c s w
  · obtain ⟨k', c', s', w', rfl, rfl, rfl, rfl, lk, lc, l1, ls, lw⟩ := told_n ht
    have hle := hiT_le (σ 88) c'
    by_cases h5 : hiT (σ 88) c' < 5
    · obtain ⟨σ1, e1, r1, f1⟩ := h2_layOnTop (d + 96) (nI k') (nI s') (nI w') c' lc σ (σ 88) h.hr h.wi.P ht h5
      have f88 : σ1 88 = σ 88 := f1 88 (by omega)
      have hm := m_lays (d + 95) c' lc (nI k') (nI s') (nI w') σ1 (by rw [f88]; exact h5)
      rw [f88] at hm
      have hh := m_highOf (d + 96) c' lc σ1
      rw [f88] at hh
      have c1 : callD (d + 100) 58 [.ref 0, .int (nI k'), .int (nI c'), .int (nI s'), .int (nI w')] σ = some (some (.int (nI (6 * hiT (σ 88) c' + c'))), σ1) := by
        have p31 : 6 * hiT (σ 88) c' + c' < 2147483648 := by omega
        have p0 : (0 ≤ nI (6 * hiT (σ 88) c' + c')) = True := eq_true (nI_pos' p31)
        simp only [c58, s58_0, s58_1_o0, s58_4_o1, s58_7, s58_8, s58_9, s58_10, s58_12_o2, s58_15, s58_17, s58_19, s58_22, s58_23, s58_25, s58_26_o0, s58_29, s58_32, s58_34, e1, p0, simprocAttr, if_true, if_false, true_and, and_true, false_and, and_false, not_false_eq_true, not_true_eq_false, gd_T, kont_i, kont_v]
      have c2 : callD (d + 100) 126 [.ref 87, .int (nI k'), .int (nI c'), .int (nI s'), .int (nI w')] σ1 = some (some (.int (nI (6 * hiT (σ 88) c' + c'))), rep σ1 88 (setT (σ 88) (6 * hiT (σ 88) c' + c') (nI k') (nI s') (nI w') 3 0 0)) := by
        have n5 : (nI (hiT (σ 88) c') = 5) = False := by rw [show (5 : Int32) = nI 5 from rfl, eq_nn (by omega) (by omega)]; exact eq_false (by omega)
        simp only [c126, s126_0, s126_1, s126_2, s126_3, s126_4, s126_6_o87, s126_9, s126_12, s126_13, s126_15_o87, s126_18, s126_19, s126_20, s126_21_o87, s126_24, s126_25, s126_28, s126_29, s126_31_o87, s126_34, s126_37, s126_38, s126_39, s126_40, s126_41, s126_43_o87, s126_46, m_isAsTold, b2_T ht, hh, hm, n5, simprocAttr, if_true, if_false, true_and, and_true, false_and, and_false, not_false_eq_true, not_true_eq_false, gd_T, kont_i, kont_v]
      refine ⟨_, _, _, c1, c2, h.pl (rep_self _ _ _) ?_ (h.wi.lay lc h5 lk l1 ls lw) (PlT_set (by omega)) ?_ (h.wb.two c1 c2) ?_ ?_ ?_⟩
      · exact r1.fr (fun o o1 o2 => rep_ne (by omega))
      · rw [sN_set (by omega) ls (hi_not h5)]; omega
      · intro o ho
        unfold kpO at ho
        rw [rep_ne (by omega)]
        exact f1 o (by omega)
      · rw [rep_ne (by omega), f1 87 (by omega)]
      · rw [rep_ne (by omega), f1 87 (by omega)]
    · refine Step_err h 4 (v := -1000004) ?_ ?_
      · have e1 := h2_layOnTop_full (d + 96) (nI k') (nI s') (nI w') c' lc σ (σ 88) h.hr h.wi.P ht h5
        simp only [c58, s58_0, s58_1_o0, s58_4_o1, s58_7, s58_8, s58_9, s58_10, s58_12_o2, s58_15, s58_17, s58_19, s58_22, s58_23, s58_25, s58_26_o0, s58_29, s58_32, s58_34, e1, k_failed_4, simprocAttr, if_true, if_false, true_and, and_true, false_and, and_false, not_false_eq_true, not_true_eq_false, gd_T, kont_i, kont_v]
      · have hh := m_highOf (d + 96) c' lc (erC σ 4)
        rw [show erC σ 4 88 = σ 88 from rep_ne (by omega), show hiT (σ 88) c' = 5 by omega] at hh
        simp only [c126, s126_0, s126_1, s126_2, s126_3, s126_4, s126_6_o87, s126_9, s126_12, s126_13, s126_15_o87, s126_18, s126_19, s126_20, s126_21_o87, s126_24, s126_25, s126_28, s126_29, s126_31_o87, s126_34, s126_37, s126_38, s126_39, s126_40, s126_41, s126_43_o87, s126_46, m_isAsTold, b2_T ht, hh, n_5, m_fin_4, simprocAttr, if_true, if_false, true_and, and_true, false_and, and_false, not_false_eq_true, not_true_eq_false, gd_T, kont_i, kont_v]
  · refine Step_err h 1 (v := -1000001) ?_ ?_
    · have e1 := h2_layOnTop_no (d + 96) k c s w σ ht
      simp only [c58, s58_0, s58_1_o0, s58_4_o1, s58_7, s58_8, s58_9, s58_10, s58_12_o2, s58_15, s58_17, s58_19, s58_22, s58_23, s58_25, s58_26_o0, s58_29, s58_32, s58_34, e1, k_failed_1, simprocAttr, if_true, if_false, true_and, and_true, false_and, and_false, not_false_eq_true, not_true_eq_false, gd_T, kont_i, kont_v]
    · simp only [c126, s126_0, s126_1, s126_2, s126_3, s126_4, s126_6_o87, s126_9, s126_12, s126_13, s126_15_o87, s126_18, s126_19, s126_20, s126_21_o87, s126_24, s126_25, s126_28, s126_29, s126_31_o87, s126_34, s126_37, s126_38, s126_39, s126_40, s126_41, s126_43_o87, s126_46, m_isAsTold, b2_F ht, m_fin_1, simprocAttr, if_true, if_false, true_and, and_true, false_and, and_false, not_false_eq_true, not_true_eq_false, gd_T, kont_i, kont_v]
theorem sN_le_go {T : Nat → Int32} {p : Nat} (hp : p < 30) : sN (goT T p) 30 ≤ sN T 30 := by
  have := sN_go (T := T) hp
  omega
theorem PlT_go {T : Nat → Int32} {p : Nat} : PlT T (goT T p) := fun a ha => goT_ne ha
theorem PlT_te {T : Nat → Int32} {p f : Nat} {v : Int32} (hp : p < 30) (hf : f < 7) : PlT T (teT T p f v) := fun a ha => by
  simp only [teT, upd]
  rw [if_neg (by omega)]
theorem PlT.tr {A B C : Nat → Int32} (h1 : PlT A B) (h2 : PlT B C) : PlT A C := fun a ha => (h2 a ha).trans (h1 a ha)
theorem sN_te {T : Nat → Int32} {p f : Nat} {v : Int32} (hf : f < 7) (h0 : f ≠ 0) (h2 : f ≠ 2) : sN (teT T p f v) 30 = sN T 30 := sN_eq (fun q _ => stN_of (by rw [ofT_te hf (by omega), if_neg (fun c => h0 c.2.symm)]) (by rw [ofT_te hf (by omega), if_neg (fun c => h2 c.2.symm)]))
theorem nplc {v : Int32} (h : ¬ (0 ≤ v ∧ v ≤ 29)) : (0 ≤ v ∧ v ≤ 29) = False := eq_false h
theorem L_take {i : Nat} {σ : Hs} (h : RR i σ) (d : Nat) (v : Int32) : Step d i 59 128 [.int v] σ := by
  by_cases hv : 0 ≤ v ∧ v ≤ 29
  · obtain ⟨p, hp, rfl⟩ := plc_n hv
    have p31 : p < 2147483648 := by omega
    have hvt := eq_true hv
    have ei := h2_has (d + 98) p hp σ (σ 88) h.hr h.wi.P
    by_cases hi : isT (σ 88) p
    · obtain ⟨σ1, e1, r1, f1⟩ := h2_remove (d + 97) p hp σ (σ 88) h.hr h.wi.1 hi (fun q _ h2 h3 => h.wi.P q h2 h3) (fun q _ h2 h3 => h.wi.B q h2 h3)
      have f88 : σ1 88 = σ 88 := f1 88 (by omega)
      have g2 : σ 4 p = ofT (σ 88) p 2 := h.hr.f hp hi 2 (by omega) (by omega)
      have hm := m_goes (d + 96) p hp σ1
      rw [f88] at hm
      have hi1 : isT (σ1 88) p := by rw [f88]; exact hi
      have c1 : callD (d + 100) 59 [.ref 0, .int (nI p)] σ = some (some (.int (ofT (σ 88) p 2)), σ1) := by
        simp only [c59, s59_0, s59_1, s59_4, s59_7, s59_8, s59_9_o0, s59_12, s59_13, s59_14_o0, s59_17_o1, s59_20, s59_21_o2, s59_24, s59_27, s59_28, s59_29_o0, s59_32, s59_33, s59_34_o0, s59_37_o1, s59_40_o2, s59_43, s59_44_o4, s59_45, s59_46, s59_47_o0, s59_50_o1, s59_53, s59_54_o2, s59_57, s59_58, k_isPlace, lt_le30, hvt, b2_t, ei, b2_T hi, vp_nI hp, cl_nI p31, g2, e1, simprocAttr, if_true, if_false, true_and, and_true, false_and, and_false, not_false_eq_true, not_true_eq_false, gd_T, kont_i, kont_v]
      have c2 : callD (d + 100) 128 [.ref 87, .int (nI p)] σ1 = some (some (.int (ofT (σ 88) p 2)), rep σ1 88 (goT (σ 88) p)) := by
        simp only [c128, s128_0, s128_1, s128_4, s128_7, s128_8, s128_10_o87, s128_13, s128_14, s128_15, s128_16_o87, s128_19, s128_22, s128_23, s128_25_o87, s128_28, s128_29, s128_30, s128_31, s128_32_o87, s128_35, s128_36, s128_37, s128_38_o87, s128_41, s128_42, m_isPlace, hvt, b2_t, m_is _ _ hp, b2_T hi, m_of_2 _ _ hp, hm, f88, simprocAttr, if_true, if_false, true_and, and_true, false_and, and_false, not_false_eq_true, not_true_eq_false, gd_T, kont_i, kont_v]
      refine ⟨_, _, _, c1, c2, h.pl (rep_self _ _ _) ?_ (h.wi.go hp) PlT_go ?_ (h.wb.two c1 c2) ?_ ?_ ?_⟩
      · exact r1.fr (fun o o1 o2 => rep_ne (by omega))
      · exact Nat.le_trans (sN_le_go hp) (by omega)
      · intro o ho
        unfold kpO at ho
        rw [rep_ne (by omega)]
        exact f1 o (by omega)
      · rw [rep_ne (by omega), f1 87 (by omega)]
      · rw [rep_ne (by omega), f1 87 (by omega)]
    · refine Step_err h 2 (v := -1000002) ?_ ?_
      · simp only [c59, s59_0, s59_1, s59_4, s59_7, s59_8, s59_9_o0, s59_12, s59_13, s59_14_o0, s59_17_o1, s59_20, s59_21_o2, s59_24, s59_27, s59_28, s59_29_o0, s59_32, s59_33, s59_34_o0, s59_37_o1, s59_40_o2, s59_43, s59_44_o4, s59_45, s59_46, s59_47_o0, s59_50_o1, s59_53, s59_54_o2, s59_57, s59_58, k_isPlace, lt_le30, hvt, b2_t, ei, b2_F hi, k_failed_2, simprocAttr, if_true, if_false, true_and, and_true, false_and, and_false, not_false_eq_true, not_true_eq_false, gd_T, kont_i, kont_v]
      · have hi1 : ¬ isT (erC σ 2 88) p := by rw [show erC σ 2 88 = σ 88 from rep_ne (by omega)]; exact hi
        simp only [c128, s128_0, s128_1, s128_4, s128_7, s128_8, s128_10_o87, s128_13, s128_14, s128_15, s128_16_o87, s128_19, s128_22, s128_23, s128_25_o87, s128_28, s128_29, s128_30, s128_31, s128_32_o87, s128_35, s128_36, s128_37, s128_38_o87, s128_41, s128_42, m_isPlace, hvt, b2_t, m_is _ _ hp, b2_F hi1, m_fin_2, simprocAttr, if_true, if_false, true_and, and_true, false_and, and_false, not_false_eq_true, not_true_eq_false, gd_T, kont_i, kont_v]
  · have hvf := nplc hv
    refine Step_err h 1 (v := -1000001) ?_ ?_
    · simp only [c59, s59_0, s59_1, s59_4, s59_7, s59_8, s59_9_o0, s59_12, s59_13, s59_14_o0, s59_17_o1, s59_20, s59_21_o2, s59_24, s59_27, s59_28, s59_29_o0, s59_32, s59_33, s59_34_o0, s59_37_o1, s59_40_o2, s59_43, s59_44_o4, s59_45, s59_46, s59_47_o0, s59_50_o1, s59_53, s59_54_o2, s59_57, s59_58, k_isPlace, lt_le30, hvf, b2_f, k_failed_1, simprocAttr, if_true, if_false, true_and, and_true, false_and, and_false, not_false_eq_true, not_true_eq_false, gd_T, kont_i, kont_v]
    · simp only [c128, s128_0, s128_1, s128_4, s128_7, s128_8, s128_10_o87, s128_13, s128_14, s128_15, s128_16_o87, s128_19, s128_22, s128_23, s128_25_o87, s128_28, s128_29, s128_30, s128_31, s128_32_o87, s128_35, s128_36, s128_37, s128_38_o87, s128_41, s128_42, m_isPlace, hvf, b2_f, m_fin_1, simprocAttr, if_true, if_false, true_and, and_true, false_and, and_false, not_false_eq_true, not_true_eq_false, gd_T, kont_i, kont_v]
theorem L_armful {i : Nat} {σ : Hs} (h : RR i σ) (d : Nat) (v w : Int32) : Step d i 60 132 [.int v, .int w] σ := by
  by_cases hv : 0 ≤ v ∧ v ≤ 29
  · have hvt := eq_true hv
    by_cases hw : 0 ≤ w ∧ w ≤ 8
    · have hwt := eq_true hw
      obtain ⟨p, hp, rfl⟩ := plc_n hv
      obtain ⟨q, -, hq, rfl⟩ := within_n (a := 0) (b := 8) hw rfl rfl (by omega) (by omega)
      have p31 : p < 2147483648 := by omega
      have ei := h2_has (d + 98) p hp σ (σ 88) h.hr h.wi.P
      by_cases hi : isT (σ 88) p
      · have et := h2_armfulTells (d + 97) p q hp (by omega) σ (σ 88) h.hr h.wi hi
        have c1 : callD (d + 100) 60 [.ref 0, .int (nI p), .int (nI q)] σ = some (some (.int (atI (σ 88) p q)), σ) := by
          simp only [c60, s60_0, s60_1, s60_4, s60_7, s60_8, s60_9, s60_11, s60_14, s60_17, s60_18, s60_19_o0, s60_22, s60_23, s60_24_o0, s60_27_o1, s60_30, s60_31_o2, s60_34, s60_37, s60_38, s60_39_o0, s60_42, s60_43, s60_44_o0, s60_47_o1, s60_50, s60_51, s60_52_o2, s60_55, k_isPlace, k_within, lt_le30, hvt, hwt, b2_t, ei, b2_T hi, et, simprocAttr, if_true, if_false, true_and, and_true, false_and, and_false, not_false_eq_true, not_true_eq_false, gd_T, kont_i, kont_v]
        obtain ⟨k, ek, lk⟩ := h.wi.n hp hi 1 (by omega) (by omega)
        have lk : k < 7 := lk
        have k31 : k < 2147483648 := by omega
        have x92 := h.hot.1 k lk
        have x93 := h.hot.2 k lk
        have hd := m_draughtOf (d + 95) p hp σ
        have c2 : callD (d + 100) 132 [.ref 87, .int (nI p), .int (nI q)] σ = some (some (.int (atI (σ 88) p q)), σ) := by
          have hq' : q = 0 ∨ q = 1 ∨ q = 2 ∨ q = 3 ∨ q = 4 ∨ q = 5 ∨ q = 6 ∨ q = 7 ∨ q = 8 := by omega
          rcases hq' with rfl | rfl | rfl | rfl | rfl | rfl | rfl | rfl | rfl
          · simp only [c132, s132_0, s132_1, s132_4, s132_7, s132_8, s132_9, s132_11, s132_14, s132_17, s132_18, s132_20_o87, s132_23, s132_24, s132_25, s132_26_o87, s132_29, s132_32, s132_33, s132_35_o87, s132_38, s132_39, s132_40, s132_41, s132_42_o87, s132_45, s132_46, s132_47, s132_49, s132_52, s132_53, s132_54, s132_55, s132_56, s132_57_o87, s132_60, s132_63, s132_64, s132_66, s132_69, s132_70, s132_71_o87, s132_74, s132_77, s132_78, s132_80, s132_83, s132_84_o87, s132_87, s132_88_o92, s132_89, s132_92, s132_93_o87, s132_96, s132_97_o93, s132_98, m_isPlace, m_within, hvt, hwt, n_0, b2_t, m_is _ _ hp, b2_T hi, m_of_1 _ _ hp, ek, show ((0 : Int32) ≤ 0 ∧ (0 : Int32) ≤ 8) = True from eq_true (by decide), show (1 + 0 : Int32) = 1 from rfl, simprocAttr, if_true, if_false, true_and, and_true, false_and, and_false, not_false_eq_true, not_true_eq_false, gd_T, kont_i, kont_v]
            rw [← ek]; rfl
          · simp only [c132, s132_0, s132_1, s132_4, s132_7, s132_8, s132_9, s132_11, s132_14, s132_17, s132_18, s132_20_o87, s132_23, s132_24, s132_25, s132_26_o87, s132_29, s132_32, s132_33, s132_35_o87, s132_38, s132_39, s132_40, s132_41, s132_42_o87, s132_45, s132_46, s132_47, s132_49, s132_52, s132_53, s132_54, s132_55, s132_56, s132_57_o87, s132_60, s132_63, s132_64, s132_66, s132_69, s132_70, s132_71_o87, s132_74, s132_77, s132_78, s132_80, s132_83, s132_84_o87, s132_87, s132_88_o92, s132_89, s132_92, s132_93_o87, s132_96, s132_97_o93, s132_98, m_isPlace, m_within, hvt, n_1, b2_t, m_is _ _ hp, b2_T hi, m_of_1 _ _ hp, m_of_2 _ _ hp, ek, show ((0 : Int32) ≤ 1 ∧ (1 : Int32) ≤ 8) = True from eq_true (by decide), show (1 + 1 : Int32) = 2 from rfl, simprocAttr, if_true, if_false, true_and, and_true, false_and, and_false, not_false_eq_true, not_true_eq_false, gd_T, kont_i, kont_v]
            rfl
          · simp only [c132, s132_0, s132_1, s132_4, s132_7, s132_8, s132_9, s132_11, s132_14, s132_17, s132_18, s132_20_o87, s132_23, s132_24, s132_25, s132_26_o87, s132_29, s132_32, s132_33, s132_35_o87, s132_38, s132_39, s132_40, s132_41, s132_42_o87, s132_45, s132_46, s132_47, s132_49, s132_52, s132_53, s132_54, s132_55, s132_56, s132_57_o87, s132_60, s132_63, s132_64, s132_66, s132_69, s132_70, s132_71_o87, s132_74, s132_77, s132_78, s132_80, s132_83, s132_84_o87, s132_87, s132_88_o92, s132_89, s132_92, s132_93_o87, s132_96, s132_97_o93, s132_98, m_isPlace, m_within, hvt, n_2, b2_t, m_is _ _ hp, b2_T hi, m_of_1 _ _ hp, m_of_3 _ _ hp, ek, show ((0 : Int32) ≤ 2 ∧ (2 : Int32) ≤ 8) = True from eq_true (by decide), show (1 + 2 : Int32) = 3 from rfl, simprocAttr, if_true, if_false, true_and, and_true, false_and, and_false, not_false_eq_true, not_true_eq_false, gd_T, kont_i, kont_v]
            rfl
          · simp only [c132, s132_0, s132_1, s132_4, s132_7, s132_8, s132_9, s132_11, s132_14, s132_17, s132_18, s132_20_o87, s132_23, s132_24, s132_25, s132_26_o87, s132_29, s132_32, s132_33, s132_35_o87, s132_38, s132_39, s132_40, s132_41, s132_42_o87, s132_45, s132_46, s132_47, s132_49, s132_52, s132_53, s132_54, s132_55, s132_56, s132_57_o87, s132_60, s132_63, s132_64, s132_66, s132_69, s132_70, s132_71_o87, s132_74, s132_77, s132_78, s132_80, s132_83, s132_84_o87, s132_87, s132_88_o92, s132_89, s132_92, s132_93_o87, s132_96, s132_97_o93, s132_98, m_isPlace, m_within, hvt, n_3, b2_t, m_is _ _ hp, b2_T hi, m_of_1 _ _ hp, m_of_4 _ _ hp, ek, show ((0 : Int32) ≤ 3 ∧ (3 : Int32) ≤ 8) = True from eq_true (by decide), show (1 + 3 : Int32) = 4 from rfl, simprocAttr, if_true, if_false, true_and, and_true, false_and, and_false, not_false_eq_true, not_true_eq_false, gd_T, kont_i, kont_v]
            rfl
          · simp only [c132, s132_0, s132_1, s132_4, s132_7, s132_8, s132_9, s132_11, s132_14, s132_17, s132_18, s132_20_o87, s132_23, s132_24, s132_25, s132_26_o87, s132_29, s132_32, s132_33, s132_35_o87, s132_38, s132_39, s132_40, s132_41, s132_42_o87, s132_45, s132_46, s132_47, s132_49, s132_52, s132_53, s132_54, s132_55, s132_56, s132_57_o87, s132_60, s132_63, s132_64, s132_66, s132_69, s132_70, s132_71_o87, s132_74, s132_77, s132_78, s132_80, s132_83, s132_84_o87, s132_87, s132_88_o92, s132_89, s132_92, s132_93_o87, s132_96, s132_97_o93, s132_98, m_isPlace, m_within, hvt, n_4, b2_t, m_is _ _ hp, b2_T hi, m_of_1 _ _ hp, m_of_5 _ _ hp, ek, show ((0 : Int32) ≤ 4 ∧ (4 : Int32) ≤ 8) = True from eq_true (by decide), show (1 + 4 : Int32) = 5 from rfl, simprocAttr, if_true, if_false, true_and, and_true, false_and, and_false, not_false_eq_true, not_true_eq_false, gd_T, kont_i, kont_v]
            rfl
          · simp only [c132, s132_0, s132_1, s132_4, s132_7, s132_8, s132_9, s132_11, s132_14, s132_17, s132_18, s132_20_o87, s132_23, s132_24, s132_25, s132_26_o87, s132_29, s132_32, s132_33, s132_35_o87, s132_38, s132_39, s132_40, s132_41, s132_42_o87, s132_45, s132_46, s132_47, s132_49, s132_52, s132_53, s132_54, s132_55, s132_56, s132_57_o87, s132_60, s132_63, s132_64, s132_66, s132_69, s132_70, s132_71_o87, s132_74, s132_77, s132_78, s132_80, s132_83, s132_84_o87, s132_87, s132_88_o92, s132_89, s132_92, s132_93_o87, s132_96, s132_97_o93, s132_98, m_isPlace, m_within, hvt, n_5, b2_t, m_is _ _ hp, b2_T hi, m_of_1 _ _ hp, m_of_6 _ _ hp, ek, show ((0 : Int32) ≤ 5 ∧ (5 : Int32) ≤ 8) = True from eq_true (by decide), show (1 + 5 : Int32) = 6 from rfl, simprocAttr, if_true, if_false, true_and, and_true, false_and, and_false, not_false_eq_true, not_true_eq_false, gd_T, kont_i, kont_v]
            rfl
          · simp only [c132, s132_0, s132_1, s132_4, s132_7, s132_8, s132_9, s132_11, s132_14, s132_17, s132_18, s132_20_o87, s132_23, s132_24, s132_25, s132_26_o87, s132_29, s132_32, s132_33, s132_35_o87, s132_38, s132_39, s132_40, s132_41, s132_42_o87, s132_45, s132_46, s132_47, s132_49, s132_52, s132_53, s132_54, s132_55, s132_56, s132_57_o87, s132_60, s132_63, s132_64, s132_66, s132_69, s132_70, s132_71_o87, s132_74, s132_77, s132_78, s132_80, s132_83, s132_84_o87, s132_87, s132_88_o92, s132_89, s132_92, s132_93_o87, s132_96, s132_97_o93, s132_98, m_isPlace, m_within, hvt, n_6, b2_t, m_is _ _ hp, b2_T hi, m_of_1 _ _ hp, hd, ek, show ((0 : Int32) ≤ 6 ∧ (6 : Int32) ≤ 8) = True from eq_true (by decide), simprocAttr, if_true, if_false, true_and, and_true, false_and, and_false, not_false_eq_true, not_true_eq_false, gd_T, kont_i, kont_v]
            rfl
          · simp only [c132, s132_0, s132_1, s132_4, s132_7, s132_8, s132_9, s132_11, s132_14, s132_17, s132_18, s132_20_o87, s132_23, s132_24, s132_25, s132_26_o87, s132_29, s132_32, s132_33, s132_35_o87, s132_38, s132_39, s132_40, s132_41, s132_42_o87, s132_45, s132_46, s132_47, s132_49, s132_52, s132_53, s132_54, s132_55, s132_56, s132_57_o87, s132_60, s132_63, s132_64, s132_66, s132_69, s132_70, s132_71_o87, s132_74, s132_77, s132_78, s132_80, s132_83, s132_84_o87, s132_87, s132_88_o92, s132_89, s132_92, s132_93_o87, s132_96, s132_97_o93, s132_98, m_isPlace, m_within, hvt, n_7, b2_t, m_is _ _ hp, b2_T hi, m_of_1 _ _ hp, ek, vp_nI lk, cl_nI k31, x92, show ((0 : Int32) ≤ 7 ∧ (7 : Int32) ≤ 8) = True from eq_true (by decide), simprocAttr, if_true, if_false, true_and, and_true, false_and, and_false, not_false_eq_true, not_true_eq_false, gd_T, kont_i, kont_v]
            unfold atI
            rw [ek, cl_nI k31]; rfl
          · simp only [c132, s132_0, s132_1, s132_4, s132_7, s132_8, s132_9, s132_11, s132_14, s132_17, s132_18, s132_20_o87, s132_23, s132_24, s132_25, s132_26_o87, s132_29, s132_32, s132_33, s132_35_o87, s132_38, s132_39, s132_40, s132_41, s132_42_o87, s132_45, s132_46, s132_47, s132_49, s132_52, s132_53, s132_54, s132_55, s132_56, s132_57_o87, s132_60, s132_63, s132_64, s132_66, s132_69, s132_70, s132_71_o87, s132_74, s132_77, s132_78, s132_80, s132_83, s132_84_o87, s132_87, s132_88_o92, s132_89, s132_92, s132_93_o87, s132_96, s132_97_o93, s132_98, m_isPlace, m_within, hvt, n_8, b2_t, m_is _ _ hp, b2_T hi, m_of_1 _ _ hp, ek, vp_nI lk, cl_nI k31, x93, show ((0 : Int32) ≤ 8 ∧ (8 : Int32) ≤ 8) = True from eq_true (by decide), simprocAttr, if_true, if_false, true_and, and_true, false_and, and_false, not_false_eq_true, not_true_eq_false, gd_T, kont_i, kont_v]
            unfold atI
            rw [ek, cl_nI k31]; rfl
        exact ⟨_, _, _, c1, c2, h.same⟩
      · refine Step_err h 2 (v := -1000002) ?_ ?_
        · simp only [c60, s60_0, s60_1, s60_4, s60_7, s60_8, s60_9, s60_11, s60_14, s60_17, s60_18, s60_19_o0, s60_22, s60_23, s60_24_o0, s60_27_o1, s60_30, s60_31_o2, s60_34, s60_37, s60_38, s60_39_o0, s60_42, s60_43, s60_44_o0, s60_47_o1, s60_50, s60_51, s60_52_o2, s60_55, k_isPlace, k_within, lt_le30, hvt, hwt, b2_t, ei, b2_F hi, k_failed_2, simprocAttr, if_true, if_false, true_and, and_true, false_and, and_false, not_false_eq_true, not_true_eq_false, gd_T, kont_i, kont_v]
        · have hi1 : ¬ isT (erC σ 2 88) p := by rw [show erC σ 2 88 = σ 88 from rep_ne (by omega)]; exact hi
          simp only [c132, s132_0, s132_1, s132_4, s132_7, s132_8, s132_9, s132_11, s132_14, s132_17, s132_18, s132_20_o87, s132_23, s132_24, s132_25, s132_26_o87, s132_29, s132_32, s132_33, s132_35_o87, s132_38, s132_39, s132_40, s132_41, s132_42_o87, s132_45, s132_46, s132_47, s132_49, s132_52, s132_53, s132_54, s132_55, s132_56, s132_57_o87, s132_60, s132_63, s132_64, s132_66, s132_69, s132_70, s132_71_o87, s132_74, s132_77, s132_78, s132_80, s132_83, s132_84_o87, s132_87, s132_88_o92, s132_89, s132_92, s132_93_o87, s132_96, s132_97_o93, s132_98, m_isPlace, m_within, hvt, hwt, b2_t, m_is _ _ hp, b2_F hi1, m_fin_2, simprocAttr, if_true, if_false, true_and, and_true, false_and, and_false, not_false_eq_true, not_true_eq_false, gd_T, kont_i, kont_v]
    · have hwf := eq_false hw
      refine Step_err h 1 (v := -1000001) ?_ ?_
      · simp only [c60, s60_0, s60_1, s60_4, s60_7, s60_8, s60_9, s60_11, s60_14, s60_17, s60_18, s60_19_o0, s60_22, s60_23, s60_24_o0, s60_27_o1, s60_30, s60_31_o2, s60_34, s60_37, s60_38, s60_39_o0, s60_42, s60_43, s60_44_o0, s60_47_o1, s60_50, s60_51, s60_52_o2, s60_55, k_isPlace, k_within, lt_le30, hvt, hwf, b2_t, b2_f, k_failed_1, simprocAttr, if_true, if_false, true_and, and_true, false_and, and_false, not_false_eq_true, not_true_eq_false, gd_T, kont_i, kont_v]
      · simp only [c132, s132_0, s132_1, s132_4, s132_7, s132_8, s132_9, s132_11, s132_14, s132_17, s132_18, s132_20_o87, s132_23, s132_24, s132_25, s132_26_o87, s132_29, s132_32, s132_33, s132_35_o87, s132_38, s132_39, s132_40, s132_41, s132_42_o87, s132_45, s132_46, s132_47, s132_49, s132_52, s132_53, s132_54, s132_55, s132_56, s132_57_o87, s132_60, s132_63, s132_64, s132_66, s132_69, s132_70, s132_71_o87, s132_74, s132_77, s132_78, s132_80, s132_83, s132_84_o87, s132_87, s132_88_o92, s132_89, s132_92, s132_93_o87, s132_96, s132_97_o93, s132_98, m_isPlace, m_within, hvt, hwf, b2_t, b2_f, m_fin_1, simprocAttr, if_true, if_false, true_and, and_true, false_and, and_false, not_false_eq_true, not_true_eq_false, gd_T, kont_i, kont_v]
  · have hvf := nplc hv
    refine Step_err h 1 (v := -1000001) ?_ ?_
    · simp only [c60, s60_0, s60_1, s60_4, s60_7, s60_8, s60_9, s60_11, s60_14, s60_17, s60_18, s60_19_o0, s60_22, s60_23, s60_24_o0, s60_27_o1, s60_30, s60_31_o2, s60_34, s60_37, s60_38, s60_39_o0, s60_42, s60_43, s60_44_o0, s60_47_o1, s60_50, s60_51, s60_52_o2, s60_55, k_isPlace, k_within, lt_le30, hvf, b2_f, k_failed_1, simprocAttr, if_true, if_false, true_and, and_true, false_and, and_false, not_false_eq_true, not_true_eq_false, gd_T, kont_i, kont_v]
    · simp only [c132, s132_0, s132_1, s132_4, s132_7, s132_8, s132_9, s132_11, s132_14, s132_17, s132_18, s132_20_o87, s132_23, s132_24, s132_25, s132_26_o87, s132_29, s132_32, s132_33, s132_35_o87, s132_38, s132_39, s132_40, s132_41, s132_42_o87, s132_45, s132_46, s132_47, s132_49, s132_52, s132_53, s132_54, s132_55, s132_56, s132_57_o87, s132_60, s132_63, s132_64, s132_66, s132_69, s132_70, s132_71_o87, s132_74, s132_77, s132_78, s132_80, s132_83, s132_84_o87, s132_87, s132_88_o92, s132_89, s132_92, s132_93_o87, s132_96, s132_97_o93, s132_98, m_isPlace, m_within, hvf, b2_f, m_fin_1, simprocAttr, if_true, if_false, true_and, and_true, false_and, and_false, not_false_eq_true, not_true_eq_false, gd_T, kont_i, kont_v]
