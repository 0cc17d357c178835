/-! ===== the calls: then, gardenThen ===== -/
theorem cpT_w {F G : Nat → Int32} (hF : ∀ j, 545 ≤ j → F j = 0) (hG : ∀ j, 545 ≤ j → G j = 0) : cpT F G 545 = F := by
  funext j
  unfold cpT
  by_cases c : j < 545
  · rw [if_pos c]
  · rw [if_neg c, hF j (by omega), hG j (by omega)]
theorem WB.at88 {σ : Hs} (h : WB σ) {o : Nat} (ho : o = 88 ∨ o = 89 ∨ o = 90) : ∀ j, 545 ≤ j → σ o j = 0 := by
  intro j hj
  have e : (shp o).1 = 10 ∧ (shp o).2 = 545 := by rcases ho with rfl | rfl | rfl <;> decide +kernel
  exact h.2 o j e.1 (by rw [e.2]; exact hj)
theorem m_aside (d : Nat) (σ : Hs) (hW : WB σ) : callD (d + 1) 115 [.ref 88, .ref 90] σ = some (none, rep σ 90 (σ 88)) := by
  rw [m_copy_88_90, cpT_w (hW.at88 (Or.inl rfl)) (hW.at88 (Or.inr (Or.inr rfl)))]
theorem m_unside (d : Nat) (σ : Hs) (T : Nat → Int32) (h90 : σ 90 = T) (hW : WB σ) : callD (d + 1) 115 [.ref 90, .ref 88] σ = some (none, rep σ 88 T) := by
  rw [m_copy_90_88, cpT_w (hW.at88 (Or.inr (Or.inr rfl))) (hW.at88 (Or.inl rfl)), h90]
theorem m_back_T (d : Nat) (v : Int32) (σ : Hs) (T : Nat → Int32) (h90 : σ 90 = T) (hW : WB σ) : callD (d + 2) 117 [.ref 87, .int v] σ = some (some (.int v), rep σ 88 T) := by
  rw [m_back, cpT_w (hW.at88 (Or.inr (Or.inr rfl))) (hW.at88 (Or.inl rfl)), h90]
theorem k_isAhead (d : Nat) (v : Int32) (σ : Hs) : callD (d + 1) 108 [.int v] σ = some (some (.int (b2 (0 ≤ v ∧ v ≤ 60))), σ) := by
  simp only [c108, s108_0, s108_1, s108_4, s108_5, s108_7, s108_10, s108_11, s108_14, s108_15, isB_0, isB_1]
  by_cases h1 : v < 0
  · rw [if_pos h1, b2_F (fun h => Int32.not_le.mpr h1 h.1)]
  · rw [if_neg h1]
    by_cases h2 : 60 < v
    · rw [if_pos h2, b2_F (fun h => Int32.not_le.mpr h2 h.2)]
    · rw [if_neg h2, b2_T ⟨Int32.not_lt.mp h1, Int32.not_lt.mp h2⟩]
theorem m_isAhead (d : Nat) (v : Int32) (σ : Hs) : callD (d + 2) 181 [.int v] σ = some (some (.int (b2 (0 ≤ v ∧ v ≤ 60))), σ) := by
  simp only [c181, s181_0, s181_1, s181_2, s181_4, s181_7, m_within, b2_B, simprocAttr, if_true, if_false, true_and, and_true, false_and, and_false, not_false_eq_true, not_true_eq_false, gd_T, kont_i, kont_v]
theorem ahd_n {v : Int32} (h : 0 ≤ v ∧ v ≤ 60) : ∃ p : Nat, p < 61 ∧ v = nI p := by
  obtain ⟨p, -, a, e⟩ := within_n (a := 0) (b := 60) h rfl rfl (by omega) (by omega)
  exact ⟨p, by omega, e⟩
theorem k_ahead (d : Nat) (σ : Hs) (T : Nat → Int32) (h : HR 2 σ T) (hL : LR σ T) (hM : MI T) (hW : WB σ) : ∃ σ1, callD (d + 1) 0 [.ref 59, .ref 2] σ = some (none, σ1) ∧ PI 59 σ1 T ∧ ∀ o, (o < 59 ∨ 69 < o) → σ1 o = σ o := by
  obtain ⟨σ1, e1, r1, f1⟩ := h59_copy_2 d σ T h (fun i _ => hW.1 8 (by decide +kernel) i)
  exact ⟨σ1, e1, ⟨r1, hL.fr (fun o o1 o2 => f1 o (by omega)) (fun _ _ => rfl), hM⟩, f1⟩
theorem Hot.of {a b : Hs} (h : Hot a) (e2 : b 92 = a 92) (e3 : b 93 = a 93) : Hot b := ⟨fun k hk => by rw [e2]; exact h.1 k hk, fun k hk => by rw [e3]; exact h.2 k hk⟩
/-- the world ahead is gone through and put back -/
theorem RR.ahead {i : Nat} {σ σ2 : Hs} (h : RR i σ) (hW : WB σ2) (e88 : σ2 88 = σ 88) (f : ∀ o, (o < 59 ∨ 69 < o) → o ≠ 15 → o ≠ 86 → o ≠ 87 → o ≠ 88 → o ≠ 90 → o ≠ 97 → o ≠ 98 → σ2 o = σ o) (f7 : ∀ k, k ≠ 17 → σ2 87 k = σ 87 k) : RR (i + 1) σ2 := by
  refine h.keep hW (fun o ho => ?_) (f7 3 (by omega)) (f7 19 (by omega))
  by_cases c : o = 88
  · rw [c]; exact e88
  · unfold kpO at ho
    exact f o (by omega) (by omega) (by omega) (by omega) c (by omega) (by omega) (by omega)
theorem L_then {i : Nat} {σ : Hs} (h : RR i σ) (d : Nat) (v w : Int32) : Step d i 77 182 [.int v, .int w] σ := by
  by_cases hv : 0 ≤ v ∧ v ≤ 60
  · have hvt := eq_true hv
    by_cases hw : 0 ≤ w ∧ w ≤ 7
    · have hwt := eq_true hw
      obtain ⟨n, ln, rfl⟩ := ahd_n hv
      obtain ⟨q, -, lq, rfl⟩ := within_n (a := 0) (b := 7) hw rfl rfl (by omega) (by omega)
      obtain ⟨σ1, e1, p1, f1⟩ := k_ahead (d + 98) σ (σ 88) h.hr h.lr h.mi h.wb
      obtain ⟨σ2, e2, p2, f2⟩ := h59_pass (d + 93) n (by omega) σ1 (σ 88) p1
      have e3 := h59_heapTells (d + 95) q (by omega) σ2 _ p2.1 p2.2.2.1
      have c1 : callD (d + 100) 77 [.ref 0, .int (nI n), .int (nI q)] σ = some (some (.int (htI (itT n (σ 88)) q)), σ2) := by
        simp only [c77, s77_0, s77_1, s77_4, s77_7, s77_8, s77_9, s77_11, s77_14, s77_17, s77_18, s77_19_o0, s77_22, s77_23, s77_24_o0, s77_27, s77_28_o0, s77_31_o1, s77_34_o59, s77_37, s77_38_o0, s77_41, s77_42, s77_43_o0, s77_46_o1, s77_49_o59, s77_52, s77_53_o0, s77_56, s77_57_o59, s77_60, k_isAhead, k_within, hvt, hwt, b2_t, e1, e2, e3, simprocAttr, if_true, if_false, true_and, and_true, false_and, and_false, not_false_eq_true, not_true_eq_false, gd_T, kont_i, kont_v]
      have W2 := callD_WB _ _ _ _ _ _ h.wb c1
      have g88 : σ2 88 = σ 88 := (f2 88 (by omega) (by omega)).trans (f1 88 (by omega))
      have e4 := m_aside (d + 98) σ2 W2
      have W3 := callD_WB _ _ _ _ _ _ W2 e4
      have hHot : Hot (rep σ2 90 (σ2 88)) := h.hot.of (by rw [rep_ne (by omega), f2 92 (by omega) (by omega), f1 92 (by omega)]) (by rw [rep_ne (by omega), f2 93 (by omega) (by omega), f1 93 (by omega)])
      obtain ⟨σ4, e5, g4, k4, f4⟩ := m_minutesGo (d + 89) n (by omega) (rep σ2 90 (σ2 88)) (by rw [rep_ne (by omega), g88]; exact h.mok) hHot
      rw [rep_ne (show 88 ≠ 90 by omega), g88] at g4
      have W4 := callD_WB _ _ _ _ _ _ W3 e5
      have e6 := m_ofHeap (d + 95) q (by omega) σ4
      rw [g4] at e6
      have h90 : σ4 90 = σ 88 := by rw [f4 90 (by omega) (by omega) (by omega) (by omega), rep_self, g88]
      have e7 := m_back_T (d + 97) (htI (itT n (σ 88)) q) σ4 (σ 88) h90 W4
      have c2 : callD (d + 100) 182 [.ref 87, .int (nI n), .int (nI q)] σ2 = some (some (.int (htI (itT n (σ 88)) q)), rep σ4 88 (σ 88)) := by
        simp only [c182, s182_0, s182_1, s182_4, s182_7, s182_8, s182_9, s182_11, s182_14, s182_17, s182_18, s182_20_o87, s182_23, s182_24, s182_25_o87, s182_28, s182_29_o87, s182_32, s182_35, s182_36, s182_37_o87, s182_40, s182_41, s182_42, s182_43_o87, s182_46_o87, s182_49, m_isAhead, m_within, hvt, hwt, b2_t, e4, e5, e6, e7, simprocAttr, if_true, if_false, true_and, and_true, false_and, and_false, not_false_eq_true, not_true_eq_false, gd_T, kont_i, kont_v]
      refine ⟨_, _, _, c1, c2, h.ahead (callD_WB _ _ _ _ _ _ W2 c2) (rep_self _ _ _) (fun o o1 o2 o3 o4 o5 o6 o7 o8 => ?_) (fun k hk => ?_)⟩
      · rw [rep_ne o5, f4 o o4 o5 o7 o8, rep_ne o6, f2 o o1 o2, f1 o o1]
      · rw [rep_ne (by omega), k4 k hk, rep_ne (by omega), f2 87 (by omega) (by omega), f1 87 (by omega)]
    · have hwf := eq_false hw
      refine Step_err h 1 (v := -1000001) ?_ ?_
      · simp only [c77, s77_0, s77_1, s77_4, s77_7, s77_8, s77_9, s77_11, s77_14, s77_17, s77_18, s77_19_o0, s77_22, s77_23, s77_24_o0, s77_27, s77_28_o0, s77_31_o1, s77_34_o59, s77_37, s77_38_o0, s77_41, s77_42, s77_43_o0, s77_46_o1, s77_49_o59, s77_52, s77_53_o0, s77_56, s77_57_o59, s77_60, k_isAhead, k_within, hvt, hwf, b2_t, b2_f, k_failed_1, simprocAttr, if_true, if_false, true_and, and_true, false_and, and_false, not_false_eq_true, not_true_eq_false, gd_T, kont_i, kont_v]
      · simp only [c182, s182_0, s182_1, s182_4, s182_7, s182_8, s182_9, s182_11, s182_14, s182_17, s182_18, s182_20_o87, s182_23, s182_24, s182_25_o87, s182_28, s182_29_o87, s182_32, s182_35, s182_36, s182_37_o87, s182_40, s182_41, s182_42, s182_43_o87, s182_46_o87, s182_49, m_isAhead, m_within, hvt, hwf, b2_t, b2_f, m_fin_1, simprocAttr, if_true, if_false, true_and, and_true, false_and, and_false, not_false_eq_true, not_true_eq_false, gd_T, kont_i, kont_v]
  · have hvf := eq_false hv
    refine Step_err h 1 (v := -1000001) ?_ ?_
    · simp only [c77, s77_0, s77_1, s77_4, s77_7, s77_8, s77_9, s77_11, s77_14, s77_17, s77_18, s77_19_o0, s77_22, s77_23, s77_24_o0, s77_27, s77_28_o0, s77_31_o1, s77_34_o59, s77_37, s77_38_o0, s77_41, s77_42, s77_43_o0, s77_46_o1, s77_49_o59, s77_52, s77_53_o0, s77_56, s77_57_o59, s77_60, k_isAhead, hvf, b2_f, k_failed_1, simprocAttr, if_true, if_false, true_and, and_true, false_and, and_false, not_false_eq_true, not_true_eq_false, gd_T, kont_i, kont_v]
    · simp only [c182, s182_0, s182_1, s182_4, s182_7, s182_8, s182_9, s182_11, s182_14, s182_17, s182_18, s182_20_o87, s182_23, s182_24, s182_25_o87, s182_28, s182_29_o87, s182_32, s182_35, s182_36, s182_37_o87, s182_40, s182_41, s182_42, s182_43_o87, s182_46_o87, s182_49, m_isAhead, hvf, b2_f, m_fin_1, simprocAttr, if_true, if_false, true_and, and_true, false_and, and_false, not_false_eq_true, not_true_eq_false, gd_T, kont_i, kont_v]
theorem L_gardenThen {i : Nat} {σ : Hs} (h : RR i σ) (d : Nat) (v g w : Int32) : Step d i 78 183 [.int v, .int g, .int w] σ := by
  by_cases hv : 0 ≤ v ∧ v ≤ 60
  · have hvt := eq_true hv
    by_cases hg : 0 ≤ g ∧ g ≤ 8
    · have hgt := eq_true hg
      by_cases hw : 0 ≤ w ∧ w ≤ 2
      · have hwt := eq_true hw
        obtain ⟨n, ln, rfl⟩ := ahd_n hv
        obtain ⟨q, -, lq, rfl⟩ := within_n (a := 0) (b := 2) hw rfl rfl (by omega) (by omega)
        obtain ⟨x, -, lx, rfl⟩ := within_n (a := 0) (b := 8) hg rfl rfl (by omega) (by omega)
        obtain ⟨σ1, e1, p1, f1⟩ := k_ahead (d + 98) σ (σ 88) h.hr h.lr h.mi h.wb
        obtain ⟨σ2, e2, p2, f2⟩ := h59_pass (d + 93) n (by omega) σ1 (σ 88) p1
        have e3 := h59_gardenTells (d + 98) x q (by omega) (by omega) σ2 _ p2.1
        have c1 : callD (d + 100) 78 [.ref 0, .int (nI n), .int (nI x), .int (nI q)] σ = some (some (.int (itT n (σ 88) (224 + 3 * x + q))), σ2) := by
          simp only [c78, s78_0, s78_1, s78_4, s78_7, s78_8, s78_11, s78_14, s78_15, s78_16, s78_17, s78_20, s78_23, s78_24, s78_25_o0, s78_28, s78_29, s78_30_o0, s78_33, s78_34_o0, s78_37_o1, s78_40_o59, s78_43, s78_44_o0, s78_47, s78_48, s78_49_o0, s78_52_o1, s78_55_o59, s78_58, s78_59_o0, s78_62, s78_63, s78_64_o59, s78_67, k_isAhead, k_isGarden, k_within, lt_le9, hvt, hgt, hwt, b2_t, e1, e2, e3, simprocAttr, if_true, if_false, true_and, and_true, false_and, and_false, not_false_eq_true, not_true_eq_false, gd_T, kont_i, kont_v]
        have W2 := callD_WB _ _ _ _ _ _ h.wb c1
        have g88 : σ2 88 = σ 88 := (f2 88 (by omega) (by omega)).trans (f1 88 (by omega))
        have e4 := m_aside (d + 98) σ2 W2
        have W3 := callD_WB _ _ _ _ _ _ W2 e4
        have hHot : Hot (rep σ2 90 (σ2 88)) := h.hot.of (by rw [rep_ne (by omega), f2 92 (by omega) (by omega), f1 92 (by omega)]) (by rw [rep_ne (by omega), f2 93 (by omega) (by omega), f1 93 (by omega)])
        obtain ⟨σ4, e5, g4, k4, f4⟩ := m_minutesGo (d + 89) n (by omega) (rep σ2 90 (σ2 88)) (by rw [rep_ne (by omega), g88]; exact h.mok) hHot
        rw [rep_ne (show 88 ≠ 90 by omega), g88] at g4
        have W4 := callD_WB _ _ _ _ _ _ W3 e5
        have h90 : σ4 90 = σ 88 := by rw [f4 90 (by omega) (by omega) (by omega) (by omega), rep_self, g88]
        have e7 := m_back_T (d + 97) (itT n (σ 88) (224 + 3 * x + q)) σ4 (σ 88) h90 W4
        have hix : (224 : Int32) + 3 * nI x + nI q = nI (224 + 3 * x + q) := by rw [show (224 : Int32) = nI 224 from rfl, show (3 : Int32) = nI 3 from rfl, pk_mul, nI_add, nI_add]
        have c2 : callD (d + 100) 183 [.ref 87, .int (nI n), .int (nI x), .int (nI q)] σ2 = some (some (.int (itT n (σ 88) (224 + 3 * x + q))), rep σ4 88 (σ 88)) := by
          simp only [c183, s183_0, s183_1, s183_4, s183_7, s183_8, s183_11, s183_14, s183_15, s183_16, s183_17, s183_20, s183_23, s183_24, s183_26_o87, s183_29, s183_30, s183_31_o87, s183_34, s183_35_o87, s183_38, s183_41, s183_42, s183_43_o87, s183_46, s183_47, s183_48_o87, s183_51, s183_54, s183_55, s183_56, s183_57, s183_58, s183_59, s183_60_o88, s183_61_o87, s183_64, m_isAhead, m_isGarden, m_within, hvt, hgt, hwt, b2_t, e4, e5, hix, vp_nI (show 224 + 3 * x + q < 545 by omega), cl_nI (show 224 + 3 * x + q < 2147483648 by omega), g4, e7, simprocAttr, if_true, if_false, true_and, and_true, false_and, and_false, not_false_eq_true, not_true_eq_false, gd_T, kont_i, kont_v]
        refine ⟨_, _, _, c1, c2, h.ahead (callD_WB _ _ _ _ _ _ W2 c2) (rep_self _ _ _) (fun o o1 o2 o3 o4 o5 o6 o7 o8 => ?_) (fun k hk => ?_)⟩
        · rw [rep_ne o5, f4 o o4 o5 o7 o8, rep_ne o6, f2 o o1 o2, f1 o o1]
        · rw [rep_ne (by omega), k4 k hk, rep_ne (by omega), f2 87 (by omega) (by omega), f1 87 (by omega)]
      · have hwf := eq_false hw
        refine Step_err h 1 (v := -1000001) ?_ ?_
        · simp only [c78, s78_0, s78_1, s78_4, s78_7, s78_8, s78_11, s78_14, s78_15, s78_16, s78_17, s78_20, s78_23, s78_24, s78_25_o0, s78_28, s78_29, s78_30_o0, s78_33, s78_34_o0, s78_37_o1, s78_40_o59, s78_43, s78_44_o0, s78_47, s78_48, s78_49_o0, s78_52_o1, s78_55_o59, s78_58, s78_59_o0, s78_62, s78_63, s78_64_o59, s78_67, k_isAhead, k_isGarden, k_within, lt_le9, hvt, hgt, hwf, b2_t, b2_f, k_failed_1, simprocAttr, if_true, if_false, true_and, and_true, false_and, and_false, not_false_eq_true, not_true_eq_false, gd_T, kont_i, kont_v]
        · simp only [c183, s183_0, s183_1, s183_4, s183_7, s183_8, s183_11, s183_14, s183_15, s183_16, s183_17, s183_20, s183_23, s183_24, s183_26_o87, s183_29, s183_30, s183_31_o87, s183_34, s183_35_o87, s183_38, s183_41, s183_42, s183_43_o87, s183_46, s183_47, s183_48_o87, s183_51, s183_54, s183_55, s183_56, s183_57, s183_58, s183_59, s183_60_o88, s183_61_o87, s183_64, m_isAhead, m_isGarden, m_within, hvt, hgt, hwf, b2_t, b2_f, m_fin_1, simprocAttr, if_true, if_false, true_and, and_true, false_and, and_false, not_false_eq_true, not_true_eq_false, gd_T, kont_i, kont_v]
    · have hgf := eq_false hg
      refine Step_err h 1 (v := -1000001) ?_ ?_
      · simp only [c78, s78_0, s78_1, s78_4, s78_7, s78_8, s78_11, s78_14, s78_15, s78_16, s78_17, s78_20, s78_23, s78_24, s78_25_o0, s78_28, s78_29, s78_30_o0, s78_33, s78_34_o0, s78_37_o1, s78_40_o59, s78_43, s78_44_o0, s78_47, s78_48, s78_49_o0, s78_52_o1, s78_55_o59, s78_58, s78_59_o0, s78_62, s78_63, s78_64_o59, s78_67, k_isAhead, k_isGarden, k_within, lt_le9, hvt, hgf, b2_t, b2_f, k_failed_1, simprocAttr, if_true, if_false, true_and, and_true, false_and, and_false, not_false_eq_true, not_true_eq_false, gd_T, kont_i, kont_v]
      · simp only [c183, s183_0, s183_1, s183_4, s183_7, s183_8, s183_11, s183_14, s183_15, s183_16, s183_17, s183_20, s183_23, s183_24, s183_26_o87, s183_29, s183_30, s183_31_o87, s183_34, s183_35_o87, s183_38, s183_41, s183_42, s183_43_o87, s183_46, s183_47, s183_48_o87, s183_51, s183_54, s183_55, s183_56, s183_57, s183_58, s183_59, s183_60_o88, s183_61_o87, s183_64, m_isAhead, m_isGarden, m_within, hvt, hgf, b2_t, b2_f, m_fin_1, simprocAttr, if_true, if_false, true_and, and_true, false_and, and_false, not_false_eq_true, not_true_eq_false, gd_T, kont_i, kont_v]
  · have hvf := eq_false hv
    refine Step_err h 1 (v := -1000001) ?_ ?_
    · simp only [c78, s78_0, s78_1, s78_4, s78_7, s78_8, s78_11, s78_14, s78_15, s78_16, s78_17, s78_20, s78_23, s78_24, s78_25_o0, s78_28, s78_29, s78_30_o0, s78_33, s78_34_o0, s78_37_o1, s78_40_o59, s78_43, s78_44_o0, s78_47, s78_48, s78_49_o0, s78_52_o1, s78_55_o59, s78_58, s78_59_o0, s78_62, s78_63, s78_64_o59, s78_67, k_isAhead, hvf, b2_f, k_failed_1, simprocAttr, if_true, if_false, true_and, and_true, false_and, and_false, not_false_eq_true, not_true_eq_false, gd_T, kont_i, kont_v]
    · simp only [c183, s183_0, s183_1, s183_4, s183_7, s183_8, s183_11, s183_14, s183_15, s183_16, s183_17, s183_20, s183_23, s183_24, s183_26_o87, s183_29, s183_30, s183_31_o87, s183_34, s183_35_o87, s183_38, s183_41, s183_42, s183_43_o87, s183_46, s183_47, s183_48_o87, s183_51, s183_54, s183_55, s183_56, s183_57, s183_58, s183_59, s183_60_o88, s183_61_o87, s183_64, m_isAhead, hvf, b2_f, m_fin_1, simprocAttr, if_true, if_false, true_and, and_true, false_and, and_false, not_false_eq_true, not_true_eq_false, gd_T, kont_i, kont_v]
