/-! ===== text: levels 0 and 1 ===== -/
theorem lvl_0 {σ0 τ0 : Hs} {n : Nat} {B : Nat → Nat} (hc : TPc σ0 n B) (hm : TPm τ0 n B) (E1 E2 op : Nat) (sub : ∀ a Lc Lm, a ≤ n → Lm.length ≤ a → PRz σ0 τ0 n op a Lc Lm (callD (E1 + 6) 38 [.ref 70, .int 1, .int (nI op)] (rcS σ0 a Lc false)) (callD (E2 + 3) 148 [.ref 87] (rmS τ0 a Lm false op))) (a : Nat) (Lc Lm : List Int32) (ha : a ≤ n) (hL : Lm.length ≤ a) : PRz σ0 τ0 n op a Lc Lm (callD (E1 + 7) 38 [.ref 70, .int 0, .int (nI op)] (rcS σ0 a Lc false)) (callD (E2 + 4) 147 [.ref 87] (rmS τ0 a Lm false op)) := by
  have n60 : n ≤ 60 := hc.1
  rcases sub a Lc Lm ha hL with ⟨a2, C, x1, x2, x3, x4, x5, x6⟩ | ⟨a2, X, Y, x1, x2, x5, x6⟩
  · have r := lvl_0_l hc hm E1 E2 op sub a Lc Lm hL n a2 0 C uu (by omega) x2 (by omega) x1 x3 x4
    have rc : callD (E1 + 7) 38 [.ref 70, .int 0, .int (nI op)] (rcS σ0 a Lc false) = ru (E1 + 6) 38 34 [.ref 70, .int 0, .int (nI op), .int 60, .int (nI 0), uu] [] (rcS σ0 a2 (C.map enI ++ Lc) false) := by
      simp only [c38, s38_0, s38_1, s38_2, s38_5, s38_6, s38_7_o70, s38_10, s38_11, s38_12, s38_13, s38_14, s38_15, s38_16_o70, s38_19, s38_20, s38_21, s38_24, s38_25, s38_28, s38_30, s38_31, s38_32, x5, show (0 + 1 : Int32) = 1 from rfl, n_0, simprocAttr, if_true, if_false, true_and, and_true, false_and, and_false, not_false_eq_true, not_true_eq_false, gd_T, kont_i, kont_v]
    have rm : callD (E2 + 4) 147 [.ref 87] (rmS τ0 a Lm false op) = ru (E2 + 3) 147 4 [.ref 87] [] (rmS τ0 a2 (C ++ Lm) false op) := by
      simp only [c147, s147_0, s147_1_o87, x6, simprocAttr, if_true, if_false, true_and, and_true, false_and, and_false, not_false_eq_true, not_true_eq_false, gd_T, kont_i, kont_v]
    rw [rc, rm]
    exact r
  · have fw2 : rcS σ0 a2 X true 70 4 = 1 := rc_w _ _ _ _
    have one : ((1 : Int32) = 0) = False := eq_false (by decide)
    have g : ((60 : Int32) ≤ 0) = False := eq_false (by decide)
    have mt2 : callD (E2 + 3) 145 [.ref 87, .int 124] _ = _ := m_takes_t (E2 + 1) τ0 a2 (by omega) Y op 124 (by omega)
    refine Or.inr ⟨a2, X, Y, x1, x2, ?_, ?_⟩
    · simp only [c38, s38_0, s38_1, s38_2, s38_5, s38_6, s38_7_o70, s38_10, s38_11, s38_12, s38_13, s38_14, s38_15, s38_16_o70, s38_19, s38_20, s38_21, s38_24, s38_25, s38_28, s38_30, s38_31, s38_32, s38_34, s38_36, s38_37, s38_40, s38_41_o70, s38_44, s38_105, x5, show (0 + 1 : Int32) = 1 from rfl, g, fw2, one, simprocAttr, if_true, if_false, true_and, and_true, false_and, and_false, not_false_eq_true, not_true_eq_false, gd_T, kont_i, kont_v]
    · simp only [c147, s147_0, s147_1_o87, s147_4, s147_5, s147_7_o87, s147_10, s147_13, s147_14_o87, s147_17, s147_18, s147_21_o87, s147_24, s147_27, x6, mt2, simprocAttr, if_true, if_false, true_and, and_true, false_and, and_false, not_false_eq_true, not_true_eq_false, gd_T, kont_i, kont_v]
theorem lvl_1 {σ0 τ0 : Hs} {n : Nat} {B : Nat → Nat} (hc : TPc σ0 n B) (hm : TPm τ0 n B) (E1 E2 op : Nat) (sub : ∀ a Lc Lm, a ≤ n → Lm.length ≤ a → PRz σ0 τ0 n op a Lc Lm (callD (E1 + 6) 38 [.ref 70, .int 2, .int (nI op)] (rcS σ0 a Lc false)) (callD (E2 + 3) 149 [.ref 87] (rmS τ0 a Lm false op))) (a : Nat) (Lc Lm : List Int32) (ha : a ≤ n) (hL : Lm.length ≤ a) : PRz σ0 τ0 n op a Lc Lm (callD (E1 + 7) 38 [.ref 70, .int 1, .int (nI op)] (rcS σ0 a Lc false)) (callD (E2 + 4) 148 [.ref 87] (rmS τ0 a Lm false op)) := by
  have n60 : n ≤ 60 := hc.1
  rcases sub a Lc Lm ha hL with ⟨a2, C, x1, x2, x3, x4, x5, x6⟩ | ⟨a2, X, Y, x1, x2, x5, x6⟩
  · have r := lvl_1_l hc hm E1 E2 op sub a Lc Lm hL n a2 0 C uu (by omega) x2 (by omega) x1 x3 x4
    have rc : callD (E1 + 7) 38 [.ref 70, .int 1, .int (nI op)] (rcS σ0 a Lc false) = ru (E1 + 6) 38 34 [.ref 70, .int 1, .int (nI op), .int 60, .int (nI 0), uu] [] (rcS σ0 a2 (C.map enI ++ Lc) false) := by
      simp only [c38, s38_0, s38_1, s38_2, s38_5, s38_6, s38_7_o70, s38_10, s38_11, s38_12, s38_13, s38_14, s38_15, s38_16_o70, s38_19, s38_20, s38_21, s38_24, s38_25, s38_28, s38_30, s38_31, s38_32, x5, show (1 + 1 : Int32) = 2 from rfl, n_0, simprocAttr, if_true, if_false, true_and, and_true, false_and, and_false, not_false_eq_true, not_true_eq_false, gd_T, kont_i, kont_v]
    have rm : callD (E2 + 4) 148 [.ref 87] (rmS τ0 a Lm false op) = ru (E2 + 3) 148 4 [.ref 87] [] (rmS τ0 a2 (C ++ Lm) false op) := by
      simp only [c148, s148_0, s148_1_o87, x6, simprocAttr, if_true, if_false, true_and, and_true, false_and, and_false, not_false_eq_true, not_true_eq_false, gd_T, kont_i, kont_v]
    rw [rc, rm]
    exact r
  · have fw2 : rcS σ0 a2 X true 70 4 = 1 := rc_w _ _ _ _
    have one : ((1 : Int32) = 0) = False := eq_false (by decide)
    have g : ((60 : Int32) ≤ 0) = False := eq_false (by decide)
    have mt2 : callD (E2 + 3) 145 [.ref 87, .int 38] _ = _ := m_takes_t (E2 + 1) τ0 a2 (by omega) Y op 38 (by omega)
    refine Or.inr ⟨a2, X, Y, x1, x2, ?_, ?_⟩
    · simp only [c38, s38_0, s38_1, s38_2, s38_5, s38_6, s38_7_o70, s38_10, s38_11, s38_12, s38_13, s38_14, s38_15, s38_16_o70, s38_19, s38_20, s38_21, s38_24, s38_25, s38_28, s38_30, s38_31, s38_32, s38_34, s38_36, s38_37, s38_40, s38_41_o70, s38_44, s38_105, x5, show (1 + 1 : Int32) = 2 from rfl, g, fw2, one, simprocAttr, if_true, if_false, true_and, and_true, false_and, and_false, not_false_eq_true, not_true_eq_false, gd_T, kont_i, kont_v]
    · simp only [c148, s148_0, s148_1_o87, s148_4, s148_5, s148_7_o87, s148_10, s148_13, s148_14_o87, s148_17, s148_18, s148_21_o87, s148_24, s148_27, x6, mt2, simprocAttr, if_true, if_false, true_and, and_true, false_and, and_false, not_false_eq_true, not_true_eq_false, gd_T, kont_i, kont_v]
