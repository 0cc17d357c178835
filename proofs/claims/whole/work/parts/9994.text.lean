/-! ===== text: levels 3 and 4, from the level below ===== -/
theorem sgq_3 {τ0 : Hs} {n : Nat} {B : Nat → Nat} (hm : TPm τ0 n B) (E2 op a : Nat) (ha : a ≤ n) (L : List Int32) (l1 k1 : Value) : ru (E2 + 3) 150 4 [.ref 87, l1] [] (rmS τ0 a L false op) = ru (E2 + 3) 150 49 [.ref 87, k1] [] (rmS τ0 a L false op) := by
  by_cases hne : a < n ∧ (B a = 43 ∨ B a = 45)
  · obtain ⟨an, bs⟩ := hne
    rcases bs with be | be
    · rw [sg_3_4_43 hm E2 op a an be L l1, sg_3_49_43 hm E2 op a an be L k1]
    · rw [sg_3_4_45 hm E2 op a an be L l1, sg_3_49_45 hm E2 op a an be L k1]
  · rw [sg_3_4_n hm E2 op a ha hne L l1, sg_3_49_n hm E2 op a ha hne L k1]
theorem lvl_3 {σ0 τ0 : Hs} {n : Nat} {B : Nat → Nat} (hc : TPc σ0 n B) (hm : TPm τ0 n B) (E1 E2 op : Nat) (sub : ∀ a Lc Lm, a ≤ n → Lm.length ≤ a → PRz σ0 τ0 n op a Lc Lm (callD (E1 + 6) 38 [.ref 70, .int 4, .int (nI op)] (rcS σ0 a Lc false)) (callD (E2 + 3) 151 [.ref 87] (rmS τ0 a Lm false op))) (a : Nat) (Lc Lm : List Int32) (ha : a ≤ n) (hL : Lm.length ≤ a) : PRz σ0 τ0 n op a Lc Lm (callD (E1 + 7) 38 [.ref 70, .int 3, .int (nI op)] (rcS σ0 a Lc false)) (callD (E2 + 4) 150 [.ref 87] (rmS τ0 a Lm false op)) := by
  have n60 : n ≤ 60 := hc.1
  rcases sub a Lc Lm ha hL with ⟨a2, C, x1, x2, x3, x4, x5, x6⟩ | ⟨a2, X, Y, x1, x2, x5, x6⟩
  · have r := lvl_3_l hc hm E1 E2 op sub a Lc Lm hL n a2 0 C uu uu (by omega) x2 (by omega) x1 x3 x4
    have rc : callD (E1 + 7) 38 [.ref 70, .int 3, .int (nI op)] (rcS σ0 a Lc false) = ru (E1 + 6) 38 34 [.ref 70, .int 3, .int (nI op), .int 60, .int (nI 0), uu] [] (rcS σ0 a2 (C.map enI ++ Lc) false) := by
      simp only [c38, s38_0, s38_1, s38_2, s38_5, s38_6, s38_7_o70, s38_10, s38_11, s38_12, s38_13, s38_14, s38_15, s38_16_o70, s38_19, s38_20, s38_21, s38_24, s38_25, s38_28, s38_30, s38_31, s38_32, x5, show (3 + 1 : Int32) = 4 from rfl, n_0, simprocAttr, if_true, if_false, true_and, and_true, false_and, and_false, not_false_eq_true, not_true_eq_false, gd_T, kont_i, kont_v]
    have rm : callD (E2 + 4) 150 [.ref 87] (rmS τ0 a Lm false op) = ru (E2 + 3) 150 4 [.ref 87, uu] [] (rmS τ0 a2 (C ++ Lm) false op) := by
      simp only [c150, s150_0, s150_1_o87, x6, simprocAttr, if_true, if_false, true_and, and_true, false_and, and_false, not_false_eq_true, not_true_eq_false, gd_T, kont_i, kont_v]
    rw [rc, rm, sgq_3 hm E2 op a2 x2 (C ++ Lm) uu uu]
    exact r
  · have fw2 : rcS σ0 a2 X true 70 4 = 1 := rc_w _ _ _ _
    have one : ((1 : Int32) = 0) = False := eq_false (by decide)
    have g : ((60 : Int32) ≤ 0) = False := eq_false (by decide)
    have ms := sg_3_4_w (τ0 := τ0) E2 op a2 (by omega) Y uu
    refine Or.inr ⟨a2, X, Y, x1, x2, ?_, ?_⟩
    · simp only [c38, s38_0, s38_1, s38_2, s38_5, s38_6, s38_7_o70, s38_10, s38_11, s38_12, s38_13, s38_14, s38_15, s38_16_o70, s38_19, s38_20, s38_21, s38_24, s38_25, s38_28, s38_30, s38_31, s38_32, s38_34, s38_36, s38_37, s38_40, s38_41_o70, s38_44, s38_105, x5, show (3 + 1 : Int32) = 4 from rfl, g, fw2, one, simprocAttr, if_true, if_false, true_and, and_true, false_and, and_false, not_false_eq_true, not_true_eq_false, gd_T, kont_i, kont_v]
    · simp only [c150, s150_0, s150_1_o87, x6, simprocAttr, if_true, if_false, true_and, and_true, false_and, and_false, not_false_eq_true, not_true_eq_false, gd_T, kont_i, kont_v]
      exact ms
theorem sgq_4 {τ0 : Hs} {n : Nat} {B : Nat → Nat} (hm : TPm τ0 n B) (E2 op a : Nat) (ha : a ≤ n) (L : List Int32) (l1 k1 : Value) : ru (E2 + 3) 151 4 [.ref 87, l1] [] (rmS τ0 a L false op) = ru (E2 + 3) 151 64 [.ref 87, k1] [] (rmS τ0 a L false op) := by
  by_cases hne : a < n ∧ (B a = 42 ∨ B a = 47 ∨ B a = 37)
  · obtain ⟨an, bs⟩ := hne
    rcases bs with be | be | be
    · rw [sg_4_4_42 hm E2 op a an be L l1, sg_4_64_42 hm E2 op a an be L k1]
    · rw [sg_4_4_47 hm E2 op a an be L l1, sg_4_64_47 hm E2 op a an be L k1]
    · rw [sg_4_4_37 hm E2 op a an be L l1, sg_4_64_37 hm E2 op a an be L k1]
  · rw [sg_4_4_n hm E2 op a ha hne L l1, sg_4_64_n hm E2 op a ha hne L k1]
theorem lvl_4 {σ0 τ0 : Hs} {n : Nat} {B : Nat → Nat} (hc : TPc σ0 n B) (hm : TPm τ0 n B) (E1 E2 op : Nat) (sub : ∀ a Lc Lm, a ≤ n → Lm.length ≤ a → PRz σ0 τ0 n op a Lc Lm (callD (E1 + 6) 38 [.ref 70, .int 5, .int (nI op)] (rcS σ0 a Lc false)) (callD (E2 + 3) 153 [.ref 87] (rmS τ0 a Lm false op))) (a : Nat) (Lc Lm : List Int32) (ha : a ≤ n) (hL : Lm.length ≤ a) : PRz σ0 τ0 n op a Lc Lm (callD (E1 + 7) 38 [.ref 70, .int 4, .int (nI op)] (rcS σ0 a Lc false)) (callD (E2 + 4) 151 [.ref 87] (rmS τ0 a Lm false op)) := by
  have n60 : n ≤ 60 := hc.1
  rcases sub a Lc Lm ha hL with ⟨a2, C, x1, x2, x3, x4, x5, x6⟩ | ⟨a2, X, Y, x1, x2, x5, x6⟩
  · have r := lvl_4_l hc hm E1 E2 op sub a Lc Lm hL n a2 0 C uu uu (by omega) x2 (by omega) x1 x3 x4
    have rc : callD (E1 + 7) 38 [.ref 70, .int 4, .int (nI op)] (rcS σ0 a Lc false) = ru (E1 + 6) 38 34 [.ref 70, .int 4, .int (nI op), .int 60, .int (nI 0), uu] [] (rcS σ0 a2 (C.map enI ++ Lc) false) := by
      simp only [c38, s38_0, s38_1, s38_2, s38_5, s38_6, s38_7_o70, s38_10, s38_11, s38_12, s38_13, s38_14, s38_15, s38_16_o70, s38_19, s38_20, s38_21, s38_24, s38_25, s38_28, s38_30, s38_31, s38_32, x5, show (4 + 1 : Int32) = 5 from rfl, n_0, simprocAttr, if_true, if_false, true_and, and_true, false_and, and_false, not_false_eq_true, not_true_eq_false, gd_T, kont_i, kont_v]
    have rm : callD (E2 + 4) 151 [.ref 87] (rmS τ0 a Lm false op) = ru (E2 + 3) 151 4 [.ref 87, uu] [] (rmS τ0 a2 (C ++ Lm) false op) := by
      simp only [c151, s151_0, s151_1_o87, x6, simprocAttr, if_true, if_false, true_and, and_true, false_and, and_false, not_false_eq_true, not_true_eq_false, gd_T, kont_i, kont_v]
    rw [rc, rm, sgq_4 hm E2 op a2 x2 (C ++ Lm) uu uu]
    exact r
  · have fw2 : rcS σ0 a2 X true 70 4 = 1 := rc_w _ _ _ _
    have one : ((1 : Int32) = 0) = False := eq_false (by decide)
    have g : ((60 : Int32) ≤ 0) = False := eq_false (by decide)
    have ms := sg_4_4_w (τ0 := τ0) E2 op a2 (by omega) Y uu
    refine Or.inr ⟨a2, X, Y, x1, x2, ?_, ?_⟩
    · simp only [c38, s38_0, s38_1, s38_2, s38_5, s38_6, s38_7_o70, s38_10, s38_11, s38_12, s38_13, s38_14, s38_15, s38_16_o70, s38_19, s38_20, s38_21, s38_24, s38_25, s38_28, s38_30, s38_31, s38_32, s38_34, s38_36, s38_37, s38_40, s38_41_o70, s38_44, s38_105, x5, show (4 + 1 : Int32) = 5 from rfl, g, fw2, one, simprocAttr, if_true, if_false, true_and, and_true, false_and, and_false, not_false_eq_true, not_true_eq_false, gd_T, kont_i, kont_v]
    · simp only [c151, s151_0, s151_1_o87, x6, simprocAttr, if_true, if_false, true_and, and_true, false_and, and_false, not_false_eq_true, not_true_eq_false, gd_T, kont_i, kont_v]
      exact ms
