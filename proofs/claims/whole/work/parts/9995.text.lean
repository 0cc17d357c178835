/-! ===== text: level 2 ===== -/
theorem sg_2_60 {τ0 : Hs} {n : Nat} {B : Nat → Nat} (hm : TPm τ0 n B) (E2 op a : Nat) (an : a < n) (be : B a = 60) (L : List Int32) (l1 : Value) : ru (E2 + 3) 149 4 [.ref 87, l1] [] (rmS τ0 a L false op) = ru (E2 + 3) 149 51 [.ref 87, .int 20002] [] (rmS τ0 (a + 1) L false op) := by
  have n60 : n ≤ 60 := hm.1
  have one : ((1 : Int32) = 0) = False := eq_false (by decide)
  have t0 : callD (E2 + 3) 145 [.ref 87, .int 60] (rmS τ0 a L false op) = _ := m_takes_y (E2 + 1) τ0 a n B (by omega) hm L op 60 an be
  simp only [s149_4, s149_5, s149_7_o87, s149_10, s149_13, s149_16, s149_19, s149_20, s149_22_o87, s149_25, s149_28, s149_31, s149_34, s149_35, s149_37_o87, s149_40, s149_43, s149_46, s149_49, s149_50, t0, one, simprocAttr, if_true, if_false, true_and, and_true, false_and, and_false, not_false_eq_true, not_true_eq_false, gd_T, kont_i, kont_v]
theorem sg_2_61 {τ0 : Hs} {n : Nat} {B : Nat → Nat} (hm : TPm τ0 n B) (E2 op a : Nat) (an : a < n) (be : B a = 61) (L : List Int32) (l1 : Value) : ru (E2 + 3) 149 4 [.ref 87, l1] [] (rmS τ0 a L false op) = ru (E2 + 3) 149 51 [.ref 87, .int 20003] [] (rmS τ0 (a + 1) L false op) := by
  have n60 : n ≤ 60 := hm.1
  have one : ((1 : Int32) = 0) = False := eq_false (by decide)
  have t0 : callD (E2 + 3) 145 [.ref 87, .int 60] (rmS τ0 a L false op) = _ := m_takes_n (E2 + 1) τ0 a n B (by omega) hm L op 60 (by omega) (fun q => by rw [be] at q; exact absurd q.2 (by decide))
  have t1 : callD (E2 + 3) 145 [.ref 87, .int 61] (rmS τ0 a L false op) = _ := m_takes_y (E2 + 1) τ0 a n B (by omega) hm L op 61 an be
  simp only [s149_4, s149_5, s149_7_o87, s149_10, s149_13, s149_16, s149_19, s149_20, s149_22_o87, s149_25, s149_28, s149_31, s149_34, s149_35, s149_37_o87, s149_40, s149_43, s149_46, s149_49, s149_50, t0, t1, one, simprocAttr, if_true, if_false, true_and, and_true, false_and, and_false, not_false_eq_true, not_true_eq_false, gd_T, kont_i, kont_v]
theorem sg_2_62 {τ0 : Hs} {n : Nat} {B : Nat → Nat} (hm : TPm τ0 n B) (E2 op a : Nat) (an : a < n) (be : B a = 62) (L : List Int32) (l1 : Value) : ru (E2 + 3) 149 4 [.ref 87, l1] [] (rmS τ0 a L false op) = ru (E2 + 3) 149 51 [.ref 87, .int 20004] [] (rmS τ0 (a + 1) L false op) := by
  have n60 : n ≤ 60 := hm.1
  have one : ((1 : Int32) = 0) = False := eq_false (by decide)
  have t0 : callD (E2 + 3) 145 [.ref 87, .int 60] (rmS τ0 a L false op) = _ := m_takes_n (E2 + 1) τ0 a n B (by omega) hm L op 60 (by omega) (fun q => by rw [be] at q; exact absurd q.2 (by decide))
  have t1 : callD (E2 + 3) 145 [.ref 87, .int 61] (rmS τ0 a L false op) = _ := m_takes_n (E2 + 1) τ0 a n B (by omega) hm L op 61 (by omega) (fun q => by rw [be] at q; exact absurd q.2 (by decide))
  have t2 : callD (E2 + 3) 145 [.ref 87, .int 62] (rmS τ0 a L false op) = _ := m_takes_y (E2 + 1) τ0 a n B (by omega) hm L op 62 an be
  simp only [s149_4, s149_5, s149_7_o87, s149_10, s149_13, s149_16, s149_19, s149_20, s149_22_o87, s149_25, s149_28, s149_31, s149_34, s149_35, s149_37_o87, s149_40, s149_43, s149_46, s149_49, s149_50, t0, t1, t2, one, simprocAttr, if_true, if_false, true_and, and_true, false_and, and_false, not_false_eq_true, not_true_eq_false, gd_T, kont_i, kont_v]
theorem sg_2_n {τ0 : Hs} {n : Nat} {B : Nat → Nat} (hm : TPm τ0 n B) (E2 op a : Nat) (ha : a ≤ n) (ne : ¬ (a < n ∧ (B a = 60 ∨ B a = 61 ∨ B a = 62))) (L : List Int32) (l1 : Value) : ru (E2 + 3) 149 4 [.ref 87, l1] [] (rmS τ0 a L false op) = some (none, rmS τ0 a L false op) := by
  have n60 : n ≤ 60 := hm.1
  have t0 : callD (E2 + 3) 145 [.ref 87, .int 60] (rmS τ0 a L false op) = _ := m_takes_n (E2 + 1) τ0 a n B (by omega) hm L op 60 (by omega) (fun q => ne ⟨q.1, by simp only [q.2]; omega⟩)
  have t1 : callD (E2 + 3) 145 [.ref 87, .int 61] (rmS τ0 a L false op) = _ := m_takes_n (E2 + 1) τ0 a n B (by omega) hm L op 61 (by omega) (fun q => ne ⟨q.1, by simp only [q.2]; omega⟩)
  have t2 : callD (E2 + 3) 145 [.ref 87, .int 62] (rmS τ0 a L false op) = _ := m_takes_n (E2 + 1) τ0 a n B (by omega) hm L op 62 (by omega) (fun q => ne ⟨q.1, by simp only [q.2]; omega⟩)
  simp only [s149_4, s149_5, s149_7_o87, s149_10, s149_13, s149_16, s149_19, s149_20, s149_22_o87, s149_25, s149_28, s149_31, s149_34, s149_35, s149_37_o87, s149_40, s149_43, s149_46, s149_49, s149_50, s149_51, s149_52, s149_55, s149_56_o87, s149_59, s149_60, s149_61_o87, s149_64, t0, t1, t2, Int32.le_refl, simprocAttr, if_true, if_false, true_and, and_true, false_and, and_false, not_false_eq_true, not_true_eq_false, gd_T, kont_i, kont_v]
theorem sg_2_w {τ0 : Hs} (E2 op a : Nat) (ha : a ≤ 60) (L : List Int32) (l1 : Value) : ru (E2 + 3) 149 4 [.ref 87, l1] [] (rmS τ0 a L true op) = some (none, rmS τ0 a L true op) := by
  have t0 : callD (E2 + 3) 145 [.ref 87, .int 60] (rmS τ0 a L true op) = _ := m_takes_t (E2 + 1) τ0 a ha L op 60 (by omega)
  have t1 : callD (E2 + 3) 145 [.ref 87, .int 61] (rmS τ0 a L true op) = _ := m_takes_t (E2 + 1) τ0 a ha L op 61 (by omega)
  have t2 : callD (E2 + 3) 145 [.ref 87, .int 62] (rmS τ0 a L true op) = _ := m_takes_t (E2 + 1) τ0 a ha L op 62 (by omega)
  simp only [s149_4, s149_5, s149_7_o87, s149_10, s149_13, s149_16, s149_19, s149_20, s149_22_o87, s149_25, s149_28, s149_31, s149_34, s149_35, s149_37_o87, s149_40, s149_43, s149_46, s149_49, s149_50, s149_51, s149_52, s149_55, s149_56_o87, s149_59, s149_60, s149_61_o87, s149_64, t0, t1, t2, Int32.le_refl, simprocAttr, if_true, if_false, true_and, and_true, false_and, and_false, not_false_eq_true, not_true_eq_false, gd_T, kont_i, kont_v]
theorem lvl_2 {σ0 τ0 : Hs} {n : Nat} {B : Nat → Nat} (hc : TPc σ0 n B) (hm : TPm τ0 n B) (E1 E2 op : Nat) (sub : ∀ a Lc Lm, a ≤ n → Lm.length ≤ a → PRz σ0 τ0 n op a Lc Lm (callD (E1 + 6) 38 [.ref 70, .int 3, .int (nI op)] (rcS σ0 a Lc false)) (callD (E2 + 3) 150 [.ref 87] (rmS τ0 a Lm false op))) (a0 : Nat) (Lc Lm : List Int32) (ha0 : a0 ≤ n) (hL : Lm.length ≤ a0) : PRz σ0 τ0 n op a0 Lc Lm (callD (E1 + 7) 38 [.ref 70, .int 2, .int (nI op)] (rcS σ0 a0 Lc false)) (callD (E2 + 4) 149 [.ref 87] (rmS τ0 a0 Lm false op)) := by
  have n60 : n ≤ 60 := hc.1
  have one : ((1 : Int32) = 0) = False := eq_false (by decide)
  have g : ((1 : Int32) ≤ 0) = False := eq_false (by decide)
  rcases sub a0 Lc Lm ha0 hL with ⟨a, C, h0, ha, hC, hw, y5, y6⟩ | ⟨a2, X, Y, x1, x2, x5, x6⟩
  · have rc : callD (E1 + 7) 38 [.ref 70, .int 2, .int (nI op)] (rcS σ0 a0 Lc false) = ru (E1 + 6) 38 34 [.ref 70, .int 2, .int (nI op), .int 1, .int 0, uu] [] (rcS σ0 a (C.map enI ++ Lc) false) := by
      simp only [c38, s38_0, s38_1, s38_2, s38_5, s38_6, s38_7_o70, s38_10, s38_11, s38_12, s38_13, s38_14, s38_15, s38_16_o70, s38_19, s38_20, s38_21, s38_24, s38_25, s38_28, s38_30, s38_31, s38_32, y5, show (2 + 1 : Int32) = 3 from rfl, simprocAttr, if_true, if_false, true_and, and_true, false_and, and_false, not_false_eq_true, not_true_eq_false, gd_T, kont_i, kont_v]
    have rm : callD (E2 + 4) 149 [.ref 87] (rmS τ0 a0 Lm false op) = ru (E2 + 3) 149 4 [.ref 87, uu] [] (rmS τ0 a (C ++ Lm) false op) := by
      simp only [c149, s149_0, s149_1_o87, y6, simprocAttr, if_true, if_false, true_and, and_true, false_and, and_false, not_false_eq_true, not_true_eq_false, gd_T, kont_i, kont_v]
    rw [rc, rm]
    have fw : rcS σ0 a (C.map enI ++ Lc) false 70 4 = 0 := rc_w _ _ _ _
    have f3 := rc_at σ0 a (C.map enI ++ Lc) false
    have sa := rc_sa σ0 a (a + 1) (C.map enI ++ Lc) false
    have n1 := nI_1 a
    have kn := k_next (E1 + 4) σ0 a n B (by omega) hc (C.map enI ++ Lc) false
    by_cases hne : a < n ∧ (B a = 60 ∨ B a = 61 ∨ B a = 62)
    · obtain ⟨an, bs⟩ := hne
      have su := sub (a + 1) (C.map enI ++ Lc) (C ++ Lm) (by omega) (by rw [List.length_append]; omega)
      rcases bs with be | be | be
      · have ec : chN B n a = 60 := by unfold chN; rw [if_pos an, be]
        have ix := ix_116 E1 60 (by omega) (rcS σ0 a (C.map enI ++ Lc) false)
        rw [ec] at kn
        have kn : callD (E1 + 6) 37 [.ref 70] (rcS σ0 a (C.map enI ++ Lc) false) = some (some (.int 60), _) := kn
        have ix : callD (E1 + 6) 221 [.ref 116, .int 60] (rcS σ0 a (C.map enI ++ Lc) false) = some (some (.int 0), _) := ix
        have g1 : ((0 : Int32) < 0) = False := eq_false (by decide)
        have g2 : ((20002 : Int32) ≤ 0) = False := eq_false (by decide)
        have ms := sg_2_60 hm E2 op a an be (C ++ Lm) uu
        rcases su with ⟨a2, C2, x1, x2, x3, x4, x5, x6⟩ | ⟨a2, X, Y, x1, x2, x5, x6⟩
        · obtain ⟨bb, had⟩ := rc_add (E1 + 5) σ0 a2 (C2.map enI ++ (C.map enI ++ Lc)) false 20060
          have hco := m_codes_f (E2 + 2) τ0 a2 (C2 ++ (C ++ Lm)) op 20002 (by rw [List.length_append, List.length_append]; omega)
          have e1 : ((20002 :: (C2 ++ C)).map enI ++ Lc : List Int32) = 20060 :: (C2.map enI ++ (C.map enI ++ Lc)) := by
            rw [List.map_cons, List.map_append, List.cons_append, List.append_assoc]
            rfl
          have e2 : ((20002 :: (C2 ++ C)) ++ Lm : List Int32) = 20002 :: (C2 ++ (C ++ Lm)) := by
            rw [List.cons_append, List.append_assoc]
          refine Or.inl ⟨a2, 20002 :: (C2 ++ C), by omega, x2, by rw [List.length_cons, List.length_append]; omega, wfC_2 hw x4 (by decide) (by decide), ?_, ?_⟩
          · rw [e1]
            simp only [s38_34, s38_36, s38_37, s38_40, s38_41_o70, s38_44, s38_47, s38_48, s38_51, s38_52_o70, s38_55_o114, s38_55_o115, s38_55_o116, s38_55_o117, s38_55_o118, s38_58, s38_61, s38_62_o70, s38_65, s38_67, s38_68, s38_69_o70, s38_72, s38_73, s38_74_o70, s38_77, s38_78, s38_79, s38_80, s38_81, s38_82_o70, s38_85, s38_86_o70, s38_89, s38_92, s38_94, s38_95_o71, s38_98, s38_99, s38_102, s38_105, c36, c36, s36_0, s36_1, s36_32, s36_34, s36_35, s36_37, s36_38, s36_40, s36_41, s36_43, s36_44, s36_46, g, fw, kn, ix, g1, f3, n1, up2_rep, sa, x5, had, show (2 + 1 : Int32) = 3 from rfl, show (0 + 1 : Int32) = 1 from rfl, show (20000 + 60 : Int32) = 20060 from rfl, Int32.le_refl, simprocAttr, if_true, if_false, true_and, and_true, false_and, and_false, not_false_eq_true, not_true_eq_false, gd_T, kont_i, kont_v]
          · rw [e2, ms]
            simp only [s149_51, s149_52, s149_55, s149_56_o87, s149_59, s149_60, s149_61_o87, s149_64, g2, x6, hco, simprocAttr, if_true, if_false, true_and, and_true, false_and, and_false, not_false_eq_true, not_true_eq_false, gd_T, kont_i, kont_v]
        · obtain ⟨bb, had⟩ := rc_add (E1 + 5) σ0 a2 X true 20060
          have hco := m_codes_t (E2 + 2) τ0 a2 Y op 20002
          refine Or.inr ⟨a2, 20060 :: X, Y, by omega, x2, ?_, ?_⟩
          · simp only [s38_34, s38_36, s38_37, s38_40, s38_41_o70, s38_44, s38_47, s38_48, s38_51, s38_52_o70, s38_55_o114, s38_55_o115, s38_55_o116, s38_55_o117, s38_55_o118, s38_58, s38_61, s38_62_o70, s38_65, s38_67, s38_68, s38_69_o70, s38_72, s38_73, s38_74_o70, s38_77, s38_78, s38_79, s38_80, s38_81, s38_82_o70, s38_85, s38_86_o70, s38_89, s38_92, s38_94, s38_95_o71, s38_98, s38_99, s38_102, s38_105, c36, c36, s36_0, s36_1, s36_32, s36_34, s36_35, s36_37, s36_38, s36_40, s36_41, s36_43, s36_44, s36_46, g, fw, kn, ix, g1, f3, n1, up2_rep, sa, x5, had, show (2 + 1 : Int32) = 3 from rfl, show (0 + 1 : Int32) = 1 from rfl, show (20000 + 60 : Int32) = 20060 from rfl, Int32.le_refl, simprocAttr, if_true, if_false, true_and, and_true, false_and, and_false, not_false_eq_true, not_true_eq_false, gd_T, kont_i, kont_v]
          · rw [ms]
            simp only [s149_51, s149_52, s149_55, s149_56_o87, s149_59, s149_60, s149_61_o87, s149_64, g2, x6, hco, simprocAttr, if_true, if_false, true_and, and_true, false_and, and_false, not_false_eq_true, not_true_eq_false, gd_T, kont_i, kont_v]
      · have ec : chN B n a = 61 := by unfold chN; rw [if_pos an, be]
        have ix := ix_116 E1 61 (by omega) (rcS σ0 a (C.map enI ++ Lc) false)
        rw [ec] at kn
        have kn : callD (E1 + 6) 37 [.ref 70] (rcS σ0 a (C.map enI ++ Lc) false) = some (some (.int 61), _) := kn
        have ix : callD (E1 + 6) 221 [.ref 116, .int 61] (rcS σ0 a (C.map enI ++ Lc) false) = some (some (.int 1), _) := ix
        have g1 : ((1 : Int32) < 0) = False := eq_false (by decide)
        have g2 : ((20003 : Int32) ≤ 0) = False := eq_false (by decide)
        have ms := sg_2_61 hm E2 op a an be (C ++ Lm) uu
        rcases su with ⟨a2, C2, x1, x2, x3, x4, x5, x6⟩ | ⟨a2, X, Y, x1, x2, x5, x6⟩
        · obtain ⟨bb, had⟩ := rc_add (E1 + 5) σ0 a2 (C2.map enI ++ (C.map enI ++ Lc)) false 20061
          have hco := m_codes_f (E2 + 2) τ0 a2 (C2 ++ (C ++ Lm)) op 20003 (by rw [List.length_append, List.length_append]; omega)
          have e1 : ((20003 :: (C2 ++ C)).map enI ++ Lc : List Int32) = 20061 :: (C2.map enI ++ (C.map enI ++ Lc)) := by
            rw [List.map_cons, List.map_append, List.cons_append, List.append_assoc]
            rfl
          have e2 : ((20003 :: (C2 ++ C)) ++ Lm : List Int32) = 20003 :: (C2 ++ (C ++ Lm)) := by
            rw [List.cons_append, List.append_assoc]
          refine Or.inl ⟨a2, 20003 :: (C2 ++ C), by omega, x2, by rw [List.length_cons, List.length_append]; omega, wfC_2 hw x4 (by decide) (by decide), ?_, ?_⟩
          · rw [e1]
            simp only [s38_34, s38_36, s38_37, s38_40, s38_41_o70, s38_44, s38_47, s38_48, s38_51, s38_52_o70, s38_55_o114, s38_55_o115, s38_55_o116, s38_55_o117, s38_55_o118, s38_58, s38_61, s38_62_o70, s38_65, s38_67, s38_68, s38_69_o70, s38_72, s38_73, s38_74_o70, s38_77, s38_78, s38_79, s38_80, s38_81, s38_82_o70, s38_85, s38_86_o70, s38_89, s38_92, s38_94, s38_95_o71, s38_98, s38_99, s38_102, s38_105, c36, c36, s36_0, s36_1, s36_32, s36_34, s36_35, s36_37, s36_38, s36_40, s36_41, s36_43, s36_44, s36_46, g, fw, kn, ix, g1, f3, n1, up2_rep, sa, x5, had, show (2 + 1 : Int32) = 3 from rfl, show (0 + 1 : Int32) = 1 from rfl, show (20000 + 61 : Int32) = 20061 from rfl, Int32.le_refl, simprocAttr, if_true, if_false, true_and, and_true, false_and, and_false, not_false_eq_true, not_true_eq_false, gd_T, kont_i, kont_v]
          · rw [e2, ms]
            simp only [s149_51, s149_52, s149_55, s149_56_o87, s149_59, s149_60, s149_61_o87, s149_64, g2, x6, hco, simprocAttr, if_true, if_false, true_and, and_true, false_and, and_false, not_false_eq_true, not_true_eq_false, gd_T, kont_i, kont_v]
        · obtain ⟨bb, had⟩ := rc_add (E1 + 5) σ0 a2 X true 20061
          have hco := m_codes_t (E2 + 2) τ0 a2 Y op 20003
          refine Or.inr ⟨a2, 20061 :: X, Y, by omega, x2, ?_, ?_⟩
          · simp only [s38_34, s38_36, s38_37, s38_40, s38_41_o70, s38_44, s38_47, s38_48, s38_51, s38_52_o70, s38_55_o114, s38_55_o115, s38_55_o116, s38_55_o117, s38_55_o118, s38_58, s38_61, s38_62_o70, s38_65, s38_67, s38_68, s38_69_o70, s38_72, s38_73, s38_74_o70, s38_77, s38_78, s38_79, s38_80, s38_81, s38_82_o70, s38_85, s38_86_o70, s38_89, s38_92, s38_94, s38_95_o71, s38_98, s38_99, s38_102, s38_105, c36, c36, s36_0, s36_1, s36_32, s36_34, s36_35, s36_37, s36_38, s36_40, s36_41, s36_43, s36_44, s36_46, g, fw, kn, ix, g1, f3, n1, up2_rep, sa, x5, had, show (2 + 1 : Int32) = 3 from rfl, show (0 + 1 : Int32) = 1 from rfl, show (20000 + 61 : Int32) = 20061 from rfl, Int32.le_refl, simprocAttr, if_true, if_false, true_and, and_true, false_and, and_false, not_false_eq_true, not_true_eq_false, gd_T, kont_i, kont_v]
          · rw [ms]
            simp only [s149_51, s149_52, s149_55, s149_56_o87, s149_59, s149_60, s149_61_o87, s149_64, g2, x6, hco, simprocAttr, if_true, if_false, true_and, and_true, false_and, and_false, not_false_eq_true, not_true_eq_false, gd_T, kont_i, kont_v]
      · have ec : chN B n a = 62 := by unfold chN; rw [if_pos an, be]
        have ix := ix_116 E1 62 (by omega) (rcS σ0 a (C.map enI ++ Lc) false)
        rw [ec] at kn
        have kn : callD (E1 + 6) 37 [.ref 70] (rcS σ0 a (C.map enI ++ Lc) false) = some (some (.int 62), _) := kn
        have ix : callD (E1 + 6) 221 [.ref 116, .int 62] (rcS σ0 a (C.map enI ++ Lc) false) = some (some (.int 2), _) := ix
        have g1 : ((2 : Int32) < 0) = False := eq_false (by decide)
        have g2 : ((20004 : Int32) ≤ 0) = False := eq_false (by decide)
        have ms := sg_2_62 hm E2 op a an be (C ++ Lm) uu
        rcases su with ⟨a2, C2, x1, x2, x3, x4, x5, x6⟩ | ⟨a2, X, Y, x1, x2, x5, x6⟩
        · obtain ⟨bb, had⟩ := rc_add (E1 + 5) σ0 a2 (C2.map enI ++ (C.map enI ++ Lc)) false 20062
          have hco := m_codes_f (E2 + 2) τ0 a2 (C2 ++ (C ++ Lm)) op 20004 (by rw [List.length_append, List.length_append]; omega)
          have e1 : ((20004 :: (C2 ++ C)).map enI ++ Lc : List Int32) = 20062 :: (C2.map enI ++ (C.map enI ++ Lc)) := by
            rw [List.map_cons, List.map_append, List.cons_append, List.append_assoc]
            rfl
          have e2 : ((20004 :: (C2 ++ C)) ++ Lm : List Int32) = 20004 :: (C2 ++ (C ++ Lm)) := by
            rw [List.cons_append, List.append_assoc]
          refine Or.inl ⟨a2, 20004 :: (C2 ++ C), by omega, x2, by rw [List.length_cons, List.length_append]; omega, wfC_2 hw x4 (by decide) (by decide), ?_, ?_⟩
          · rw [e1]
            simp only [s38_34, s38_36, s38_37, s38_40, s38_41_o70, s38_44, s38_47, s38_48, s38_51, s38_52_o70, s38_55_o114, s38_55_o115, s38_55_o116, s38_55_o117, s38_55_o118, s38_58, s38_61, s38_62_o70, s38_65, s38_67, s38_68, s38_69_o70, s38_72, s38_73, s38_74_o70, s38_77, s38_78, s38_79, s38_80, s38_81, s38_82_o70, s38_85, s38_86_o70, s38_89, s38_92, s38_94, s38_95_o71, s38_98, s38_99, s38_102, s38_105, c36, c36, s36_0, s36_1, s36_32, s36_34, s36_35, s36_37, s36_38, s36_40, s36_41, s36_43, s36_44, s36_46, g, fw, kn, ix, g1, f3, n1, up2_rep, sa, x5, had, show (2 + 1 : Int32) = 3 from rfl, show (0 + 1 : Int32) = 1 from rfl, show (20000 + 62 : Int32) = 20062 from rfl, Int32.le_refl, simprocAttr, if_true, if_false, true_and, and_true, false_and, and_false, not_false_eq_true, not_true_eq_false, gd_T, kont_i, kont_v]
          · rw [e2, ms]
            simp only [s149_51, s149_52, s149_55, s149_56_o87, s149_59, s149_60, s149_61_o87, s149_64, g2, x6, hco, simprocAttr, if_true, if_false, true_and, and_true, false_and, and_false, not_false_eq_true, not_true_eq_false, gd_T, kont_i, kont_v]
        · obtain ⟨bb, had⟩ := rc_add (E1 + 5) σ0 a2 X true 20062
          have hco := m_codes_t (E2 + 2) τ0 a2 Y op 20004
          refine Or.inr ⟨a2, 20062 :: X, Y, by omega, x2, ?_, ?_⟩
          · simp only [s38_34, s38_36, s38_37, s38_40, s38_41_o70, s38_44, s38_47, s38_48, s38_51, s38_52_o70, s38_55_o114, s38_55_o115, s38_55_o116, s38_55_o117, s38_55_o118, s38_58, s38_61, s38_62_o70, s38_65, s38_67, s38_68, s38_69_o70, s38_72, s38_73, s38_74_o70, s38_77, s38_78, s38_79, s38_80, s38_81, s38_82_o70, s38_85, s38_86_o70, s38_89, s38_92, s38_94, s38_95_o71, s38_98, s38_99, s38_102, s38_105, c36, c36, s36_0, s36_1, s36_32, s36_34, s36_35, s36_37, s36_38, s36_40, s36_41, s36_43, s36_44, s36_46, g, fw, kn, ix, g1, f3, n1, up2_rep, sa, x5, had, show (2 + 1 : Int32) = 3 from rfl, show (0 + 1 : Int32) = 1 from rfl, show (20000 + 62 : Int32) = 20062 from rfl, Int32.le_refl, simprocAttr, if_true, if_false, true_and, and_true, false_and, and_false, not_false_eq_true, not_true_eq_false, gd_T, kont_i, kont_v]
          · rw [ms]
            simp only [s149_51, s149_52, s149_55, s149_56_o87, s149_59, s149_60, s149_61_o87, s149_64, g2, x6, hco, simprocAttr, if_true, if_false, true_and, and_true, false_and, and_false, not_false_eq_true, not_true_eq_false, gd_T, kont_i, kont_v]
    · refine Or.inl ⟨a, C, h0, ha, hC, hw, ?_, sg_2_n hm E2 op a ha hne _ uu⟩
      have ix := ix_116 E1 (chN B n a) (ch_lt hc a) (rcS σ0 a (C.map enI ++ Lc) false)
      have y0 : ¬ chN B n a = 60 := fun q => by
        unfold chN at q
        by_cases z : a < n
        · rw [if_pos z] at q; exact hne ⟨z, by omega⟩
        · rw [if_neg z] at q; omega
      have y1 : ¬ chN B n a = 61 := fun q => by
        unfold chN at q
        by_cases z : a < n
        · rw [if_pos z] at q; exact hne ⟨z, by omega⟩
        · rw [if_neg z] at q; omega
      have y2 : ¬ chN B n a = 62 := fun q => by
        unfold chN at q
        by_cases z : a < n
        · rw [if_pos z] at q; exact hne ⟨z, by omega⟩
        · rw [if_neg z] at q; omega
      rw [show ixF [60, 61, 62] 0 (chN B n a) = -1 from by simp only [ixF, if_neg y0, if_neg y1, if_neg y2]] at ix
      have g1 : ((-1 : Int32) < 0) = True := eq_true (by decide)
      simp only [s38_34, s38_36, s38_37, s38_40, s38_41_o70, s38_44, s38_47, s38_48, s38_51, s38_52_o70, s38_55_o114, s38_55_o115, s38_55_o116, s38_55_o117, s38_55_o118, s38_58, s38_105, c36, c36, s36_0, s36_1, s36_32, s36_34, s36_35, s36_37, s36_38, s36_40, s36_41, s36_43, s36_44, s36_46, g, fw, kn, ix, g1, simprocAttr, if_true, if_false, true_and, and_true, false_and, and_false, not_false_eq_true, not_true_eq_false, gd_T, kont_i, kont_v]
  · have fw2 : rcS σ0 a2 X true 70 4 = 1 := rc_w _ _ _ _
    have ms := sg_2_w (τ0 := τ0) E2 op a2 (by omega) Y uu
    refine Or.inr ⟨a2, X, Y, x1, x2, ?_, ?_⟩
    · simp only [c38, s38_0, s38_1, s38_2, s38_5, s38_6, s38_7_o70, s38_10, s38_11, s38_12, s38_13, s38_14, s38_15, s38_16_o70, s38_19, s38_20, s38_21, s38_24, s38_25, s38_28, s38_30, s38_31, s38_32, s38_34, s38_36, s38_37, s38_40, s38_41_o70, s38_44, s38_105, x5, show (2 + 1 : Int32) = 3 from rfl, g, fw2, one, simprocAttr, if_true, if_false, true_and, and_true, false_and, and_false, not_false_eq_true, not_true_eq_false, gd_T, kont_i, kont_v]
    · simp only [c149, s149_0, s149_1_o87, x6, simprocAttr, if_true, if_false, true_and, and_true, false_and, and_false, not_false_eq_true, not_true_eq_false, gd_T, kont_i, kont_v]
      exact ms
