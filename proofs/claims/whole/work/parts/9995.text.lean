/-! ===== text: level 2 ===== -/
theorem sg_2_60 {τ0 : Hs} {n : Nat} {B : Nat → Nat} (hm : TPm τ0 n B) (E2 op a : Nat) (an : a < n) (be : B a = 60) (L : List Int32) (l1 : Value) : ru (E2 + 3) 150 4 [.ref 87, l1] [] (rmS τ0 a L false op) = ru (E2 + 3) 150 51 [.ref 87, .int 20002] [] (rmS τ0 (a + 1) L false op) := by
  have n60 : n ≤ 60 := hm.1
  have one : ((1 : Int32) = 0) = False := eq_false (by decide)
  have t0 : callD (E2 + 3) 146 [.ref 87, .int 60] (rmS τ0 a L false op) = _ := m_takes_y (E2 + 1) τ0 a n B (by omega) hm L op 60 an be
  simp only [s150_4, s150_5, s150_7_o87, s150_10, s150_13, s150_16, s150_19, s150_20, s150_22_o87, s150_25, s150_28, s150_31, s150_34, s150_35, s150_37_o87, s150_40, s150_43, s150_46, s150_49, s150_50, t0, one, simprocAttr, if_true, if_false, true_and, and_true, false_and, and_false, not_false_eq_true, not_true_eq_false, gd_T, kont_i, kont_v]
theorem sg_2_61 {τ0 : Hs} {n : Nat} {B : Nat → Nat} (hm : TPm τ0 n B) (E2 op a : Nat) (an : a < n) (be : B a = 61) (L : List Int32) (l1 : Value) : ru (E2 + 3) 150 4 [.ref 87, l1] [] (rmS τ0 a L false op) = ru (E2 + 3) 150 51 [.ref 87, .int 20003] [] (rmS τ0 (a + 1) L false op) := by
  have n60 : n ≤ 60 := hm.1
  have one : ((1 : Int32) = 0) = False := eq_false (by decide)
  have t0 : callD (E2 + 3) 146 [.ref 87, .int 60] (rmS τ0 a L false op) = _ := m_takes_n (E2 + 1) τ0 a n B (by omega) hm L op 60 (by omega) (fun q => by rw [be] at q; exact absurd q.2 (by decide))
  have t1 : callD (E2 + 3) 146 [.ref 87, .int 61] (rmS τ0 a L false op) = _ := m_takes_y (E2 + 1) τ0 a n B (by omega) hm L op 61 an be
  simp only [s150_4, s150_5, s150_7_o87, s150_10, s150_13, s150_16, s150_19, s150_20, s150_22_o87, s150_25, s150_28, s150_31, s150_34, s150_35, s150_37_o87, s150_40, s150_43, s150_46, s150_49, s150_50, t0, t1, one, simprocAttr, if_true, if_false, true_and, and_true, false_and, and_false, not_false_eq_true, not_true_eq_false, gd_T, kont_i, kont_v]
theorem sg_2_62 {τ0 : Hs} {n : Nat} {B : Nat → Nat} (hm : TPm τ0 n B) (E2 op a : Nat) (an : a < n) (be : B a = 62) (L : List Int32) (l1 : Value) : ru (E2 + 3) 150 4 [.ref 87, l1] [] (rmS τ0 a L false op) = ru (E2 + 3) 150 51 [.ref 87, .int 20004] [] (rmS τ0 (a + 1) L false op) := by
  have n60 : n ≤ 60 := hm.1
  have one : ((1 : Int32) = 0) = False := eq_false (by decide)
  have t0 : callD (E2 + 3) 146 [.ref 87, .int 60] (rmS τ0 a L false op) = _ := m_takes_n (E2 + 1) τ0 a n B (by omega) hm L op 60 (by omega) (fun q => by rw [be] at q; exact absurd q.2 (by decide))
  have t1 : callD (E2 + 3) 146 [.ref 87, .int 61] (rmS τ0 a L false op) = _ := m_takes_n (E2 + 1) τ0 a n B (by omega) hm L op 61 (by omega) (fun q => by rw [be] at q; exact absurd q.2 (by decide))
  have t2 : callD (E2 + 3) 146 [.ref 87, .int 62] (rmS τ0 a L false op) = _ := m_takes_y (E2 + 1) τ0 a n B (by omega) hm L op 62 an be
  simp only [s150_4, s150_5, s150_7_o87, s150_10, s150_13, s150_16, s150_19, s150_20, s150_22_o87, s150_25, s150_28, s150_31, s150_34, s150_35, s150_37_o87, s150_40, s150_43, s150_46, s150_49, s150_50, t0, t1, t2, one, simprocAttr, if_true, if_false, true_and, and_true, false_and, and_false, not_false_eq_true, not_true_eq_false, gd_T, kont_i, kont_v]
theorem sg_2_n {τ0 : Hs} {n : Nat} {B : Nat → Nat} (hm : TPm τ0 n B) (E2 op a : Nat) (ha : a ≤ n) (ne : ¬ (a < n ∧ (B a = 60 ∨ B a = 61 ∨ B a = 62))) (L : List Int32) (l1 : Value) : ru (E2 + 3) 150 4 [.ref 87, l1] [] (rmS τ0 a L false op) = some (none, rmS τ0 a L false op) := by
  have n60 : n ≤ 60 := hm.1
  have t0 : callD (E2 + 3) 146 [.ref 87, .int 60] (rmS τ0 a L false op) = _ := m_takes_n (E2 + 1) τ0 a n B (by omega) hm L op 60 (by omega) (fun q => ne ⟨q.1, by simp only [q.2]; omega⟩)
  have t1 : callD (E2 + 3) 146 [.ref 87, .int 61] (rmS τ0 a L false op) = _ := m_takes_n (E2 + 1) τ0 a n B (by omega) hm L op 61 (by omega) (fun q => ne ⟨q.1, by simp only [q.2]; omega⟩)
  have t2 : callD (E2 + 3) 146 [.ref 87, .int 62] (rmS τ0 a L false op) = _ := m_takes_n (E2 + 1) τ0 a n B (by omega) hm L op 62 (by omega) (fun q => ne ⟨q.1, by simp only [q.2]; omega⟩)
  simp only [s150_4, s150_5, s150_7_o87, s150_10, s150_13, s150_16, s150_19, s150_20, s150_22_o87, s150_25, s150_28, s150_31, s150_34, s150_35, s150_37_o87, s150_40, s150_43, s150_46, s150_49, s150_50, s150_51, s150_52, s150_55, s150_56_o87, s150_59, s150_60, s150_61_o87, s150_64, t0, t1, t2, Int32.le_refl, simprocAttr, if_true, if_false, true_and, and_true, false_and, and_false, not_false_eq_true, not_true_eq_false, gd_T, kont_i, kont_v]
theorem sg_2_w {τ0 : Hs} (E2 op a : Nat) (ha : a ≤ 60) (L : List Int32) (l1 : Value) : ru (E2 + 3) 150 4 [.ref 87, l1] [] (rmS τ0 a L true op) = some (none, rmS τ0 a L true op) := by
  have t0 : callD (E2 + 3) 146 [.ref 87, .int 60] (rmS τ0 a L true op) = _ := m_takes_t (E2 + 1) τ0 a ha L op 60 (by omega)
  have t1 : callD (E2 + 3) 146 [.ref 87, .int 61] (rmS τ0 a L true op) = _ := m_takes_t (E2 + 1) τ0 a ha L op 61 (by omega)
  have t2 : callD (E2 + 3) 146 [.ref 87, .int 62] (rmS τ0 a L true op) = _ := m_takes_t (E2 + 1) τ0 a ha L op 62 (by omega)
  simp only [s150_4, s150_5, s150_7_o87, s150_10, s150_13, s150_16, s150_19, s150_20, s150_22_o87, s150_25, s150_28, s150_31, s150_34, s150_35, s150_37_o87, s150_40, s150_43, s150_46, s150_49, s150_50, s150_51, s150_52, s150_55, s150_56_o87, s150_59, s150_60, s150_61_o87, s150_64, t0, t1, t2, Int32.le_refl, simprocAttr, if_true, if_false, true_and, and_true, false_and, and_false, not_false_eq_true, not_true_eq_false, gd_T, kont_i, kont_v]
theorem lvl_2 {σ0 τ0 : Hs} {n : Nat} {B : Nat → Nat} (hc : TPc σ0 n B) (hm : TPm τ0 n B) (E1 E2 op : Nat) (sub : ∀ a Lc Lm, a ≤ n → Lm.length ≤ a → PRz σ0 τ0 n op a Lc Lm (callD (E1 + 6) 39 [.ref 70, .int 3, .int (nI op)] (rcS σ0 a Lc false)) (callD (E2 + 3) 151 [.ref 87] (rmS τ0 a Lm false op))) (a0 : Nat) (Lc Lm : List Int32) (ha0 : a0 ≤ n) (hL : Lm.length ≤ a0) : PRz σ0 τ0 n op a0 Lc Lm (callD (E1 + 7) 39 [.ref 70, .int 2, .int (nI op)] (rcS σ0 a0 Lc false)) (callD (E2 + 4) 150 [.ref 87] (rmS τ0 a0 Lm false op)) := by
  have n60 : n ≤ 60 := hc.1
  have one : ((1 : Int32) = 0) = False := eq_false (by decide)
  have g : ((1 : Int32) ≤ 0) = False := eq_false (by decide)
  rcases sub a0 Lc Lm ha0 hL with ⟨a, C, h0, ha, hC, hw, y5, y6⟩ | ⟨a2, X, Y, x1, x2, x5, x6⟩
  · have rc : callD (E1 + 7) 39 [.ref 70, .int 2, .int (nI op)] (rcS σ0 a0 Lc false) = ru (E1 + 6) 39 34 [.ref 70, .int 2, .int (nI op), .int 1, .int 0, uu] [] (rcS σ0 a (C.map enI ++ Lc) false) := by
      simp only [c39, s39_0, s39_1, s39_2, s39_5, s39_6, s39_7_o70, s39_10, s39_11, s39_12, s39_13, s39_14, s39_15, s39_16_o70, s39_19, s39_20, s39_21, s39_24, s39_25, s39_28, s39_30, s39_31, s39_32, y5, show (2 + 1 : Int32) = 3 from rfl, simprocAttr, if_true, if_false, true_and, and_true, false_and, and_false, not_false_eq_true, not_true_eq_false, gd_T, kont_i, kont_v]
    have rm : callD (E2 + 4) 150 [.ref 87] (rmS τ0 a0 Lm false op) = ru (E2 + 3) 150 4 [.ref 87, uu] [] (rmS τ0 a (C ++ Lm) false op) := by
      simp only [c150, s150_0, s150_1_o87, y6, simprocAttr, if_true, if_false, true_and, and_true, false_and, and_false, not_false_eq_true, not_true_eq_false, gd_T, kont_i, kont_v]
    rw [rc, rm]
    have fw : rcS σ0 a (C.map enI ++ Lc) false 70 4 = 0 := rc_w _ _ _ _
    have f3 := rc_at σ0 a (C.map enI ++ Lc) false
    have sa := rc_sa σ0 a (a + 1) (C.map enI ++ Lc) false
    have n1 := nI_1 a
    have kn := k_next (E1 + 4) σ0 a n B (by omega) hc (C.map enI ++ Lc) false
    by_cases hne : a < n ∧ (B a = 60 ∨ B a = 61 ∨ B a = 62)
    · obtain ⟨an, bs⟩ := hne
      have su := sub (a + 1) (C.map enI ++ Lc) (C ++ Lm) (by omega) (by rw [List.length_append]; omega)
      rcases bs with be | be | be
      · have ec : chN B n a = 60 := by unfold chN; rw [if_pos an, be]
        have ix := ix_116 E1 60 (by omega) (rcS σ0 a (C.map enI ++ Lc) false)
        rw [ec] at kn
        have kn : callD (E1 + 6) 38 [.ref 70] (rcS σ0 a (C.map enI ++ Lc) false) = some (some (.int 60), _) := kn
        have ix : callD (E1 + 6) 222 [.ref 116, .int 60] (rcS σ0 a (C.map enI ++ Lc) false) = some (some (.int 0), _) := ix
        have g1 : ((0 : Int32) < 0) = False := eq_false (by decide)
        have g2 : ((20002 : Int32) ≤ 0) = False := eq_false (by decide)
        have ms := sg_2_60 hm E2 op a an be (C ++ Lm) uu
        rcases su with ⟨a2, C2, x1, x2, x3, x4, x5, x6⟩ | ⟨a2, X, Y, x1, x2, x5, x6⟩
        · obtain ⟨bb, had⟩ := rc_add (E1 + 5) σ0 a2 (C2.map enI ++ (C.map enI ++ Lc)) false 20060
          have hco := m_codes_f (E2 + 2) τ0 a2 (C2 ++ (C ++ Lm)) op 20002 (by rw [List.length_append, List.length_append]; omega)
          have e1 : ((20002 :: (C2 ++ C)).map enI ++ Lc : List Int32) = 20060 :: (C2.map enI ++ (C.map enI ++ Lc)) := by
            rw [List.map_cons, List.map_append, List.cons_append, List.append_assoc]
            rfl
          have e2 : ((20002 :: (C2 ++ C)) ++ Lm : List Int32) = 20002 :: (C2 ++ (C ++ Lm)) := by
            rw [List.cons_append, List.append_assoc]
          refine Or.inl ⟨a2, 20002 :: (C2 ++ C), by omega, x2, by rw [List.length_cons, List.length_append]; omega, wfC_2 hw x4 (by decide) (by decide), ?_, ?_⟩
          · rw [e1]
            simp only [s39_34, s39_36, s39_37, s39_40, s39_41_o70, s39_44, s39_47, s39_48, s39_51, s39_52_o70, s39_55_o114, s39_55_o115, s39_55_o116, s39_55_o117, s39_55_o118, s39_58, s39_61, s39_62_o70, s39_65, s39_67, s39_68, s39_69_o70, s39_72, s39_73, s39_74_o70, s39_77, s39_78, s39_79, s39_80, s39_81, s39_82_o70, s39_85, s39_86_o70, s39_89, s39_92, s39_94, s39_95_o71, s39_98, s39_99, s39_102, s39_105, c37, c37, s37_0, s37_1, s37_32, s37_34, s37_35, s37_37, s37_38, s37_40, s37_41, s37_43, s37_44, s37_46, g, fw, kn, ix, g1, f3, n1, up2_rep, sa, x5, had, show (2 + 1 : Int32) = 3 from rfl, show (0 + 1 : Int32) = 1 from rfl, show (20000 + 60 : Int32) = 20060 from rfl, Int32.le_refl, simprocAttr, if_true, if_false, true_and, and_true, false_and, and_false, not_false_eq_true, not_true_eq_false, gd_T, kont_i, kont_v]
          · rw [e2, ms]
            simp only [s150_51, s150_52, s150_55, s150_56_o87, s150_59, s150_60, s150_61_o87, s150_64, g2, x6, hco, simprocAttr, if_true, if_false, true_and, and_true, false_and, and_false, not_false_eq_true, not_true_eq_false, gd_T, kont_i, kont_v]
        · obtain ⟨bb, had⟩ := rc_add (E1 + 5) σ0 a2 X true 20060
          have hco := m_codes_t (E2 + 2) τ0 a2 Y op 20002
          refine Or.inr ⟨a2, 20060 :: X, Y, by omega, x2, ?_, ?_⟩
          · simp only [s39_34, s39_36, s39_37, s39_40, s39_41_o70, s39_44, s39_47, s39_48, s39_51, s39_52_o70, s39_55_o114, s39_55_o115, s39_55_o116, s39_55_o117, s39_55_o118, s39_58, s39_61, s39_62_o70, s39_65, s39_67, s39_68, s39_69_o70, s39_72, s39_73, s39_74_o70, s39_77, s39_78, s39_79, s39_80, s39_81, s39_82_o70, s39_85, s39_86_o70, s39_89, s39_92, s39_94, s39_95_o71, s39_98, s39_99, s39_102, s39_105, c37, c37, s37_0, s37_1, s37_32, s37_34, s37_35, s37_37, s37_38, s37_40, s37_41, s37_43, s37_44, s37_46, g, fw, kn, ix, g1, f3, n1, up2_rep, sa, x5, had, show (2 + 1 : Int32) = 3 from rfl, show (0 + 1 : Int32) = 1 from rfl, show (20000 + 60 : Int32) = 20060 from rfl, Int32.le_refl, simprocAttr, if_true, if_false, true_and, and_true, false_and, and_false, not_false_eq_true, not_true_eq_false, gd_T, kont_i, kont_v]
          · rw [ms]
            simp only [s150_51, s150_52, s150_55, s150_56_o87, s150_59, s150_60, s150_61_o87, s150_64, g2, x6, hco, simprocAttr, if_true, if_false, true_and, and_true, false_and, and_false, not_false_eq_true, not_true_eq_false, gd_T, kont_i, kont_v]
      · have ec : chN B n a = 61 := by unfold chN; rw [if_pos an, be]
        have ix := ix_116 E1 61 (by omega) (rcS σ0 a (C.map enI ++ Lc) false)
        rw [ec] at kn
        have kn : callD (E1 + 6) 38 [.ref 70] (rcS σ0 a (C.map enI ++ Lc) false) = some (some (.int 61), _) := kn
        have ix : callD (E1 + 6) 222 [.ref 116, .int 61] (rcS σ0 a (C.map enI ++ Lc) false) = some (some (.int 1), _) := ix
        have g1 : ((1 : Int32) < 0) = False := eq_false (by decide)
        have g2 : ((20003 : Int32) ≤ 0) = False := eq_false (by decide)
        have ms := sg_2_61 hm E2 op a an be (C ++ Lm) uu
        rcases su with ⟨a2, C2, x1, x2, x3, x4, x5, x6⟩ | ⟨a2, X, Y, x1, x2, x5, x6⟩
        · obtain ⟨bb, had⟩ := rc_add (E1 + 5) σ0 a2 (C2.map enI ++ (C.map enI ++ Lc)) false 20061
          have hco := m_codes_f (E2 + 2) τ0 a2 (C2 ++ (C ++ Lm)) op 20003 (by rw [List.length_append, List.length_append]; omega)
          have e1 : ((20003 :: (C2 ++ C)).map enI ++ Lc : List Int32) = 20061 :: (C2.map enI ++ (C.map enI ++ Lc)) := by
            rw [List.map_cons, List.map_append, List.cons_append, List.append_assoc]
            rfl
          have e2 : ((20003 :: (C2 ++ C)) ++ Lm : List Int32) = 20003 :: (C2 ++ (C ++ Lm)) := by
            rw [List.cons_append, List.append_assoc]
          refine Or.inl ⟨a2, 20003 :: (C2 ++ C), by omega, x2, by rw [List.length_cons, List.length_append]; omega, wfC_2 hw x4 (by decide) (by decide), ?_, ?_⟩
          · rw [e1]
            simp only [s39_34, s39_36, s39_37, s39_40, s39_41_o70, s39_44, s39_47, s39_48, s39_51, s39_52_o70, s39_55_o114, s39_55_o115, s39_55_o116, s39_55_o117, s39_55_o118, s39_58, s39_61, s39_62_o70, s39_65, s39_67, s39_68, s39_69_o70, s39_72, s39_73, s39_74_o70, s39_77, s39_78, s39_79, s39_80, s39_81, s39_82_o70, s39_85, s39_86_o70, s39_89, s39_92, s39_94, s39_95_o71, s39_98, s39_99, s39_102, s39_105, c37, c37, s37_0, s37_1, s37_32, s37_34, s37_35, s37_37, s37_38, s37_40, s37_41, s37_43, s37_44, s37_46, g, fw, kn, ix, g1, f3, n1, up2_rep, sa, x5, had, show (2 + 1 : Int32) = 3 from rfl, show (0 + 1 : Int32) = 1 from rfl, show (20000 + 61 : Int32) = 20061 from rfl, Int32.le_refl, simprocAttr, if_true, if_false, true_and, and_true, false_and, and_false, not_false_eq_true, not_true_eq_false, gd_T, kont_i, kont_v]
          · rw [e2, ms]
            simp only [s150_51, s150_52, s150_55, s150_56_o87, s150_59, s150_60, s150_61_o87, s150_64, g2, x6, hco, simprocAttr, if_true, if_false, true_and, and_true, false_and, and_false, not_false_eq_true, not_true_eq_false, gd_T, kont_i, kont_v]
        · obtain ⟨bb, had⟩ := rc_add (E1 + 5) σ0 a2 X true 20061
          have hco := m_codes_t (E2 + 2) τ0 a2 Y op 20003
          refine Or.inr ⟨a2, 20061 :: X, Y, by omega, x2, ?_, ?_⟩
          · simp only [s39_34, s39_36, s39_37, s39_40, s39_41_o70, s39_44, s39_47, s39_48, s39_51, s39_52_o70, s39_55_o114, s39_55_o115, s39_55_o116, s39_55_o117, s39_55_o118, s39_58, s39_61, s39_62_o70, s39_65, s39_67, s39_68, s39_69_o70, s39_72, s39_73, s39_74_o70, s39_77, s39_78, s39_79, s39_80, s39_81, s39_82_o70, s39_85, s39_86_o70, s39_89, s39_92, s39_94, s39_95_o71, s39_98, s39_99, s39_102, s39_105, c37, c37, s37_0, s37_1, s37_32, s37_34, s37_35, s37_37, s37_38, s37_40, s37_41, s37_43, s37_44, s37_46, g, fw, kn, ix, g1, f3, n1, up2_rep, sa, x5, had, show (2 + 1 : Int32) = 3 from rfl, show (0 + 1 : Int32) = 1 from rfl, show (20000 + 61 : Int32) = 20061 from rfl, Int32.le_refl, simprocAttr, if_true, if_false, true_and, and_true, false_and, and_false, not_false_eq_true, not_true_eq_false, gd_T, kont_i, kont_v]
          · rw [ms]
            simp only [s150_51, s150_52, s150_55, s150_56_o87, s150_59, s150_60, s150_61_o87, s150_64, g2, x6, hco, simprocAttr, if_true, if_false, true_and, and_true, false_and, and_false, not_false_eq_true, not_true_eq_false, gd_T, kont_i, kont_v]
      · have ec : chN B n a = 62 := by unfold chN; rw [if_pos an, be]
        have ix := ix_116 E1 62 (by omega) (rcS σ0 a (C.map enI ++ Lc) false)
        rw [ec] at kn
        have kn : callD (E1 + 6) 38 [.ref 70] (rcS σ0 a (C.map enI ++ Lc) false) = some (some (.int 62), _) := kn
        have ix : callD (E1 + 6) 222 [.ref 116, .int 62] (rcS σ0 a (C.map enI ++ Lc) false) = some (some (.int 2), _) := ix
        have g1 : ((2 : Int32) < 0) = False := eq_false (by decide)
        have g2 : ((20004 : Int32) ≤ 0) = False := eq_false (by decide)
        have ms := sg_2_62 hm E2 op a an be (C ++ Lm) uu
        rcases su with ⟨a2, C2, x1, x2, x3, x4, x5, x6⟩ | ⟨a2, X, Y, x1, x2, x5, x6⟩
        · obtain ⟨bb, had⟩ := rc_add (E1 + 5) σ0 a2 (C2.map enI ++ (C.map enI ++ Lc)) false 20062
          have hco := m_codes_f (E2 + 2) τ0 a2 (C2 ++ (C ++ Lm)) op 20004 (by rw [List.length_append, List.length_append]; omega)
          have e1 : ((20004 :: (C2 ++ C)).map enI ++ Lc : List Int32) = 20062 :: (C2.map enI ++ (C.map enI ++ Lc)) := by
            rw [List.map_cons, List.map_append, List.cons_append, List.append_assoc]
            rfl
          have e2 : ((20004 :: (C2 ++ C)) ++ Lm : List Int32) = 20004 :: (C2 ++ (C ++ Lm)) := by
            rw [List.cons_append, List.append_assoc]
          refine Or.inl ⟨a2, 20004 :: (C2 ++ C), by omega, x2, by rw [List.length_cons, List.length_append]; omega, wfC_2 hw x4 (by decide) (by decide), ?_, ?_⟩
          · rw [e1]
            simp only [s39_34, s39_36, s39_37, s39_40, s39_41_o70, s39_44, s39_47, s39_48, s39_51, s39_52_o70, s39_55_o114, s39_55_o115, s39_55_o116, s39_55_o117, s39_55_o118, s39_58, s39_61, s39_62_o70, s39_65, s39_67, s39_68, s39_69_o70, s39_72, s39_73, s39_74_o70, s39_77, s39_78, s39_79, s39_80, s39_81, s39_82_o70, s39_85, s39_86_o70, s39_89, s39_92, s39_94, s39_95_o71, s39_98, s39_99, s39_102, s39_105, c37, c37, s37_0, s37_1, s37_32, s37_34, s37_35, s37_37, s37_38, s37_40, s37_41, s37_43, s37_44, s37_46, g, fw, kn, ix, g1, f3, n1, up2_rep, sa, x5, had, show (2 + 1 : Int32) = 3 from rfl, show (0 + 1 : Int32) = 1 from rfl, show (20000 + 62 : Int32) = 20062 from rfl, Int32.le_refl, simprocAttr, if_true, if_false, true_and, and_true, false_and, and_false, not_false_eq_true, not_true_eq_false, gd_T, kont_i, kont_v]
          · rw [e2, ms]
            simp only [s150_51, s150_52, s150_55, s150_56_o87, s150_59, s150_60, s150_61_o87, s150_64, g2, x6, hco, simprocAttr, if_true, if_false, true_and, and_true, false_and, and_false, not_false_eq_true, not_true_eq_false, gd_T, kont_i, kont_v]
        · obtain ⟨bb, had⟩ := rc_add (E1 + 5) σ0 a2 X true 20062
          have hco := m_codes_t (E2 + 2) τ0 a2 Y op 20004
          refine Or.inr ⟨a2, 20062 :: X, Y, by omega, x2, ?_, ?_⟩
          · simp only [s39_34, s39_36, s39_37, s39_40, s39_41_o70, s39_44, s39_47, s39_48, s39_51, s39_52_o70, s39_55_o114, s39_55_o115, s39_55_o116, s39_55_o117, s39_55_o118, s39_58, s39_61, s39_62_o70, s39_65, s39_67, s39_68, s39_69_o70, s39_72, s39_73, s39_74_o70, s39_77, s39_78, s39_79, s39_80, s39_81, s39_82_o70, s39_85, s39_86_o70, s39_89, s39_92, s39_94, s39_95_o71, s39_98, s39_99, s39_102, s39_105, c37, c37, s37_0, s37_1, s37_32, s37_34, s37_35, s37_37, s37_38, s37_40, s37_41, s37_43, s37_44, s37_46, g, fw, kn, ix, g1, f3, n1, up2_rep, sa, x5, had, show (2 + 1 : Int32) = 3 from rfl, show (0 + 1 : Int32) = 1 from rfl, show (20000 + 62 : Int32) = 20062 from rfl, Int32.le_refl, simprocAttr, if_true, if_false, true_and, and_true, false_and, and_false, not_false_eq_true, not_true_eq_false, gd_T, kont_i, kont_v]
          · rw [ms]
            simp only [s150_51, s150_52, s150_55, s150_56_o87, s150_59, s150_60, s150_61_o87, s150_64, g2, x6, hco, simprocAttr, if_true, if_false, true_and, and_true, false_and, and_false, not_false_eq_true, not_true_eq_false, gd_T, kont_i, kont_v]
    · refine Or.inl ⟨a, C, h0, ha, hC, hw, ?_, sg_2_n hm E2 op a ha hne _ uu⟩
      have ix := ix_116 E1 (chN B n a) (ch_lt hc a) (rcS σ0 a (C.map enI ++ Lc) false)
      have y0 : ¬ chN B n a = 60 := fun q => by
        unfold chN at q
        by_cases z : a < n
        · rw [if_pos z] at q; exact hne ⟨z, by omega⟩
        · rw [if_neg z] at q; omega
      have y1 : ¬ chN B n a = 61 := fun q => by
        unfold chN at q
        by_cases z : a < n
        · rw [if_pos z] at q; exact hne ⟨z, by omega⟩
        · rw [if_neg z] at q; omega
      have y2 : ¬ chN B n a = 62 := fun q => by
        unfold chN at q
        by_cases z : a < n
        · rw [if_pos z] at q; exact hne ⟨z, by omega⟩
        · rw [if_neg z] at q; omega
      rw [show ixF [60, 61, 62] 0 (chN B n a) = -1 from by simp only [ixF, if_neg y0, if_neg y1, if_neg y2]] at ix
      have g1 : ((-1 : Int32) < 0) = True := eq_true (by decide)
      simp only [s39_34, s39_36, s39_37, s39_40, s39_41_o70, s39_44, s39_47, s39_48, s39_51, s39_52_o70, s39_55_o114, s39_55_o115, s39_55_o116, s39_55_o117, s39_55_o118, s39_58, s39_105, c37, c37, s37_0, s37_1, s37_32, s37_34, s37_35, s37_37, s37_38, s37_40, s37_41, s37_43, s37_44, s37_46, g, fw, kn, ix, g1, simprocAttr, if_true, if_false, true_and, and_true, false_and, and_false, not_false_eq_true, not_true_eq_false, gd_T, kont_i, kont_v]
  · have fw2 : rcS σ0 a2 X true 70 4 = 1 := rc_w _ _ _ _
    have ms := sg_2_w (τ0 := τ0) E2 op a2 (by omega) Y uu
    refine Or.inr ⟨a2, X, Y, x1, x2, ?_, ?_⟩
    · simp only [c39, s39_0, s39_1, s39_2, s39_5, s39_6, s39_7_o70, s39_10, s39_11, s39_12, s39_13, s39_14, s39_15, s39_16_o70, s39_19, s39_20, s39_21, s39_24, s39_25, s39_28, s39_30, s39_31, s39_32, s39_34, s39_36, s39_37, s39_40, s39_41_o70, s39_44, s39_105, x5, show (2 + 1 : Int32) = 3 from rfl, g, fw2, one, simprocAttr, if_true, if_false, true_and, and_true, false_and, and_false, not_false_eq_true, not_true_eq_false, gd_T, kont_i, kont_v]
    · simp only [c150, s150_0, s150_1_o87, x6, simprocAttr, if_true, if_false, true_and, and_true, false_and, and_false, not_false_eq_true, not_true_eq_false, gd_T, kont_i, kont_v]
      exact ms
