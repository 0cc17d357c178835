/-! ===== text: levels 3 and 4, the loops ===== -/
theorem lvl_3_l {σ0 τ0 : Hs} {n : Nat} {B : Nat → Nat} (hc : TPc σ0 n B) (hm : TPm τ0 n B) (E1 E2 op : Nat) (sub : ∀ a Lc Lm, a ≤ n → Lm.length ≤ a → PRz σ0 τ0 n op a Lc Lm (callD (E1 + 6) 38 [.ref 70, .int 4, .int (nI op)] (rcS σ0 a Lc false)) (callD (E2 + 3) 151 [.ref 87] (rmS τ0 a Lm false op))) (a0 : Nat) (Lc Lm : List Int32) (hL : Lm.length ≤ a0) : ∀ m a k C l5 l1, n - a ≤ m → a ≤ n → k ≤ a → a0 < a → C.length + a0 ≤ a → wfC C → PRz σ0 τ0 n op a0 Lc Lm (ru (E1 + 6) 38 34 [.ref 70, .int 3, .int (nI op), .int 60, .int (nI k), l5] [] (rcS σ0 a (C.map enI ++ Lc) false)) (ru (E2 + 3) 150 49 [.ref 87, l1] [] (rmS τ0 a (C ++ Lm) false op)) := by
  intro m
  have n60 : n ≤ 60 := hc.1
  have stop : ∀ a k C l5 l1, a ≤ n → k ≤ a → a0 < a → C.length + a0 ≤ a → wfC C → ¬ (a < n ∧ (B a = 43 ∨ B a = 45)) → PRz σ0 τ0 n op a0 Lc Lm (ru (E1 + 6) 38 34 [.ref 70, .int 3, .int (nI op), .int 60, .int (nI k), l5] [] (rcS σ0 a (C.map enI ++ Lc) false)) (ru (E2 + 3) 150 49 [.ref 87, l1] [] (rmS τ0 a (C ++ Lm) false op)) := by
    intro a k C l5 l1 ha hk h0 hC hw hne
    refine Or.inl ⟨a, C, h0, ha, hC, hw, ?_, sg_3_49_n hm E2 op a ha hne _ l1⟩
    have fw : rcS σ0 a (C.map enI ++ Lc) false 70 4 = 0 := rc_w _ _ _ _
    have kn := k_next (E1 + 4) σ0 a n B (by omega) hc (C.map enI ++ Lc) false
    have ix := ix_117 E1 (chN B n a) (ch_lt hc a) (rcS σ0 a (C.map enI ++ Lc) false)
    have y0 : ¬ chN B n a = 43 := fun q => by
      unfold chN at q
      by_cases z : a < n
      · rw [if_pos z] at q; exact hne ⟨z, by omega⟩
      · rw [if_neg z] at q; omega
    have y1 : ¬ chN B n a = 45 := fun q => by
      unfold chN at q
      by_cases z : a < n
      · rw [if_pos z] at q; exact hne ⟨z, by omega⟩
      · rw [if_neg z] at q; omega
    rw [show ixF [43, 45] 0 (chN B n a) = -1 from by simp only [ixF, if_neg y0, if_neg y1]] at ix
    have g1 : ((-1 : Int32) < 0) = True := eq_true (by decide)
    by_cases z : 60 ≤ k
    · have g : ((60 : Int32) ≤ nI k) = True := by rw [show (60 : Int32) = nI 60 from rfl, le_nn (by omega) (by omega)]; exact eq_true z
      simp only [s38_34]
      simp only [s38_36, s38_37, s38_40, s38_41_o70, s38_44, s38_47, s38_48, s38_51, s38_52_o70, s38_55_o114, s38_55_o115, s38_55_o116, s38_55_o117, s38_55_o118, s38_58, s38_61, s38_62_o70, s38_65, s38_67, s38_68, s38_69_o70, s38_72, s38_73, s38_74_o70, s38_77, s38_78, s38_79, s38_80, s38_81, s38_82_o70, s38_85, s38_86_o70, s38_89, s38_92, s38_94, s38_95_o71, s38_98, s38_99, s38_102, s38_105, g, simprocAttr, if_true, if_false, true_and, and_true, false_and, and_false, not_false_eq_true, not_true_eq_false, gd_T, kont_i, kont_v]
    · have g : ((60 : Int32) ≤ nI k) = False := by rw [show (60 : Int32) = nI 60 from rfl, le_nn (by omega) (by omega)]; exact eq_false z
      simp only [s38_34]
      simp only [s38_36, s38_37, s38_40, s38_41_o70, s38_44, s38_47, s38_48, s38_51, s38_52_o70, s38_55_o114, s38_55_o115, s38_55_o116, s38_55_o117, s38_55_o118, s38_58, s38_105, c36, c36, s36_0, s36_1, s36_32, s36_34, s36_35, s36_37, s36_38, s36_40, s36_41, s36_43, s36_44, s36_46, g, fw, kn, ix, g1, simprocAttr, if_true, if_false, true_and, and_true, false_and, and_false, not_false_eq_true, not_true_eq_false, gd_T, kont_i, kont_v]
  induction m with
  | zero =>
    intro a k C l5 l1 hm0 ha hk h0 hC hw
    exact stop a k C l5 l1 ha hk h0 hC hw (fun q => by omega)
  | succ m ih =>
    intro a k C l5 l1 hm0 ha hk h0 hC hw
    by_cases hne : a < n ∧ (B a = 43 ∨ B a = 45)
    · obtain ⟨an, bs⟩ := hne
      have fw : rcS σ0 a (C.map enI ++ Lc) false 70 4 = 0 := rc_w _ _ _ _
      have f3 := rc_at σ0 a (C.map enI ++ Lc) false
      have sa := rc_sa σ0 a (a + 1) (C.map enI ++ Lc) false
      have n1 := nI_1 a
      have n2 := nI_1 k
      have g : ((60 : Int32) ≤ nI k) = False := by rw [show (60 : Int32) = nI 60 from rfl, le_nn (by omega) (by omega)]; exact eq_false (by omega)
      have one : ((1 : Int32) = 0) = False := eq_false (by decide)
      have su := sub (a + 1) (C.map enI ++ Lc) (C ++ Lm) (by omega) (by rw [List.length_append]; omega)
      have kn := k_next (E1 + 4) σ0 a n B (by omega) hc (C.map enI ++ Lc) false
      rcases bs with be | be
      · have ec : chN B n a = 43 := by unfold chN; rw [if_pos an, be]
        have ix := ix_117 E1 43 (by omega) (rcS σ0 a (C.map enI ++ Lc) false)
        rw [ec] at kn
        have kn : callD (E1 + 6) 37 [.ref 70] (rcS σ0 a (C.map enI ++ Lc) false) = some (some (.int 43), _) := kn
        have ix : callD (E1 + 6) 221 [.ref 117, .int 43] (rcS σ0 a (C.map enI ++ Lc) false) = some (some (.int 0), _) := ix
        have g1 : ((0 : Int32) < 0) = False := eq_false (by decide)
        have g2 : ((20005 : Int32) ≤ 0) = False := eq_false (by decide)
        have ms := sg_3_49_43 hm E2 op a an be (C ++ Lm) l1
        rcases su with ⟨a2, C2, x1, x2, x3, x4, x5, x6⟩ | ⟨a2, X, Y, x1, x2, x5, x6⟩
        · obtain ⟨bb, had⟩ := rc_add (E1 + 5) σ0 a2 (C2.map enI ++ (C.map enI ++ Lc)) false 20043
          have hco := m_codes_f (E2 + 2) τ0 a2 (C2 ++ (C ++ Lm)) op 20005 (by rw [List.length_append, List.length_append]; omega)
          have r := ih a2 (k + 1) (20005 :: (C2 ++ C)) (.int 43) (.int 20005) (by omega) x2 (by omega) (by omega) (by rw [List.length_cons, List.length_append]; omega) (wfC_2 hw x4 (by decide) (by decide))
          have e1 : ((20005 :: (C2 ++ C)).map enI ++ Lc : List Int32) = 20043 :: (C2.map enI ++ (C.map enI ++ Lc)) := by
            rw [List.map_cons, List.map_append, List.cons_append, List.append_assoc]
            rfl
          have e2 : ((20005 :: (C2 ++ C)) ++ Lm : List Int32) = 20005 :: (C2 ++ (C ++ Lm)) := by
            rw [List.cons_append, List.append_assoc]
          rw [e1, e2] at r
          have rc : ru (E1 + 6) 38 34 [.ref 70, .int 3, .int (nI op), .int 60, .int (nI k), l5] [] (rcS σ0 a (C.map enI ++ Lc) false) = ru (E1 + 6) 38 34 [.ref 70, .int 3, .int (nI op), .int 60, .int (nI (k + 1)), .int 43] [] (rcS σ0 a2 (20043 :: (C2.map enI ++ (C.map enI ++ Lc))) false) := by
            generalize hR : ru (E1 + 6) 38 34 _ [] (rcS σ0 a2 (20043 :: (C2.map enI ++ (C.map enI ++ Lc))) false) = R
            simp only [s38_34]
            simp only [s38_36, s38_37, s38_40, s38_41_o70, s38_44, s38_47, s38_48, s38_51, s38_52_o70, s38_55_o114, s38_55_o115, s38_55_o116, s38_55_o117, s38_55_o118, s38_58, s38_61, s38_62_o70, s38_65, s38_67, s38_68, s38_69_o70, s38_72, s38_73, s38_74_o70, s38_77, s38_78, s38_79, s38_80, s38_81, s38_82_o70, s38_85, s38_86_o70, s38_89, s38_92, s38_94, s38_95_o71, s38_98, s38_99, s38_102, c36, c36, s36_0, s36_1, s36_32, s36_34, s36_35, s36_37, s36_38, s36_40, s36_41, s36_43, s36_44, s36_46, g, fw, kn, ix, g1, f3, n1, n2, up2_rep, sa, x5, had, show (3 + 1 : Int32) = 4 from rfl, show (20000 + 43 : Int32) = 20043 from rfl, simprocAttr, if_true, if_false, true_and, and_true, false_and, and_false, not_false_eq_true, not_true_eq_false, gd_T, kont_i, kont_v]
            exact hR
          have rm : ru (E2 + 3) 150 49 [.ref 87, l1] [] (rmS τ0 a (C ++ Lm) false op) = ru (E2 + 3) 150 49 [.ref 87, .int 20005] [] (rmS τ0 a2 (20005 :: (C2 ++ (C ++ Lm))) false op) := by
            rw [ms]
            simp only [s150_36]
            simp only [s150_37, s150_40, s150_41_o87, s150_44, s150_45, s150_46_o87, g2, x6, hco, simprocAttr, if_true, if_false, true_and, and_true, false_and, and_false, not_false_eq_true, not_true_eq_false, gd_T, kont_i, kont_v]
          rw [rc, rm]
          exact r
        · obtain ⟨bb, had⟩ := rc_add (E1 + 5) σ0 a2 X true 20043
          have hco := m_codes_t (E2 + 2) τ0 a2 Y op 20005
          have fw2 : rcS σ0 a2 (20043 :: X) true 70 4 = 1 := rc_w _ _ _ _
          refine Or.inr ⟨a2, 20043 :: X, Y, by omega, x2, ?_, ?_⟩
          · have rc : ru (E1 + 6) 38 34 [.ref 70, .int 3, .int (nI op), .int 60, .int (nI k), l5] [] (rcS σ0 a (C.map enI ++ Lc) false) = ru (E1 + 6) 38 34 [.ref 70, .int 3, .int (nI op), .int 60, .int (nI (k + 1)), .int 43] [] (rcS σ0 a2 (20043 :: X) true) := by
              generalize hR : ru (E1 + 6) 38 34 _ [] (rcS σ0 a2 (20043 :: X) true) = R
              simp only [s38_34]
              simp only [s38_36, s38_37, s38_40, s38_41_o70, s38_44, s38_47, s38_48, s38_51, s38_52_o70, s38_55_o114, s38_55_o115, s38_55_o116, s38_55_o117, s38_55_o118, s38_58, s38_61, s38_62_o70, s38_65, s38_67, s38_68, s38_69_o70, s38_72, s38_73, s38_74_o70, s38_77, s38_78, s38_79, s38_80, s38_81, s38_82_o70, s38_85, s38_86_o70, s38_89, s38_92, s38_94, s38_95_o71, s38_98, s38_99, s38_102, c36, c36, s36_0, s36_1, s36_32, s36_34, s36_35, s36_37, s36_38, s36_40, s36_41, s36_43, s36_44, s36_46, g, fw, kn, ix, g1, f3, n1, n2, up2_rep, sa, x5, had, show (3 + 1 : Int32) = 4 from rfl, show (20000 + 43 : Int32) = 20043 from rfl, simprocAttr, if_true, if_false, true_and, and_true, false_and, and_false, not_false_eq_true, not_true_eq_false, gd_T, kont_i, kont_v]
              exact hR
            rw [rc]
            simp only [s38_34]
            by_cases z : (60 : Int32) ≤ nI (k + 1)
            · have z' := eq_true z
              simp only [s38_36, s38_37, s38_40, s38_41_o70, s38_44, s38_105, z', fw2, one, simprocAttr, if_true, if_false, true_and, and_true, false_and, and_false, not_false_eq_true, not_true_eq_false, gd_T, kont_i, kont_v]
            · have z' := eq_false z
              simp only [s38_36, s38_37, s38_40, s38_41_o70, s38_44, s38_105, z', fw2, one, simprocAttr, if_true, if_false, true_and, and_true, false_and, and_false, not_false_eq_true, not_true_eq_false, gd_T, kont_i, kont_v]
          · rw [ms]
            simp only [s150_36]
            simp only [s150_37, s150_40, s150_41_o87, s150_44, s150_45, s150_46_o87, g2, x6, hco, simprocAttr, if_true, if_false, true_and, and_true, false_and, and_false, not_false_eq_true, not_true_eq_false, gd_T, kont_i, kont_v]
            exact sg_3_49_w E2 op a2 (by omega) Y _
      · have ec : chN B n a = 45 := by unfold chN; rw [if_pos an, be]
        have ix := ix_117 E1 45 (by omega) (rcS σ0 a (C.map enI ++ Lc) false)
        rw [ec] at kn
        have kn : callD (E1 + 6) 37 [.ref 70] (rcS σ0 a (C.map enI ++ Lc) false) = some (some (.int 45), _) := kn
        have ix : callD (E1 + 6) 221 [.ref 117, .int 45] (rcS σ0 a (C.map enI ++ Lc) false) = some (some (.int 1), _) := ix
        have g1 : ((1 : Int32) < 0) = False := eq_false (by decide)
        have g2 : ((20006 : Int32) ≤ 0) = False := eq_false (by decide)
        have ms := sg_3_49_45 hm E2 op a an be (C ++ Lm) l1
        rcases su with ⟨a2, C2, x1, x2, x3, x4, x5, x6⟩ | ⟨a2, X, Y, x1, x2, x5, x6⟩
        · obtain ⟨bb, had⟩ := rc_add (E1 + 5) σ0 a2 (C2.map enI ++ (C.map enI ++ Lc)) false 20045
          have hco := m_codes_f (E2 + 2) τ0 a2 (C2 ++ (C ++ Lm)) op 20006 (by rw [List.length_append, List.length_append]; omega)
          have r := ih a2 (k + 1) (20006 :: (C2 ++ C)) (.int 45) (.int 20006) (by omega) x2 (by omega) (by omega) (by rw [List.length_cons, List.length_append]; omega) (wfC_2 hw x4 (by decide) (by decide))
          have e1 : ((20006 :: (C2 ++ C)).map enI ++ Lc : List Int32) = 20045 :: (C2.map enI ++ (C.map enI ++ Lc)) := by
            rw [List.map_cons, List.map_append, List.cons_append, List.append_assoc]
            rfl
          have e2 : ((20006 :: (C2 ++ C)) ++ Lm : List Int32) = 20006 :: (C2 ++ (C ++ Lm)) := by
            rw [List.cons_append, List.append_assoc]
          rw [e1, e2] at r
          have rc : ru (E1 + 6) 38 34 [.ref 70, .int 3, .int (nI op), .int 60, .int (nI k), l5] [] (rcS σ0 a (C.map enI ++ Lc) false) = ru (E1 + 6) 38 34 [.ref 70, .int 3, .int (nI op), .int 60, .int (nI (k + 1)), .int 45] [] (rcS σ0 a2 (20045 :: (C2.map enI ++ (C.map enI ++ Lc))) false) := by
            generalize hR : ru (E1 + 6) 38 34 _ [] (rcS σ0 a2 (20045 :: (C2.map enI ++ (C.map enI ++ Lc))) false) = R
            simp only [s38_34]
            simp only [s38_36, s38_37, s38_40, s38_41_o70, s38_44, s38_47, s38_48, s38_51, s38_52_o70, s38_55_o114, s38_55_o115, s38_55_o116, s38_55_o117, s38_55_o118, s38_58, s38_61, s38_62_o70, s38_65, s38_67, s38_68, s38_69_o70, s38_72, s38_73, s38_74_o70, s38_77, s38_78, s38_79, s38_80, s38_81, s38_82_o70, s38_85, s38_86_o70, s38_89, s38_92, s38_94, s38_95_o71, s38_98, s38_99, s38_102, c36, c36, s36_0, s36_1, s36_32, s36_34, s36_35, s36_37, s36_38, s36_40, s36_41, s36_43, s36_44, s36_46, g, fw, kn, ix, g1, f3, n1, n2, up2_rep, sa, x5, had, show (3 + 1 : Int32) = 4 from rfl, show (20000 + 45 : Int32) = 20045 from rfl, simprocAttr, if_true, if_false, true_and, and_true, false_and, and_false, not_false_eq_true, not_true_eq_false, gd_T, kont_i, kont_v]
            exact hR
          have rm : ru (E2 + 3) 150 49 [.ref 87, l1] [] (rmS τ0 a (C ++ Lm) false op) = ru (E2 + 3) 150 49 [.ref 87, .int 20006] [] (rmS τ0 a2 (20006 :: (C2 ++ (C ++ Lm))) false op) := by
            rw [ms]
            simp only [s150_36]
            simp only [s150_37, s150_40, s150_41_o87, s150_44, s150_45, s150_46_o87, g2, x6, hco, simprocAttr, if_true, if_false, true_and, and_true, false_and, and_false, not_false_eq_true, not_true_eq_false, gd_T, kont_i, kont_v]
          rw [rc, rm]
          exact r
        · obtain ⟨bb, had⟩ := rc_add (E1 + 5) σ0 a2 X true 20045
          have hco := m_codes_t (E2 + 2) τ0 a2 Y op 20006
          have fw2 : rcS σ0 a2 (20045 :: X) true 70 4 = 1 := rc_w _ _ _ _
          refine Or.inr ⟨a2, 20045 :: X, Y, by omega, x2, ?_, ?_⟩
          · have rc : ru (E1 + 6) 38 34 [.ref 70, .int 3, .int (nI op), .int 60, .int (nI k), l5] [] (rcS σ0 a (C.map enI ++ Lc) false) = ru (E1 + 6) 38 34 [.ref 70, .int 3, .int (nI op), .int 60, .int (nI (k + 1)), .int 45] [] (rcS σ0 a2 (20045 :: X) true) := by
              generalize hR : ru (E1 + 6) 38 34 _ [] (rcS σ0 a2 (20045 :: X) true) = R
              simp only [s38_34]
              simp only [s38_36, s38_37, s38_40, s38_41_o70, s38_44, s38_47, s38_48, s38_51, s38_52_o70, s38_55_o114, s38_55_o115, s38_55_o116, s38_55_o117, s38_55_o118, s38_58, s38_61, s38_62_o70, s38_65, s38_67, s38_68, s38_69_o70, s38_72, s38_73, s38_74_o70, s38_77, s38_78, s38_79, s38_80, s38_81, s38_82_o70, s38_85, s38_86_o70, s38_89, s38_92, s38_94, s38_95_o71, s38_98, s38_99, s38_102, c36, c36, s36_0, s36_1, s36_32, s36_34, s36_35, s36_37, s36_38, s36_40, s36_41, s36_43, s36_44, s36_46, g, fw, kn, ix, g1, f3, n1, n2, up2_rep, sa, x5, had, show (3 + 1 : Int32) = 4 from rfl, show (20000 + 45 : Int32) = 20045 from rfl, simprocAttr, if_true, if_false, true_and, and_true, false_and, and_false, not_false_eq_true, not_true_eq_false, gd_T, kont_i, kont_v]
              exact hR
            rw [rc]
            simp only [s38_34]
            by_cases z : (60 : Int32) ≤ nI (k + 1)
            · have z' := eq_true z
              simp only [s38_36, s38_37, s38_40, s38_41_o70, s38_44, s38_105, z', fw2, one, simprocAttr, if_true, if_false, true_and, and_true, false_and, and_false, not_false_eq_true, not_true_eq_false, gd_T, kont_i, kont_v]
            · have z' := eq_false z
              simp only [s38_36, s38_37, s38_40, s38_41_o70, s38_44, s38_105, z', fw2, one, simprocAttr, if_true, if_false, true_and, and_true, false_and, and_false, not_false_eq_true, not_true_eq_false, gd_T, kont_i, kont_v]
          · rw [ms]
            simp only [s150_36]
            simp only [s150_37, s150_40, s150_41_o87, s150_44, s150_45, s150_46_o87, g2, x6, hco, simprocAttr, if_true, if_false, true_and, and_true, false_and, and_false, not_false_eq_true, not_true_eq_false, gd_T, kont_i, kont_v]
            exact sg_3_49_w E2 op a2 (by omega) Y _
    · exact stop a k C l5 l1 ha hk h0 hC hw hne
theorem lvl_4_l {σ0 τ0 : Hs} {n : Nat} {B : Nat → Nat} (hc : TPc σ0 n B) (hm : TPm τ0 n B) (E1 E2 op : Nat) (sub : ∀ a Lc Lm, a ≤ n → Lm.length ≤ a → PRz σ0 τ0 n op a Lc Lm (callD (E1 + 6) 38 [.ref 70, .int 5, .int (nI op)] (rcS σ0 a Lc false)) (callD (E2 + 3) 153 [.ref 87] (rmS τ0 a Lm false op))) (a0 : Nat) (Lc Lm : List Int32) (hL : Lm.length ≤ a0) : ∀ m a k C l5 l1, n - a ≤ m → a ≤ n → k ≤ a → a0 < a → C.length + a0 ≤ a → wfC C → PRz σ0 τ0 n op a0 Lc Lm (ru (E1 + 6) 38 34 [.ref 70, .int 4, .int (nI op), .int 60, .int (nI k), l5] [] (rcS σ0 a (C.map enI ++ Lc) false)) (ru (E2 + 3) 151 64 [.ref 87, l1] [] (rmS τ0 a (C ++ Lm) false op)) := by
  intro m
  have n60 : n ≤ 60 := hc.1
  have stop : ∀ a k C l5 l1, a ≤ n → k ≤ a → a0 < a → C.length + a0 ≤ a → wfC C → ¬ (a < n ∧ (B a = 42 ∨ B a = 47 ∨ B a = 37)) → PRz σ0 τ0 n op a0 Lc Lm (ru (E1 + 6) 38 34 [.ref 70, .int 4, .int (nI op), .int 60, .int (nI k), l5] [] (rcS σ0 a (C.map enI ++ Lc) false)) (ru (E2 + 3) 151 64 [.ref 87, l1] [] (rmS τ0 a (C ++ Lm) false op)) := by
    intro a k C l5 l1 ha hk h0 hC hw hne
    refine Or.inl ⟨a, C, h0, ha, hC, hw, ?_, sg_4_64_n hm E2 op a ha hne _ l1⟩
    have fw : rcS σ0 a (C.map enI ++ Lc) false 70 4 = 0 := rc_w _ _ _ _
    have kn := k_next (E1 + 4) σ0 a n B (by omega) hc (C.map enI ++ Lc) false
    have ix := ix_118 E1 (chN B n a) (ch_lt hc a) (rcS σ0 a (C.map enI ++ Lc) false)
    have y0 : ¬ chN B n a = 42 := fun q => by
      unfold chN at q
      by_cases z : a < n
      · rw [if_pos z] at q; exact hne ⟨z, by omega⟩
      · rw [if_neg z] at q; omega
    have y1 : ¬ chN B n a = 47 := fun q => by
      unfold chN at q
      by_cases z : a < n
      · rw [if_pos z] at q; exact hne ⟨z, by omega⟩
      · rw [if_neg z] at q; omega
    have y2 : ¬ chN B n a = 37 := fun q => by
      unfold chN at q
      by_cases z : a < n
      · rw [if_pos z] at q; exact hne ⟨z, by omega⟩
      · rw [if_neg z] at q; omega
    rw [show ixF [42, 47, 37] 0 (chN B n a) = -1 from by simp only [ixF, if_neg y0, if_neg y1, if_neg y2]] at ix
    have g1 : ((-1 : Int32) < 0) = True := eq_true (by decide)
    by_cases z : 60 ≤ k
    · have g : ((60 : Int32) ≤ nI k) = True := by rw [show (60 : Int32) = nI 60 from rfl, le_nn (by omega) (by omega)]; exact eq_true z
      simp only [s38_34]
      simp only [s38_36, s38_37, s38_40, s38_41_o70, s38_44, s38_47, s38_48, s38_51, s38_52_o70, s38_55_o114, s38_55_o115, s38_55_o116, s38_55_o117, s38_55_o118, s38_58, s38_61, s38_62_o70, s38_65, s38_67, s38_68, s38_69_o70, s38_72, s38_73, s38_74_o70, s38_77, s38_78, s38_79, s38_80, s38_81, s38_82_o70, s38_85, s38_86_o70, s38_89, s38_92, s38_94, s38_95_o71, s38_98, s38_99, s38_102, s38_105, g, simprocAttr, if_true, if_false, true_and, and_true, false_and, and_false, not_false_eq_true, not_true_eq_false, gd_T, kont_i, kont_v]
    · have g : ((60 : Int32) ≤ nI k) = False := by rw [show (60 : Int32) = nI 60 from rfl, le_nn (by omega) (by omega)]; exact eq_false z
      simp only [s38_34]
      simp only [s38_36, s38_37, s38_40, s38_41_o70, s38_44, s38_47, s38_48, s38_51, s38_52_o70, s38_55_o114, s38_55_o115, s38_55_o116, s38_55_o117, s38_55_o118, s38_58, s38_105, c36, c36, s36_0, s36_1, s36_32, s36_34, s36_35, s36_37, s36_38, s36_40, s36_41, s36_43, s36_44, s36_46, g, fw, kn, ix, g1, simprocAttr, if_true, if_false, true_and, and_true, false_and, and_false, not_false_eq_true, not_true_eq_false, gd_T, kont_i, kont_v]
  induction m with
  | zero =>
    intro a k C l5 l1 hm0 ha hk h0 hC hw
    exact stop a k C l5 l1 ha hk h0 hC hw (fun q => by omega)
  | succ m ih =>
    intro a k C l5 l1 hm0 ha hk h0 hC hw
    by_cases hne : a < n ∧ (B a = 42 ∨ B a = 47 ∨ B a = 37)
    · obtain ⟨an, bs⟩ := hne
      have fw : rcS σ0 a (C.map enI ++ Lc) false 70 4 = 0 := rc_w _ _ _ _
      have f3 := rc_at σ0 a (C.map enI ++ Lc) false
      have sa := rc_sa σ0 a (a + 1) (C.map enI ++ Lc) false
      have n1 := nI_1 a
      have n2 := nI_1 k
      have g : ((60 : Int32) ≤ nI k) = False := by rw [show (60 : Int32) = nI 60 from rfl, le_nn (by omega) (by omega)]; exact eq_false (by omega)
      have one : ((1 : Int32) = 0) = False := eq_false (by decide)
      have su := sub (a + 1) (C.map enI ++ Lc) (C ++ Lm) (by omega) (by rw [List.length_append]; omega)
      have kn := k_next (E1 + 4) σ0 a n B (by omega) hc (C.map enI ++ Lc) false
      rcases bs with be | be | be
      · have ec : chN B n a = 42 := by unfold chN; rw [if_pos an, be]
        have ix := ix_118 E1 42 (by omega) (rcS σ0 a (C.map enI ++ Lc) false)
        rw [ec] at kn
        have kn : callD (E1 + 6) 37 [.ref 70] (rcS σ0 a (C.map enI ++ Lc) false) = some (some (.int 42), _) := kn
        have ix : callD (E1 + 6) 221 [.ref 118, .int 42] (rcS σ0 a (C.map enI ++ Lc) false) = some (some (.int 0), _) := ix
        have g1 : ((0 : Int32) < 0) = False := eq_false (by decide)
        have g2 : ((20007 : Int32) ≤ 0) = False := eq_false (by decide)
        have ms := sg_4_64_42 hm E2 op a an be (C ++ Lm) l1
        rcases su with ⟨a2, C2, x1, x2, x3, x4, x5, x6⟩ | ⟨a2, X, Y, x1, x2, x5, x6⟩
        · obtain ⟨bb, had⟩ := rc_add (E1 + 5) σ0 a2 (C2.map enI ++ (C.map enI ++ Lc)) false 20042
          have hco := m_codes_f (E2 + 2) τ0 a2 (C2 ++ (C ++ Lm)) op 20007 (by rw [List.length_append, List.length_append]; omega)
          have r := ih a2 (k + 1) (20007 :: (C2 ++ C)) (.int 42) (.int 20007) (by omega) x2 (by omega) (by omega) (by rw [List.length_cons, List.length_append]; omega) (wfC_2 hw x4 (by decide) (by decide))
          have e1 : ((20007 :: (C2 ++ C)).map enI ++ Lc : List Int32) = 20042 :: (C2.map enI ++ (C.map enI ++ Lc)) := by
            rw [List.map_cons, List.map_append, List.cons_append, List.append_assoc]
            rfl
          have e2 : ((20007 :: (C2 ++ C)) ++ Lm : List Int32) = 20007 :: (C2 ++ (C ++ Lm)) := by
            rw [List.cons_append, List.append_assoc]
          rw [e1, e2] at r
          have rc : ru (E1 + 6) 38 34 [.ref 70, .int 4, .int (nI op), .int 60, .int (nI k), l5] [] (rcS σ0 a (C.map enI ++ Lc) false) = ru (E1 + 6) 38 34 [.ref 70, .int 4, .int (nI op), .int 60, .int (nI (k + 1)), .int 42] [] (rcS σ0 a2 (20042 :: (C2.map enI ++ (C.map enI ++ Lc))) false) := by
            generalize hR : ru (E1 + 6) 38 34 _ [] (rcS σ0 a2 (20042 :: (C2.map enI ++ (C.map enI ++ Lc))) false) = R
            simp only [s38_34]
            simp only [s38_36, s38_37, s38_40, s38_41_o70, s38_44, s38_47, s38_48, s38_51, s38_52_o70, s38_55_o114, s38_55_o115, s38_55_o116, s38_55_o117, s38_55_o118, s38_58, s38_61, s38_62_o70, s38_65, s38_67, s38_68, s38_69_o70, s38_72, s38_73, s38_74_o70, s38_77, s38_78, s38_79, s38_80, s38_81, s38_82_o70, s38_85, s38_86_o70, s38_89, s38_92, s38_94, s38_95_o71, s38_98, s38_99, s38_102, c36, c36, s36_0, s36_1, s36_32, s36_34, s36_35, s36_37, s36_38, s36_40, s36_41, s36_43, s36_44, s36_46, g, fw, kn, ix, g1, f3, n1, n2, up2_rep, sa, x5, had, show (4 + 1 : Int32) = 5 from rfl, show (20000 + 42 : Int32) = 20042 from rfl, simprocAttr, if_true, if_false, true_and, and_true, false_and, and_false, not_false_eq_true, not_true_eq_false, gd_T, kont_i, kont_v]
            exact hR
          have rm : ru (E2 + 3) 151 64 [.ref 87, l1] [] (rmS τ0 a (C ++ Lm) false op) = ru (E2 + 3) 151 64 [.ref 87, .int 20007] [] (rmS τ0 a2 (20007 :: (C2 ++ (C ++ Lm))) false op) := by
            rw [ms]
            simp only [s151_51]
            simp only [s151_52, s151_55, s151_56_o87, s151_59, s151_60, s151_61_o87, g2, x6, hco, simprocAttr, if_true, if_false, true_and, and_true, false_and, and_false, not_false_eq_true, not_true_eq_false, gd_T, kont_i, kont_v]
          rw [rc, rm]
          exact r
        · obtain ⟨bb, had⟩ := rc_add (E1 + 5) σ0 a2 X true 20042
          have hco := m_codes_t (E2 + 2) τ0 a2 Y op 20007
          have fw2 : rcS σ0 a2 (20042 :: X) true 70 4 = 1 := rc_w _ _ _ _
          refine Or.inr ⟨a2, 20042 :: X, Y, by omega, x2, ?_, ?_⟩
          · have rc : ru (E1 + 6) 38 34 [.ref 70, .int 4, .int (nI op), .int 60, .int (nI k), l5] [] (rcS σ0 a (C.map enI ++ Lc) false) = ru (E1 + 6) 38 34 [.ref 70, .int 4, .int (nI op), .int 60, .int (nI (k + 1)), .int 42] [] (rcS σ0 a2 (20042 :: X) true) := by
              generalize hR : ru (E1 + 6) 38 34 _ [] (rcS σ0 a2 (20042 :: X) true) = R
              simp only [s38_34]
              simp only [s38_36, s38_37, s38_40, s38_41_o70, s38_44, s38_47, s38_48, s38_51, s38_52_o70, s38_55_o114, s38_55_o115, s38_55_o116, s38_55_o117, s38_55_o118, s38_58, s38_61, s38_62_o70, s38_65, s38_67, s38_68, s38_69_o70, s38_72, s38_73, s38_74_o70, s38_77, s38_78, s38_79, s38_80, s38_81, s38_82_o70, s38_85, s38_86_o70, s38_89, s38_92, s38_94, s38_95_o71, s38_98, s38_99, s38_102, c36, c36, s36_0, s36_1, s36_32, s36_34, s36_35, s36_37, s36_38, s36_40, s36_41, s36_43, s36_44, s36_46, g, fw, kn, ix, g1, f3, n1, n2, up2_rep, sa, x5, had, show (4 + 1 : Int32) = 5 from rfl, show (20000 + 42 : Int32) = 20042 from rfl, simprocAttr, if_true, if_false, true_and, and_true, false_and, and_false, not_false_eq_true, not_true_eq_false, gd_T, kont_i, kont_v]
              exact hR
            rw [rc]
            simp only [s38_34]
            by_cases z : (60 : Int32) ≤ nI (k + 1)
            · have z' := eq_true z
              simp only [s38_36, s38_37, s38_40, s38_41_o70, s38_44, s38_105, z', fw2, one, simprocAttr, if_true, if_false, true_and, and_true, false_and, and_false, not_false_eq_true, not_true_eq_false, gd_T, kont_i, kont_v]
            · have z' := eq_false z
              simp only [s38_36, s38_37, s38_40, s38_41_o70, s38_44, s38_105, z', fw2, one, simprocAttr, if_true, if_false, true_and, and_true, false_and, and_false, not_false_eq_true, not_true_eq_false, gd_T, kont_i, kont_v]
          · rw [ms]
            simp only [s151_51]
            simp only [s151_52, s151_55, s151_56_o87, s151_59, s151_60, s151_61_o87, g2, x6, hco, simprocAttr, if_true, if_false, true_and, and_true, false_and, and_false, not_false_eq_true, not_true_eq_false, gd_T, kont_i, kont_v]
            exact sg_4_64_w E2 op a2 (by omega) Y _
      · have ec : chN B n a = 47 := by unfold chN; rw [if_pos an, be]
        have ix := ix_118 E1 47 (by omega) (rcS σ0 a (C.map enI ++ Lc) false)
        rw [ec] at kn
        have kn : callD (E1 + 6) 37 [.ref 70] (rcS σ0 a (C.map enI ++ Lc) false) = some (some (.int 47), _) := kn
        have ix : callD (E1 + 6) 221 [.ref 118, .int 47] (rcS σ0 a (C.map enI ++ Lc) false) = some (some (.int 1), _) := ix
        have g1 : ((1 : Int32) < 0) = False := eq_false (by decide)
        have g2 : ((20008 : Int32) ≤ 0) = False := eq_false (by decide)
        have ms := sg_4_64_47 hm E2 op a an be (C ++ Lm) l1
        rcases su with ⟨a2, C2, x1, x2, x3, x4, x5, x6⟩ | ⟨a2, X, Y, x1, x2, x5, x6⟩
        · obtain ⟨bb, had⟩ := rc_add (E1 + 5) σ0 a2 (C2.map enI ++ (C.map enI ++ Lc)) false 20047
          have hco := m_codes_f (E2 + 2) τ0 a2 (C2 ++ (C ++ Lm)) op 20008 (by rw [List.length_append, List.length_append]; omega)
          have r := ih a2 (k + 1) (20008 :: (C2 ++ C)) (.int 47) (.int 20008) (by omega) x2 (by omega) (by omega) (by rw [List.length_cons, List.length_append]; omega) (wfC_2 hw x4 (by decide) (by decide))
          have e1 : ((20008 :: (C2 ++ C)).map enI ++ Lc : List Int32) = 20047 :: (C2.map enI ++ (C.map enI ++ Lc)) := by
            rw [List.map_cons, List.map_append, List.cons_append, List.append_assoc]
            rfl
          have e2 : ((20008 :: (C2 ++ C)) ++ Lm : List Int32) = 20008 :: (C2 ++ (C ++ Lm)) := by
            rw [List.cons_append, List.append_assoc]
          rw [e1, e2] at r
          have rc : ru (E1 + 6) 38 34 [.ref 70, .int 4, .int (nI op), .int 60, .int (nI k), l5] [] (rcS σ0 a (C.map enI ++ Lc) false) = ru (E1 + 6) 38 34 [.ref 70, .int 4, .int (nI op), .int 60, .int (nI (k + 1)), .int 47] [] (rcS σ0 a2 (20047 :: (C2.map enI ++ (C.map enI ++ Lc))) false) := by
            generalize hR : ru (E1 + 6) 38 34 _ [] (rcS σ0 a2 (20047 :: (C2.map enI ++ (C.map enI ++ Lc))) false) = R
            simp only [s38_34]
            simp only [s38_36, s38_37, s38_40, s38_41_o70, s38_44, s38_47, s38_48, s38_51, s38_52_o70, s38_55_o114, s38_55_o115, s38_55_o116, s38_55_o117, s38_55_o118, s38_58, s38_61, s38_62_o70, s38_65, s38_67, s38_68, s38_69_o70, s38_72, s38_73, s38_74_o70, s38_77, s38_78, s38_79, s38_80, s38_81, s38_82_o70, s38_85, s38_86_o70, s38_89, s38_92, s38_94, s38_95_o71, s38_98, s38_99, s38_102, c36, c36, s36_0, s36_1, s36_32, s36_34, s36_35, s36_37, s36_38, s36_40, s36_41, s36_43, s36_44, s36_46, g, fw, kn, ix, g1, f3, n1, n2, up2_rep, sa, x5, had, show (4 + 1 : Int32) = 5 from rfl, show (20000 + 47 : Int32) = 20047 from rfl, simprocAttr, if_true, if_false, true_and, and_true, false_and, and_false, not_false_eq_true, not_true_eq_false, gd_T, kont_i, kont_v]
            exact hR
          have rm : ru (E2 + 3) 151 64 [.ref 87, l1] [] (rmS τ0 a (C ++ Lm) false op) = ru (E2 + 3) 151 64 [.ref 87, .int 20008] [] (rmS τ0 a2 (20008 :: (C2 ++ (C ++ Lm))) false op) := by
            rw [ms]
            simp only [s151_51]
            simp only [s151_52, s151_55, s151_56_o87, s151_59, s151_60, s151_61_o87, g2, x6, hco, simprocAttr, if_true, if_false, true_and, and_true, false_and, and_false, not_false_eq_true, not_true_eq_false, gd_T, kont_i, kont_v]
          rw [rc, rm]
          exact r
        · obtain ⟨bb, had⟩ := rc_add (E1 + 5) σ0 a2 X true 20047
          have hco := m_codes_t (E2 + 2) τ0 a2 Y op 20008
          have fw2 : rcS σ0 a2 (20047 :: X) true 70 4 = 1 := rc_w _ _ _ _
          refine Or.inr ⟨a2, 20047 :: X, Y, by omega, x2, ?_, ?_⟩
          · have rc : ru (E1 + 6) 38 34 [.ref 70, .int 4, .int (nI op), .int 60, .int (nI k), l5] [] (rcS σ0 a (C.map enI ++ Lc) false) = ru (E1 + 6) 38 34 [.ref 70, .int 4, .int (nI op), .int 60, .int (nI (k + 1)), .int 47] [] (rcS σ0 a2 (20047 :: X) true) := by
              generalize hR : ru (E1 + 6) 38 34 _ [] (rcS σ0 a2 (20047 :: X) true) = R
              simp only [s38_34]
              simp only [s38_36, s38_37, s38_40, s38_41_o70, s38_44, s38_47, s38_48, s38_51, s38_52_o70, s38_55_o114, s38_55_o115, s38_55_o116, s38_55_o117, s38_55_o118, s38_58, s38_61, s38_62_o70, s38_65, s38_67, s38_68, s38_69_o70, s38_72, s38_73, s38_74_o70, s38_77, s38_78, s38_79, s38_80, s38_81, s38_82_o70, s38_85, s38_86_o70, s38_89, s38_92, s38_94, s38_95_o71, s38_98, s38_99, s38_102, c36, c36, s36_0, s36_1, s36_32, s36_34, s36_35, s36_37, s36_38, s36_40, s36_41, s36_43, s36_44, s36_46, g, fw, kn, ix, g1, f3, n1, n2, up2_rep, sa, x5, had, show (4 + 1 : Int32) = 5 from rfl, show (20000 + 47 : Int32) = 20047 from rfl, simprocAttr, if_true, if_false, true_and, and_true, false_and, and_false, not_false_eq_true, not_true_eq_false, gd_T, kont_i, kont_v]
              exact hR
            rw [rc]
            simp only [s38_34]
            by_cases z : (60 : Int32) ≤ nI (k + 1)
            · have z' := eq_true z
              simp only [s38_36, s38_37, s38_40, s38_41_o70, s38_44, s38_105, z', fw2, one, simprocAttr, if_true, if_false, true_and, and_true, false_and, and_false, not_false_eq_true, not_true_eq_false, gd_T, kont_i, kont_v]
            · have z' := eq_false z
              simp only [s38_36, s38_37, s38_40, s38_41_o70, s38_44, s38_105, z', fw2, one, simprocAttr, if_true, if_false, true_and, and_true, false_and, and_false, not_false_eq_true, not_true_eq_false, gd_T, kont_i, kont_v]
          · rw [ms]
            simp only [s151_51]
            simp only [s151_52, s151_55, s151_56_o87, s151_59, s151_60, s151_61_o87, g2, x6, hco, simprocAttr, if_true, if_false, true_and, and_true, false_and, and_false, not_false_eq_true, not_true_eq_false, gd_T, kont_i, kont_v]
            exact sg_4_64_w E2 op a2 (by omega) Y _
      · have ec : chN B n a = 37 := by unfold chN; rw [if_pos an, be]
        have ix := ix_118 E1 37 (by omega) (rcS σ0 a (C.map enI ++ Lc) false)
        rw [ec] at kn
        have kn : callD (E1 + 6) 37 [.ref 70] (rcS σ0 a (C.map enI ++ Lc) false) = some (some (.int 37), _) := kn
        have ix : callD (E1 + 6) 221 [.ref 118, .int 37] (rcS σ0 a (C.map enI ++ Lc) false) = some (some (.int 2), _) := ix
        have g1 : ((2 : Int32) < 0) = False := eq_false (by decide)
        have g2 : ((20009 : Int32) ≤ 0) = False := eq_false (by decide)
        have ms := sg_4_64_37 hm E2 op a an be (C ++ Lm) l1
        rcases su with ⟨a2, C2, x1, x2, x3, x4, x5, x6⟩ | ⟨a2, X, Y, x1, x2, x5, x6⟩
        · obtain ⟨bb, had⟩ := rc_add (E1 + 5) σ0 a2 (C2.map enI ++ (C.map enI ++ Lc)) false 20037
          have hco := m_codes_f (E2 + 2) τ0 a2 (C2 ++ (C ++ Lm)) op 20009 (by rw [List.length_append, List.length_append]; omega)
          have r := ih a2 (k + 1) (20009 :: (C2 ++ C)) (.int 37) (.int 20009) (by omega) x2 (by omega) (by omega) (by rw [List.length_cons, List.length_append]; omega) (wfC_2 hw x4 (by decide) (by decide))
          have e1 : ((20009 :: (C2 ++ C)).map enI ++ Lc : List Int32) = 20037 :: (C2.map enI ++ (C.map enI ++ Lc)) := by
            rw [List.map_cons, List.map_append, List.cons_append, List.append_assoc]
            rfl
          have e2 : ((20009 :: (C2 ++ C)) ++ Lm : List Int32) = 20009 :: (C2 ++ (C ++ Lm)) := by
            rw [List.cons_append, List.append_assoc]
          rw [e1, e2] at r
          have rc : ru (E1 + 6) 38 34 [.ref 70, .int 4, .int (nI op), .int 60, .int (nI k), l5] [] (rcS σ0 a (C.map enI ++ Lc) false) = ru (E1 + 6) 38 34 [.ref 70, .int 4, .int (nI op), .int 60, .int (nI (k + 1)), .int 37] [] (rcS σ0 a2 (20037 :: (C2.map enI ++ (C.map enI ++ Lc))) false) := by
            generalize hR : ru (E1 + 6) 38 34 _ [] (rcS σ0 a2 (20037 :: (C2.map enI ++ (C.map enI ++ Lc))) false) = R
            simp only [s38_34]
            simp only [s38_36, s38_37, s38_40, s38_41_o70, s38_44, s38_47, s38_48, s38_51, s38_52_o70, s38_55_o114, s38_55_o115, s38_55_o116, s38_55_o117, s38_55_o118, s38_58, s38_61, s38_62_o70, s38_65, s38_67, s38_68, s38_69_o70, s38_72, s38_73, s38_74_o70, s38_77, s38_78, s38_79, s38_80, s38_81, s38_82_o70, s38_85, s38_86_o70, s38_89, s38_92, s38_94, s38_95_o71, s38_98, s38_99, s38_102, c36, c36, s36_0, s36_1, s36_32, s36_34, s36_35, s36_37, s36_38, s36_40, s36_41, s36_43, s36_44, s36_46, g, fw, kn, ix, g1, f3, n1, n2, up2_rep, sa, x5, had, show (4 + 1 : Int32) = 5 from rfl, show (20000 + 37 : Int32) = 20037 from rfl, simprocAttr, if_true, if_false, true_and, and_true, false_and, and_false, not_false_eq_true, not_true_eq_false, gd_T, kont_i, kont_v]
            exact hR
          have rm : ru (E2 + 3) 151 64 [.ref 87, l1] [] (rmS τ0 a (C ++ Lm) false op) = ru (E2 + 3) 151 64 [.ref 87, .int 20009] [] (rmS τ0 a2 (20009 :: (C2 ++ (C ++ Lm))) false op) := by
            rw [ms]
            simp only [s151_51]
            simp only [s151_52, s151_55, s151_56_o87, s151_59, s151_60, s151_61_o87, g2, x6, hco, simprocAttr, if_true, if_false, true_and, and_true, false_and, and_false, not_false_eq_true, not_true_eq_false, gd_T, kont_i, kont_v]
          rw [rc, rm]
          exact r
        · obtain ⟨bb, had⟩ := rc_add (E1 + 5) σ0 a2 X true 20037
          have hco := m_codes_t (E2 + 2) τ0 a2 Y op 20009
          have fw2 : rcS σ0 a2 (20037 :: X) true 70 4 = 1 := rc_w _ _ _ _
          refine Or.inr ⟨a2, 20037 :: X, Y, by omega, x2, ?_, ?_⟩
          · have rc : ru (E1 + 6) 38 34 [.ref 70, .int 4, .int (nI op), .int 60, .int (nI k), l5] [] (rcS σ0 a (C.map enI ++ Lc) false) = ru (E1 + 6) 38 34 [.ref 70, .int 4, .int (nI op), .int 60, .int (nI (k + 1)), .int 37] [] (rcS σ0 a2 (20037 :: X) true) := by
              generalize hR : ru (E1 + 6) 38 34 _ [] (rcS σ0 a2 (20037 :: X) true) = R
              simp only [s38_34]
              simp only [s38_36, s38_37, s38_40, s38_41_o70, s38_44, s38_47, s38_48, s38_51, s38_52_o70, s38_55_o114, s38_55_o115, s38_55_o116, s38_55_o117, s38_55_o118, s38_58, s38_61, s38_62_o70, s38_65, s38_67, s38_68, s38_69_o70, s38_72, s38_73, s38_74_o70, s38_77, s38_78, s38_79, s38_80, s38_81, s38_82_o70, s38_85, s38_86_o70, s38_89, s38_92, s38_94, s38_95_o71, s38_98, s38_99, s38_102, c36, c36, s36_0, s36_1, s36_32, s36_34, s36_35, s36_37, s36_38, s36_40, s36_41, s36_43, s36_44, s36_46, g, fw, kn, ix, g1, f3, n1, n2, up2_rep, sa, x5, had, show (4 + 1 : Int32) = 5 from rfl, show (20000 + 37 : Int32) = 20037 from rfl, simprocAttr, if_true, if_false, true_and, and_true, false_and, and_false, not_false_eq_true, not_true_eq_false, gd_T, kont_i, kont_v]
              exact hR
            rw [rc]
            simp only [s38_34]
            by_cases z : (60 : Int32) ≤ nI (k + 1)
            · have z' := eq_true z
              simp only [s38_36, s38_37, s38_40, s38_41_o70, s38_44, s38_105, z', fw2, one, simprocAttr, if_true, if_false, true_and, and_true, false_and, and_false, not_false_eq_true, not_true_eq_false, gd_T, kont_i, kont_v]
            · have z' := eq_false z
              simp only [s38_36, s38_37, s38_40, s38_41_o70, s38_44, s38_105, z', fw2, one, simprocAttr, if_true, if_false, true_and, and_true, false_and, and_false, not_false_eq_true, not_true_eq_false, gd_T, kont_i, kont_v]
          · rw [ms]
            simp only [s151_51]
            simp only [s151_52, s151_55, s151_56_o87, s151_59, s151_60, s151_61_o87, g2, x6, hco, simprocAttr, if_true, if_false, true_and, and_true, false_and, and_false, not_false_eq_true, not_true_eq_false, gd_T, kont_i, kont_v]
            exact sg_4_64_w E2 op a2 (by omega) Y _
    · exact stop a k C l5 l1 ha hk h0 hC hw hne
