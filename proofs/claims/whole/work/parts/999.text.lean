/-! ===== text: levels ===== -/
def wfC (C : List Int32) : Prop := ∀ cs n, wfV cs (n + 1) → wfV (C.reverse ++ cs) n
theorem wfC_1 {v : Nat} (h : v < 10004) : wfC [nI v] := by
  intro cs n hc
  show wfV (nI v :: cs) n
  unfold wfV
  refine Or.inl ⟨?_, nI_pos' (by omega), ?_, hc⟩
  · rw [show (20000 : Int32) = nI 20000 from rfl, lt_nn (by omega) (by omega)]; omega
  · rw [show (10004 : Int32) = nI 10004 from rfl, lt_nn (by omega) (by omega)]; omega
theorem wfC_2 {A C : List Int32} {s : Int32} (ha : wfC A) (hc : wfC C) (h1 : ¬ s < 20000) (h2 : ¬ s = 20010) : wfC (s :: (C ++ A)) := by
  intro cs n h
  rw [List.reverse_cons, List.reverse_append, List.append_assoc, List.append_assoc]
  refine ha _ _ (hc _ _ ?_)
  show wfV (s :: cs) (n + 1 + 1)
  unfold wfV
  exact Or.inr (Or.inr ⟨h1, h2, by omega, h⟩)
theorem wfC_n {A : List Int32} (ha : wfC A) : wfC (20010 :: A) := by
  intro cs n h
  rw [List.reverse_cons, List.append_assoc]
  refine ha _ _ ?_
  show wfV (20010 :: cs) (n + 1)
  unfold wfV
  exact Or.inr (Or.inl ⟨by decide, rfl, by omega, h⟩)
def PRz (σ0 τ0 : Hs) (n op a : Nat) (Lc Lm : List Int32) (Rc Rm : Rs) : Prop := (∃ a2 C, a < a2 ∧ a2 ≤ n ∧ C.length + a ≤ a2 ∧ wfC C ∧ Rc = some (none, rcS σ0 a2 (C.map enI ++ Lc) false) ∧ Rm = some (none, rmS τ0 a2 (C ++ Lm) false op)) ∨ (∃ a2 X Y, a ≤ a2 ∧ a2 ≤ n ∧ Rc = some (none, rcS σ0 a2 X true) ∧ Rm = some (none, rmS τ0 a2 Y true op))
theorem lvl_0_l {σ0 τ0 : Hs} {n : Nat} {B : Nat → Nat} (hc : TPc σ0 n B) (hm : TPm τ0 n B) (E1 E2 op : Nat) (sub : ∀ a Lc Lm, a ≤ n → Lm.length ≤ a → PRz σ0 τ0 n op a Lc Lm (callD (E1 + 6) 38 [.ref 70, .int 1, .int (nI op)] (rcS σ0 a Lc false)) (callD (E2 + 3) 148 [.ref 87] (rmS τ0 a Lm false op))) (a0 : Nat) (Lc Lm : List Int32) (hL : Lm.length ≤ a0) : ∀ m a k C l5, n - a ≤ m → a ≤ n → k ≤ a → a0 < a → C.length + a0 ≤ a → wfC C → PRz σ0 τ0 n op a0 Lc Lm (ru (E1 + 6) 38 34 [.ref 70, .int 0, .int (nI op), .int 60, .int (nI k), l5] [] (rcS σ0 a (C.map enI ++ Lc) false)) (ru (E2 + 3) 147 4 [.ref 87] [] (rmS τ0 a (C ++ Lm) false op)) := by
  intro m
  have n60 : n ≤ 60 := hc.1
  have stop : ∀ a k C l5, a ≤ n → k ≤ a → a0 < a → C.length + a0 ≤ a → wfC C → ¬ (a < n ∧ B a = 124) → PRz σ0 τ0 n op a0 Lc Lm (ru (E1 + 6) 38 34 [.ref 70, .int 0, .int (nI op), .int 60, .int (nI k), l5] [] (rcS σ0 a (C.map enI ++ Lc) false)) (ru (E2 + 3) 147 4 [.ref 87] [] (rmS τ0 a (C ++ Lm) false op)) := by
    intro a k C l5 ha hk h0 hC hw hne
    refine Or.inl ⟨a, C, h0, ha, hC, hw, ?_, ?_⟩
    · have fw : rcS σ0 a (C.map enI ++ Lc) false 70 4 = 0 := rc_w _ _ _ _
      have kn := k_next (E1 + 4) σ0 a n B (by omega) hc (C.map enI ++ Lc) false
      have ix := ix_114 E1 (chN B n a) (ch_lt hc a) (rcS σ0 a (C.map enI ++ Lc) false)
      have cne : ¬ chN B n a = 124 := fun q => by
        unfold chN at q
        by_cases z : a < n
        · rw [if_pos z] at q; exact hne ⟨z, q⟩
        · rw [if_neg z] at q; omega
      rw [show ixF [124] 0 (chN B n a) = -1 from by simp only [ixF, if_neg cne]] at ix
      have g1 : ((-1 : Int32) < 0) = True := eq_true (by decide)
      by_cases z : 60 ≤ k
      · have g : ((60 : Int32) ≤ nI k) = True := by rw [show (60 : Int32) = nI 60 from rfl, le_nn (by omega) (by omega)]; exact eq_true z
        simp only [s38_34]
        simp only [s38_36, s38_37, s38_40, s38_41_o70, s38_44, s38_47, s38_48, s38_51, s38_52_o70, s38_55_o114, s38_55_o115, s38_55_o116, s38_55_o117, s38_55_o118, s38_58, s38_61, s38_62_o70, s38_65, s38_67, s38_68, s38_69_o70, s38_72, s38_73, s38_74_o70, s38_77, s38_78, s38_79, s38_80, s38_81, s38_82_o70, s38_85, s38_86_o70, s38_89, s38_92, s38_94, s38_95_o71, s38_98, s38_99, s38_102, s38_105, g, simprocAttr, if_true, if_false, true_and, and_true, false_and, and_false, not_false_eq_true, not_true_eq_false, gd_T, kont_i, kont_v]
      · have g : ((60 : Int32) ≤ nI k) = False := by rw [show (60 : Int32) = nI 60 from rfl, le_nn (by omega) (by omega)]; exact eq_false z
        simp only [s38_34]
        simp only [s38_36, s38_37, s38_40, s38_41_o70, s38_44, s38_47, s38_48, s38_51, s38_52_o70, s38_55_o114, s38_55_o115, s38_55_o116, s38_55_o117, s38_55_o118, s38_58, s38_105, c36, c36, s36_0, s36_1, s36_32, s36_34, s36_35, s36_37, s36_38, s36_40, s36_41, s36_43, s36_44, s36_46, g, fw, kn, ix, g1, simprocAttr, if_true, if_false, true_and, and_true, false_and, and_false, not_false_eq_true, not_true_eq_false, gd_T, kont_i, kont_v]
    · have mt := m_takes_n (E2 + 1) τ0 a n B (by omega) hm (C ++ Lm) op 124 (by omega) hne
      have mt : callD (E2 + 3) 145 [.ref 87, .int 124] _ = _ := mt
      simp only [s147_4]
      simp only [s147_5, s147_7_o87, s147_10, s147_13, s147_14_o87, s147_17, s147_18, s147_21_o87, s147_24, s147_27, mt, simprocAttr, if_true, if_false, true_and, and_true, false_and, and_false, not_false_eq_true, not_true_eq_false, gd_T, kont_i, kont_v]
  induction m with
  | zero =>
    intro a k C l5 hm0 ha hk h0 hC hw
    exact stop a k C l5 ha hk h0 hC hw (fun q => by omega)
  | succ m ih =>
    intro a k C l5 hm0 ha hk h0 hC hw
    by_cases hne : a < n ∧ B a = 124
    · obtain ⟨an, be⟩ := hne
      have fw : rcS σ0 a (C.map enI ++ Lc) false 70 4 = 0 := rc_w _ _ _ _
      have f3 := rc_at σ0 a (C.map enI ++ Lc) false
      have sa := rc_sa σ0 a (a + 1) (C.map enI ++ Lc) false
      have n1 := nI_1 a
      have n2 := nI_1 k
      have ec : chN B n a = 124 := by unfold chN; rw [if_pos an, be]
      have kn := k_next (E1 + 4) σ0 a n B (by omega) hc (C.map enI ++ Lc) false
      have ix := ix_114 E1 124 (by omega) (rcS σ0 a (C.map enI ++ Lc) false)
      rw [ec] at kn
      have kn : callD (E1 + 6) 37 [.ref 70] (rcS σ0 a (C.map enI ++ Lc) false) = some (some (.int 124), _) := kn
      have ix : callD (E1 + 6) 221 [.ref 114, .int 124] (rcS σ0 a (C.map enI ++ Lc) false) = some (some (.int 0), _) := ix
      have g1 : ((0 : Int32) < 0) = False := eq_false (by decide)
      have g : ((60 : Int32) ≤ nI k) = False := by rw [show (60 : Int32) = nI 60 from rfl, le_nn (by omega) (by omega)]; exact eq_false (by omega)
      have mt : callD (E2 + 3) 145 [.ref 87, .int 124] _ = _ := m_takes_y (E2 + 1) τ0 a n B (by omega) hm (C ++ Lm) op 124 an be
      have one : ((1 : Int32) = 0) = False := eq_false (by decide)
      have su := sub (a + 1) (C.map enI ++ Lc) (C ++ Lm) (by omega) (by rw [List.length_append]; omega)
      rcases su with ⟨a2, C2, x1, x2, x3, x4, x5, x6⟩ | ⟨a2, X, Y, x1, x2, x5, x6⟩
      · obtain ⟨bb, had⟩ := rc_add (E1 + 5) σ0 a2 (C2.map enI ++ (C.map enI ++ Lc)) false 20124
        have hco := m_codes_f (E2 + 2) τ0 a2 (C2 ++ (C ++ Lm)) op 20000 (by rw [List.length_append, List.length_append]; omega)
        have r := ih a2 (k + 1) (20000 :: (C2 ++ C)) (.int 124) (by omega) x2 (by omega) (by omega) (by rw [List.length_cons, List.length_append]; omega) (wfC_2 hw x4 (by decide) (by decide))
        have e1 : ((20000 :: (C2 ++ C)).map enI ++ Lc : List Int32) = 20124 :: (C2.map enI ++ (C.map enI ++ Lc)) := by
          rw [List.map_cons, List.map_append, List.cons_append, List.append_assoc]
          rfl
        have e2 : ((20000 :: (C2 ++ C)) ++ Lm : List Int32) = 20000 :: (C2 ++ (C ++ Lm)) := by
          rw [List.cons_append, List.append_assoc]
        rw [e1, e2] at r
        have rc : ru (E1 + 6) 38 34 [.ref 70, .int 0, .int (nI op), .int 60, .int (nI k), l5] [] (rcS σ0 a (C.map enI ++ Lc) false) = ru (E1 + 6) 38 34 [.ref 70, .int 0, .int (nI op), .int 60, .int (nI (k + 1)), .int 124] [] (rcS σ0 a2 (20124 :: (C2.map enI ++ (C.map enI ++ Lc))) false) := by
          generalize hR : ru (E1 + 6) 38 34 _ [] (rcS σ0 a2 (20124 :: (C2.map enI ++ (C.map enI ++ Lc))) false) = R
          simp only [s38_34]
          simp only [s38_36, s38_37, s38_40, s38_41_o70, s38_44, s38_47, s38_48, s38_51, s38_52_o70, s38_55_o114, s38_55_o115, s38_55_o116, s38_55_o117, s38_55_o118, s38_58, s38_61, s38_62_o70, s38_65, s38_67, s38_68, s38_69_o70, s38_72, s38_73, s38_74_o70, s38_77, s38_78, s38_79, s38_80, s38_81, s38_82_o70, s38_85, s38_86_o70, s38_89, s38_92, s38_94, s38_95_o71, s38_98, s38_99, s38_102, c36, c36, s36_0, s36_1, s36_32, s36_34, s36_35, s36_37, s36_38, s36_40, s36_41, s36_43, s36_44, s36_46, g, fw, kn, ix, g1, f3, n1, n2, up2_rep, sa, x5, had, show (0 + 1 : Int32) = 1 from rfl, show (20000 + 124 : Int32) = 20124 from rfl, simprocAttr, if_true, if_false, true_and, and_true, false_and, and_false, not_false_eq_true, not_true_eq_false, gd_T, kont_i, kont_v]
          exact hR
        have rm : ru (E2 + 3) 147 4 [.ref 87] [] (rmS τ0 a (C ++ Lm) false op) = ru (E2 + 3) 147 4 [.ref 87] [] (rmS τ0 a2 (20000 :: (C2 ++ (C ++ Lm))) false op) := by
          generalize hR : ru (E2 + 3) 147 4 _ [] (rmS τ0 a2 (20000 :: (C2 ++ (C ++ Lm))) false op) = R
          simp only [s147_4]
          simp only [s147_5, s147_7_o87, s147_10, s147_13, s147_14_o87, s147_17, s147_18, s147_21_o87, s147_24, mt, one, x6, hco, simprocAttr, if_true, if_false, true_and, and_true, false_and, and_false, not_false_eq_true, not_true_eq_false, gd_T, kont_i, kont_v]
          exact hR
        rw [rc, rm]
        exact r
      · obtain ⟨bb, had⟩ := rc_add (E1 + 5) σ0 a2 X true 20124
        have hco := m_codes_t (E2 + 2) τ0 a2 Y op 20000
        have fw2 : rcS σ0 a2 (20124 :: X) true 70 4 = 1 := rc_w _ _ _ _
        have mt2 : callD (E2 + 3) 145 [.ref 87, .int 124] _ = _ := m_takes_t (E2 + 1) τ0 a2 (by omega) Y op 124 (by omega)
        refine Or.inr ⟨a2, 20124 :: X, Y, by omega, x2, ?_, ?_⟩
        · have rc : ru (E1 + 6) 38 34 [.ref 70, .int 0, .int (nI op), .int 60, .int (nI k), l5] [] (rcS σ0 a (C.map enI ++ Lc) false) = ru (E1 + 6) 38 34 [.ref 70, .int 0, .int (nI op), .int 60, .int (nI (k + 1)), .int 124] [] (rcS σ0 a2 (20124 :: X) true) := by
            generalize hR : ru (E1 + 6) 38 34 _ [] (rcS σ0 a2 (20124 :: X) true) = R
            simp only [s38_34]
            simp only [s38_36, s38_37, s38_40, s38_41_o70, s38_44, s38_47, s38_48, s38_51, s38_52_o70, s38_55_o114, s38_55_o115, s38_55_o116, s38_55_o117, s38_55_o118, s38_58, s38_61, s38_62_o70, s38_65, s38_67, s38_68, s38_69_o70, s38_72, s38_73, s38_74_o70, s38_77, s38_78, s38_79, s38_80, s38_81, s38_82_o70, s38_85, s38_86_o70, s38_89, s38_92, s38_94, s38_95_o71, s38_98, s38_99, s38_102, c36, c36, s36_0, s36_1, s36_32, s36_34, s36_35, s36_37, s36_38, s36_40, s36_41, s36_43, s36_44, s36_46, g, fw, kn, ix, g1, f3, n1, n2, up2_rep, sa, x5, had, show (0 + 1 : Int32) = 1 from rfl, show (20000 + 124 : Int32) = 20124 from rfl, simprocAttr, if_true, if_false, true_and, and_true, false_and, and_false, not_false_eq_true, not_true_eq_false, gd_T, kont_i, kont_v]
            exact hR
          rw [rc]
          simp only [s38_34]
          by_cases z : (60 : Int32) ≤ nI (k + 1)
          · have z' := eq_true z
            simp only [s38_36, s38_37, s38_40, s38_41_o70, s38_44, s38_105, z', fw2, one, simprocAttr, if_true, if_false, true_and, and_true, false_and, and_false, not_false_eq_true, not_true_eq_false, gd_T, kont_i, kont_v]
          · have z' := eq_false z
            simp only [s38_36, s38_37, s38_40, s38_41_o70, s38_44, s38_105, z', fw2, one, simprocAttr, if_true, if_false, true_and, and_true, false_and, and_false, not_false_eq_true, not_true_eq_false, gd_T, kont_i, kont_v]
        · simp only [s147_4]
          simp only [s147_5, s147_7_o87, s147_10, s147_13, s147_14_o87, s147_17, s147_18, s147_21_o87, s147_24, mt, one, x6, hco, simprocAttr, if_true, if_false, true_and, and_true, false_and, and_false, not_false_eq_true, not_true_eq_false, gd_T, kont_i, kont_v]
          simp only [s147_4]
          simp only [s147_5, s147_7_o87, s147_10, s147_13, s147_14_o87, s147_17, s147_18, s147_21_o87, s147_24, s147_27, mt2, simprocAttr, if_true, if_false, true_and, and_true, false_and, and_false, not_false_eq_true, not_true_eq_false, gd_T, kont_i, kont_v]
    · exact stop a k C l5 ha hk h0 hC hw hne
theorem lvl_1_l {σ0 τ0 : Hs} {n : Nat} {B : Nat → Nat} (hc : TPc σ0 n B) (hm : TPm τ0 n B) (E1 E2 op : Nat) (sub : ∀ a Lc Lm, a ≤ n → Lm.length ≤ a → PRz σ0 τ0 n op a Lc Lm (callD (E1 + 6) 38 [.ref 70, .int 2, .int (nI op)] (rcS σ0 a Lc false)) (callD (E2 + 3) 149 [.ref 87] (rmS τ0 a Lm false op))) (a0 : Nat) (Lc Lm : List Int32) (hL : Lm.length ≤ a0) : ∀ m a k C l5, n - a ≤ m → a ≤ n → k ≤ a → a0 < a → C.length + a0 ≤ a → wfC C → PRz σ0 τ0 n op a0 Lc Lm (ru (E1 + 6) 38 34 [.ref 70, .int 1, .int (nI op), .int 60, .int (nI k), l5] [] (rcS σ0 a (C.map enI ++ Lc) false)) (ru (E2 + 3) 148 4 [.ref 87] [] (rmS τ0 a (C ++ Lm) false op)) := by
  intro m
  have n60 : n ≤ 60 := hc.1
  have stop : ∀ a k C l5, a ≤ n → k ≤ a → a0 < a → C.length + a0 ≤ a → wfC C → ¬ (a < n ∧ B a = 38) → PRz σ0 τ0 n op a0 Lc Lm (ru (E1 + 6) 38 34 [.ref 70, .int 1, .int (nI op), .int 60, .int (nI k), l5] [] (rcS σ0 a (C.map enI ++ Lc) false)) (ru (E2 + 3) 148 4 [.ref 87] [] (rmS τ0 a (C ++ Lm) false op)) := by
    intro a k C l5 ha hk h0 hC hw hne
    refine Or.inl ⟨a, C, h0, ha, hC, hw, ?_, ?_⟩
    · have fw : rcS σ0 a (C.map enI ++ Lc) false 70 4 = 0 := rc_w _ _ _ _
      have kn := k_next (E1 + 4) σ0 a n B (by omega) hc (C.map enI ++ Lc) false
      have ix := ix_115 E1 (chN B n a) (ch_lt hc a) (rcS σ0 a (C.map enI ++ Lc) false)
      have cne : ¬ chN B n a = 38 := fun q => by
        unfold chN at q
        by_cases z : a < n
        · rw [if_pos z] at q; exact hne ⟨z, q⟩
        · rw [if_neg z] at q; omega
      rw [show ixF [38] 0 (chN B n a) = -1 from by simp only [ixF, if_neg cne]] at ix
      have g1 : ((-1 : Int32) < 0) = True := eq_true (by decide)
      by_cases z : 60 ≤ k
      · have g : ((60 : Int32) ≤ nI k) = True := by rw [show (60 : Int32) = nI 60 from rfl, le_nn (by omega) (by omega)]; exact eq_true z
        simp only [s38_34]
        simp only [s38_36, s38_37, s38_40, s38_41_o70, s38_44, s38_47, s38_48, s38_51, s38_52_o70, s38_55_o114, s38_55_o115, s38_55_o116, s38_55_o117, s38_55_o118, s38_58, s38_61, s38_62_o70, s38_65, s38_67, s38_68, s38_69_o70, s38_72, s38_73, s38_74_o70, s38_77, s38_78, s38_79, s38_80, s38_81, s38_82_o70, s38_85, s38_86_o70, s38_89, s38_92, s38_94, s38_95_o71, s38_98, s38_99, s38_102, s38_105, g, simprocAttr, if_true, if_false, true_and, and_true, false_and, and_false, not_false_eq_true, not_true_eq_false, gd_T, kont_i, kont_v]
      · have g : ((60 : Int32) ≤ nI k) = False := by rw [show (60 : Int32) = nI 60 from rfl, le_nn (by omega) (by omega)]; exact eq_false z
        simp only [s38_34]
        simp only [s38_36, s38_37, s38_40, s38_41_o70, s38_44, s38_47, s38_48, s38_51, s38_52_o70, s38_55_o114, s38_55_o115, s38_55_o116, s38_55_o117, s38_55_o118, s38_58, s38_105, c36, c36, s36_0, s36_1, s36_32, s36_34, s36_35, s36_37, s36_38, s36_40, s36_41, s36_43, s36_44, s36_46, g, fw, kn, ix, g1, simprocAttr, if_true, if_false, true_and, and_true, false_and, and_false, not_false_eq_true, not_true_eq_false, gd_T, kont_i, kont_v]
    · have mt := m_takes_n (E2 + 1) τ0 a n B (by omega) hm (C ++ Lm) op 38 (by omega) hne
      have mt : callD (E2 + 3) 145 [.ref 87, .int 38] _ = _ := mt
      simp only [s148_4]
      simp only [s148_5, s148_7_o87, s148_10, s148_13, s148_14_o87, s148_17, s148_18, s148_21_o87, s148_24, s148_27, mt, simprocAttr, if_true, if_false, true_and, and_true, false_and, and_false, not_false_eq_true, not_true_eq_false, gd_T, kont_i, kont_v]
  induction m with
  | zero =>
    intro a k C l5 hm0 ha hk h0 hC hw
    exact stop a k C l5 ha hk h0 hC hw (fun q => by omega)
  | succ m ih =>
    intro a k C l5 hm0 ha hk h0 hC hw
    by_cases hne : a < n ∧ B a = 38
    · obtain ⟨an, be⟩ := hne
      have fw : rcS σ0 a (C.map enI ++ Lc) false 70 4 = 0 := rc_w _ _ _ _
      have f3 := rc_at σ0 a (C.map enI ++ Lc) false
      have sa := rc_sa σ0 a (a + 1) (C.map enI ++ Lc) false
      have n1 := nI_1 a
      have n2 := nI_1 k
      have ec : chN B n a = 38 := by unfold chN; rw [if_pos an, be]
      have kn := k_next (E1 + 4) σ0 a n B (by omega) hc (C.map enI ++ Lc) false
      have ix := ix_115 E1 38 (by omega) (rcS σ0 a (C.map enI ++ Lc) false)
      rw [ec] at kn
      have kn : callD (E1 + 6) 37 [.ref 70] (rcS σ0 a (C.map enI ++ Lc) false) = some (some (.int 38), _) := kn
      have ix : callD (E1 + 6) 221 [.ref 115, .int 38] (rcS σ0 a (C.map enI ++ Lc) false) = some (some (.int 0), _) := ix
      have g1 : ((0 : Int32) < 0) = False := eq_false (by decide)
      have g : ((60 : Int32) ≤ nI k) = False := by rw [show (60 : Int32) = nI 60 from rfl, le_nn (by omega) (by omega)]; exact eq_false (by omega)
      have mt : callD (E2 + 3) 145 [.ref 87, .int 38] _ = _ := m_takes_y (E2 + 1) τ0 a n B (by omega) hm (C ++ Lm) op 38 an be
      have one : ((1 : Int32) = 0) = False := eq_false (by decide)
      have su := sub (a + 1) (C.map enI ++ Lc) (C ++ Lm) (by omega) (by rw [List.length_append]; omega)
      rcases su with ⟨a2, C2, x1, x2, x3, x4, x5, x6⟩ | ⟨a2, X, Y, x1, x2, x5, x6⟩
      · obtain ⟨bb, had⟩ := rc_add (E1 + 5) σ0 a2 (C2.map enI ++ (C.map enI ++ Lc)) false 20038
        have hco := m_codes_f (E2 + 2) τ0 a2 (C2 ++ (C ++ Lm)) op 20001 (by rw [List.length_append, List.length_append]; omega)
        have r := ih a2 (k + 1) (20001 :: (C2 ++ C)) (.int 38) (by omega) x2 (by omega) (by omega) (by rw [List.length_cons, List.length_append]; omega) (wfC_2 hw x4 (by decide) (by decide))
        have e1 : ((20001 :: (C2 ++ C)).map enI ++ Lc : List Int32) = 20038 :: (C2.map enI ++ (C.map enI ++ Lc)) := by
          rw [List.map_cons, List.map_append, List.cons_append, List.append_assoc]
          rfl
        have e2 : ((20001 :: (C2 ++ C)) ++ Lm : List Int32) = 20001 :: (C2 ++ (C ++ Lm)) := by
          rw [List.cons_append, List.append_assoc]
        rw [e1, e2] at r
        have rc : ru (E1 + 6) 38 34 [.ref 70, .int 1, .int (nI op), .int 60, .int (nI k), l5] [] (rcS σ0 a (C.map enI ++ Lc) false) = ru (E1 + 6) 38 34 [.ref 70, .int 1, .int (nI op), .int 60, .int (nI (k + 1)), .int 38] [] (rcS σ0 a2 (20038 :: (C2.map enI ++ (C.map enI ++ Lc))) false) := by
          generalize hR : ru (E1 + 6) 38 34 _ [] (rcS σ0 a2 (20038 :: (C2.map enI ++ (C.map enI ++ Lc))) false) = R
          simp only [s38_34]
          simp only [s38_36, s38_37, s38_40, s38_41_o70, s38_44, s38_47, s38_48, s38_51, s38_52_o70, s38_55_o114, s38_55_o115, s38_55_o116, s38_55_o117, s38_55_o118, s38_58, s38_61, s38_62_o70, s38_65, s38_67, s38_68, s38_69_o70, s38_72, s38_73, s38_74_o70, s38_77, s38_78, s38_79, s38_80, s38_81, s38_82_o70, s38_85, s38_86_o70, s38_89, s38_92, s38_94, s38_95_o71, s38_98, s38_99, s38_102, c36, c36, s36_0, s36_1, s36_32, s36_34, s36_35, s36_37, s36_38, s36_40, s36_41, s36_43, s36_44, s36_46, g, fw, kn, ix, g1, f3, n1, n2, up2_rep, sa, x5, had, show (1 + 1 : Int32) = 2 from rfl, show (20000 + 38 : Int32) = 20038 from rfl, simprocAttr, if_true, if_false, true_and, and_true, false_and, and_false, not_false_eq_true, not_true_eq_false, gd_T, kont_i, kont_v]
          exact hR
        have rm : ru (E2 + 3) 148 4 [.ref 87] [] (rmS τ0 a (C ++ Lm) false op) = ru (E2 + 3) 148 4 [.ref 87] [] (rmS τ0 a2 (20001 :: (C2 ++ (C ++ Lm))) false op) := by
          generalize hR : ru (E2 + 3) 148 4 _ [] (rmS τ0 a2 (20001 :: (C2 ++ (C ++ Lm))) false op) = R
          simp only [s148_4]
          simp only [s148_5, s148_7_o87, s148_10, s148_13, s148_14_o87, s148_17, s148_18, s148_21_o87, s148_24, mt, one, x6, hco, simprocAttr, if_true, if_false, true_and, and_true, false_and, and_false, not_false_eq_true, not_true_eq_false, gd_T, kont_i, kont_v]
          exact hR
        rw [rc, rm]
        exact r
      · obtain ⟨bb, had⟩ := rc_add (E1 + 5) σ0 a2 X true 20038
        have hco := m_codes_t (E2 + 2) τ0 a2 Y op 20001
        have fw2 : rcS σ0 a2 (20038 :: X) true 70 4 = 1 := rc_w _ _ _ _
        have mt2 : callD (E2 + 3) 145 [.ref 87, .int 38] _ = _ := m_takes_t (E2 + 1) τ0 a2 (by omega) Y op 38 (by omega)
        refine Or.inr ⟨a2, 20038 :: X, Y, by omega, x2, ?_, ?_⟩
        · have rc : ru (E1 + 6) 38 34 [.ref 70, .int 1, .int (nI op), .int 60, .int (nI k), l5] [] (rcS σ0 a (C.map enI ++ Lc) false) = ru (E1 + 6) 38 34 [.ref 70, .int 1, .int (nI op), .int 60, .int (nI (k + 1)), .int 38] [] (rcS σ0 a2 (20038 :: X) true) := by
            generalize hR : ru (E1 + 6) 38 34 _ [] (rcS σ0 a2 (20038 :: X) true) = R
            simp only [s38_34]
            simp only [s38_36, s38_37, s38_40, s38_41_o70, s38_44, s38_47, s38_48, s38_51, s38_52_o70, s38_55_o114, s38_55_o115, s38_55_o116, s38_55_o117, s38_55_o118, s38_58, s38_61, s38_62_o70, s38_65, s38_67, s38_68, s38_69_o70, s38_72, s38_73, s38_74_o70, s38_77, s38_78, s38_79, s38_80, s38_81, s38_82_o70, s38_85, s38_86_o70, s38_89, s38_92, s38_94, s38_95_o71, s38_98, s38_99, s38_102, c36, c36, s36_0, s36_1, s36_32, s36_34, s36_35, s36_37, s36_38, s36_40, s36_41, s36_43, s36_44, s36_46, g, fw, kn, ix, g1, f3, n1, n2, up2_rep, sa, x5, had, show (1 + 1 : Int32) = 2 from rfl, show (20000 + 38 : Int32) = 20038 from rfl, simprocAttr, if_true, if_false, true_and, and_true, false_and, and_false, not_false_eq_true, not_true_eq_false, gd_T, kont_i, kont_v]
            exact hR
          rw [rc]
          simp only [s38_34]
          by_cases z : (60 : Int32) ≤ nI (k + 1)
          · have z' := eq_true z
            simp only [s38_36, s38_37, s38_40, s38_41_o70, s38_44, s38_105, z', fw2, one, simprocAttr, if_true, if_false, true_and, and_true, false_and, and_false, not_false_eq_true, not_true_eq_false, gd_T, kont_i, kont_v]
          · have z' := eq_false z
            simp only [s38_36, s38_37, s38_40, s38_41_o70, s38_44, s38_105, z', fw2, one, simprocAttr, if_true, if_false, true_and, and_true, false_and, and_false, not_false_eq_true, not_true_eq_false, gd_T, kont_i, kont_v]
        · simp only [s148_4]
          simp only [s148_5, s148_7_o87, s148_10, s148_13, s148_14_o87, s148_17, s148_18, s148_21_o87, s148_24, mt, one, x6, hco, simprocAttr, if_true, if_false, true_and, and_true, false_and, and_false, not_false_eq_true, not_true_eq_false, gd_T, kont_i, kont_v]
          simp only [s148_4]
          simp only [s148_5, s148_7_o87, s148_10, s148_13, s148_14_o87, s148_17, s148_18, s148_21_o87, s148_24, s148_27, mt2, simprocAttr, if_true, if_false, true_and, and_true, false_and, and_false, not_false_eq_true, not_true_eq_false, gd_T, kont_i, kont_v]
    · exact stop a k C l5 ha hk h0 hC hw hne
