/-! ===== text: the unit; a number ===== -/
theorem unit_num {σ0 τ0 : Hs} {n : Nat} {B : Nat → Nat} (hc : TPc σ0 n B) (hm : TPm τ0 n B) (E1 E2 op : Nat) (a : Nat) (Lc Lm : List Int32) (ha : a ≤ n) (hL : Lm.length ≤ a) (hi : ∀ τ, ∃ i, callD (E1 + 7) 222 [.ref (σ0 70 2).toNatClampNeg, .int (nI (chN B n a))] τ = some (some (.int i), τ)) (q : 48 ≤ chN B n a ∧ chN B n a ≤ 57) (hs : (σ0 70 2).toNatClampNeg = 111 ∨ (σ0 70 2).toNatClampNeg = 112 ∨ (σ0 70 2).toNatClampNeg = 113) : PRz σ0 τ0 n op a Lc Lm (callD (E1 + 8) 40 [.ref 70, .int (nI op)] (rcS σ0 a Lc false)) (callD (E2 + 8) 154 [.ref 87] (rmS τ0 a Lm false op)) := by
  have n60 : n ≤ 60 := hc.1
  have an : a < n := by
    unfold chN at q
    refine Nat.lt_of_not_le (fun z => ?_)
    rw [if_neg (by omega)] at q
    omega
  have l256 := ch_lt hc a
  obtain ⟨a2, v2, x1, x2, x3, x4, x5, x6⟩ := num_l hc hm (E1 + 3) (E2 + 4) op (heI B n a) 4 0 a 0 Lc Lm rfl (by decide) ha (by omega)
  have xa := x4 (by omega) q
  obtain ⟨i, hix⟩ := hi (rcS σ0 a Lc false)
  have kn := k_next (E1 + 5) σ0 a n B (by omega) hc Lc false
  have kd := k_isDigit (E1 + 6) (chN B n a) l256 (rcS σ0 a Lc false)
  rw [b2_T q] at kd
  have f2 : rcS σ0 a Lc false 70 2 = σ0 70 2 := rc_f _ _ _ _ (by omega) (by omega)
  have one : ((1 : Int32) = 0) = False := eq_false (by decide)
  rw [n_0] at x5 x6
  refine Or.inl ⟨a2, [nI v2], xa, x2, by rw [List.length_singleton]; omega, wfC_1 (by omega), ?_, ?_⟩
  · have e : (([nI v2] : List Int32).map enI ++ Lc : List Int32) = nI v2 :: Lc := by
      show enI (nI v2) :: Lc = _
      unfold enI
      rw [if_pos (by rw [show (20000 : Int32) = nI 20000 from rfl, lt_nn (by omega) (by omega)]; omega)]
    rw [e]
    have rn : callD (E1 + 7) 42 [.ref 70] (rcS σ0 a Lc false) = some (none, rcS σ0 a2 (nI v2 :: Lc) false) := by
      simp only [c42, s42_0, s42_1, s42_2, s42_3]
      exact x5
    rcases hs with hs | hs | hs
    · rw [hs] at hix
      simp only [c40, s40_0, s40_1_o70, s40_4, s40_5, s40_6_o70, s40_9, s40_10_o111, s40_10_o112, s40_10_o113, s40_13, s40_14, s40_15, s40_18, s40_21, s40_22_o70, s40_25, s40_28, s40_29, s40_32, s40_33, s40_34_o70, s40_37, s40_38, s40_39_o70, s40_42, s40_43_o70, s40_46, s40_49, s40_50, s40_51_o71, s40_54, s40_55, s40_58, s40_59, s40_61, s40_64, s40_65, s40_66, s40_69, s40_70, s40_71_o70, s40_74, s40_75, s40_76_o70, s40_79, s40_80, s40_81, s40_82, s40_83_o70, s40_86, s40_87_o70, s40_90, s40_93, s40_94, s40_95_o71, s40_98, s40_99, s40_102, s40_103, s40_105, s40_108, s40_109, s40_110, s40_113, s40_114, s40_115_o70, s40_118, s40_119, s40_120_o70, s40_123, s40_124, s40_125, s40_126, s40_127, s40_128_o70, s40_131, s40_132_o70, s40_135, s40_138, s40_139, s40_140_o70, s40_143, kn, f2, hs, hix, kd, one, rn, simprocAttr, if_true, if_false, true_and, and_true, false_and, and_false, not_false_eq_true, not_true_eq_false, gd_T, kont_i, kont_v]
    · rw [hs] at hix
      simp only [c40, s40_0, s40_1_o70, s40_4, s40_5, s40_6_o70, s40_9, s40_10_o111, s40_10_o112, s40_10_o113, s40_13, s40_14, s40_15, s40_18, s40_21, s40_22_o70, s40_25, s40_28, s40_29, s40_32, s40_33, s40_34_o70, s40_37, s40_38, s40_39_o70, s40_42, s40_43_o70, s40_46, s40_49, s40_50, s40_51_o71, s40_54, s40_55, s40_58, s40_59, s40_61, s40_64, s40_65, s40_66, s40_69, s40_70, s40_71_o70, s40_74, s40_75, s40_76_o70, s40_79, s40_80, s40_81, s40_82, s40_83_o70, s40_86, s40_87_o70, s40_90, s40_93, s40_94, s40_95_o71, s40_98, s40_99, s40_102, s40_103, s40_105, s40_108, s40_109, s40_110, s40_113, s40_114, s40_115_o70, s40_118, s40_119, s40_120_o70, s40_123, s40_124, s40_125, s40_126, s40_127, s40_128_o70, s40_131, s40_132_o70, s40_135, s40_138, s40_139, s40_140_o70, s40_143, kn, f2, hs, hix, kd, one, rn, simprocAttr, if_true, if_false, true_and, and_true, false_and, and_false, not_false_eq_true, not_true_eq_false, gd_T, kont_i, kont_v]
    · rw [hs] at hix
      simp only [c40, s40_0, s40_1_o70, s40_4, s40_5, s40_6_o70, s40_9, s40_10_o111, s40_10_o112, s40_10_o113, s40_13, s40_14, s40_15, s40_18, s40_21, s40_22_o70, s40_25, s40_28, s40_29, s40_32, s40_33, s40_34_o70, s40_37, s40_38, s40_39_o70, s40_42, s40_43_o70, s40_46, s40_49, s40_50, s40_51_o71, s40_54, s40_55, s40_58, s40_59, s40_61, s40_64, s40_65, s40_66, s40_69, s40_70, s40_71_o70, s40_74, s40_75, s40_76_o70, s40_79, s40_80, s40_81, s40_82, s40_83_o70, s40_86, s40_87_o70, s40_90, s40_93, s40_94, s40_95_o71, s40_98, s40_99, s40_102, s40_103, s40_105, s40_108, s40_109, s40_110, s40_113, s40_114, s40_115_o70, s40_118, s40_119, s40_120_o70, s40_123, s40_124, s40_125, s40_126, s40_127, s40_128_o70, s40_131, s40_132_o70, s40_135, s40_138, s40_139, s40_140_o70, s40_143, kn, f2, hs, hix, kd, one, rn, simprocAttr, if_true, if_false, true_and, and_true, false_and, and_false, not_false_eq_true, not_true_eq_false, gd_T, kont_i, kont_v]
  · have mh := m_here_f (E2 + 6) τ0 a n B (by omega) hm Lm op
    have mw := m_within (E2 + 6) (heI B n a) 48 57 (rmS τ0 a Lm false op)
    rw [b2_T (by rw [he_dig hm a]; exact q)] at mw
    have ec : chN B n a = B a := by unfold chN; rw [if_pos an]
    have eh : heI B n a = nI (B a) := by unfold heI; rw [if_pos an]
    have g1 : (heI B n a = 33) = False := by rw [eh, nc_33 (by omega)]; exact eq_false (by omega)
    have g2 : (heI B n a = 40) = False := by rw [eh, nc_40 (by omega)]; exact eq_false (by omega)
    simp only [c154, s154_0, s154_1_o87, s154_4, s154_5, s154_6, s154_8, s154_11, s154_12, s154_14, s154_17, s154_18, s154_19_o87, s154_22, s154_23, s154_26, s154_27, s154_30, s154_31_o87, s154_34, s154_35_o87, s154_38, s154_41, s154_42, s154_43_o87, s154_46, s154_47, s154_48_o87, s154_51, s154_52, s154_53_o87, s154_56, s154_57, s154_58_o87, s154_61, s154_62, s154_64, s154_67, s154_68_o87, s154_71, s154_72, s154_75_o87, s154_78, s154_81, s154_82_o87, s154_85, s154_86, s154_87, s154_89_o87, s154_92, s154_95, s154_96, s154_99, s154_100_o87, s154_103, s154_104, s154_105_o87, s154_108, s154_109, s154_110_o87, s154_113, s154_116, s154_117, s154_119, s154_121, s154_124, s154_127, s154_128, s154_129, s154_130, mh, mw, g1, g2, one, simprocAttr, if_true, if_false, true_and, and_true, false_and, and_false, not_false_eq_true, not_true_eq_false, gd_T, kont_i, kont_v]
    exact x6
