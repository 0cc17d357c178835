/-! ===== text: the unit; a number ===== -/
theorem unit_num {σ0 τ0 : Hs} {n : Nat} {B : Nat → Nat} (hc : TPc σ0 n B) (hm : TPm τ0 n B) (E1 E2 op : Nat) (a : Nat) (Lc Lm : List Int32) (ha : a ≤ n) (hL : Lm.length ≤ a) (hi : ∀ τ, ∃ i, callD (E1 + 7) 221 [.ref (σ0 70 2).toNatClampNeg, .int (nI (chN B n a))] τ = some (some (.int i), τ)) (q : 48 ≤ chN B n a ∧ chN B n a ≤ 57) (hs : (σ0 70 2).toNatClampNeg = 111 ∨ (σ0 70 2).toNatClampNeg = 112 ∨ (σ0 70 2).toNatClampNeg = 113) : PRz σ0 τ0 n op a Lc Lm (callD (E1 + 8) 39 [.ref 70, .int (nI op)] (rcS σ0 a Lc false)) (callD (E2 + 8) 153 [.ref 87] (rmS τ0 a Lm false op)) := by
  have n60 : n ≤ 60 := hc.1
  have an : a < n := by
    unfold chN at q
    refine Nat.lt_of_not_le (fun z => ?_)
    rw [if_neg (by omega)] at q
    omega
  have l256 := ch_lt hc a
  obtain ⟨a2, v2, x1, x2, x3, x4, x5, x6⟩ := num_l hc hm (E1 + 3) (E2 + 4) op (heI B n a) 4 0 a 0 Lc Lm rfl (by decide) ha (by omega)
  have xa := x4 (by omega) q
  obtain ⟨i, hix⟩ := hi (rcS σ0 a Lc false)
  have kn := k_next (E1 + 5) σ0 a n B (by omega) hc Lc false
  have kd := k_isDigit (E1 + 6) (chN B n a) l256 (rcS σ0 a Lc false)
  rw [b2_T q] at kd
  have f2 : rcS σ0 a Lc false 70 2 = σ0 70 2 := rc_f _ _ _ _ (by omega) (by omega)
  have one : ((1 : Int32) = 0) = False := eq_false (by decide)
  rw [n_0] at x5 x6
  refine Or.inl ⟨a2, [nI v2], xa, x2, by rw [List.length_singleton]; omega, wfC_1 (by omega), ?_, ?_⟩
  · have e : (([nI v2] : List Int32).map enI ++ Lc : List Int32) = nI v2 :: Lc := by
      show enI (nI v2) :: Lc = _
      unfold enI
      rw [if_pos (by rw [show (20000 : Int32) = nI 20000 from rfl, lt_nn (by omega) (by omega)]; omega)]
    rw [e]
    have rn : callD (E1 + 7) 41 [.ref 70] (rcS σ0 a Lc false) = some (none, rcS σ0 a2 (nI v2 :: Lc) false) := by
      simp only [c41, s41_0, s41_1, s41_2, s41_3]
      exact x5
    rcases hs with hs | hs | hs
    · rw [hs] at hix
      simp only [c39, s39_0, s39_1_o70, s39_4, s39_5, s39_6_o70, s39_9, s39_10_o111, s39_10_o112, s39_10_o113, s39_13, s39_14, s39_15, s39_18, s39_21, s39_22_o70, s39_25, s39_28, s39_29, s39_32, s39_33, s39_34_o70, s39_37, s39_38, s39_39_o70, s39_42, s39_43_o70, s39_46, s39_49, s39_50, s39_51_o71, s39_54, s39_55, s39_58, s39_59, s39_61, s39_64, s39_65, s39_66, s39_69, s39_70, s39_71_o70, s39_74, s39_75, s39_76_o70, s39_79, s39_80, s39_81, s39_82, s39_83_o70, s39_86, s39_87_o70, s39_90, s39_93, s39_94, s39_95_o71, s39_98, s39_99, s39_102, s39_103, s39_105, s39_108, s39_109, s39_110, s39_113, s39_114, s39_115_o70, s39_118, s39_119, s39_120_o70, s39_123, s39_124, s39_125, s39_126, s39_127, s39_128_o70, s39_131, s39_132_o70, s39_135, s39_138, s39_139, s39_140_o70, s39_143, kn, f2, hs, hix, kd, one, rn, simprocAttr, if_true, if_false, true_and, and_true, false_and, and_false, not_false_eq_true, not_true_eq_false, gd_T, kont_i, kont_v]
    · rw [hs] at hix
      simp only [c39, s39_0, s39_1_o70, s39_4, s39_5, s39_6_o70, s39_9, s39_10_o111, s39_10_o112, s39_10_o113, s39_13, s39_14, s39_15, s39_18, s39_21, s39_22_o70, s39_25, s39_28, s39_29, s39_32, s39_33, s39_34_o70, s39_37, s39_38, s39_39_o70, s39_42, s39_43_o70, s39_46, s39_49, s39_50, s39_51_o71, s39_54, s39_55, s39_58, s39_59, s39_61, s39_64, s39_65, s39_66, s39_69, s39_70, s39_71_o70, s39_74, s39_75, s39_76_o70, s39_79, s39_80, s39_81, s39_82, s39_83_o70, s39_86, s39_87_o70, s39_90, s39_93, s39_94, s39_95_o71, s39_98, s39_99, s39_102, s39_103, s39_105, s39_108, s39_109, s39_110, s39_113, s39_114, s39_115_o70, s39_118, s39_119, s39_120_o70, s39_123, s39_124, s39_125, s39_126, s39_127, s39_128_o70, s39_131, s39_132_o70, s39_135, s39_138, s39_139, s39_140_o70, s39_143, kn, f2, hs, hix, kd, one, rn, simprocAttr, if_true, if_false, true_and, and_true, false_and, and_false, not_false_eq_true, not_true_eq_false, gd_T, kont_i, kont_v]
    · rw [hs] at hix
      simp only [c39, s39_0, s39_1_o70, s39_4, s39_5, s39_6_o70, s39_9, s39_10_o111, s39_10_o112, s39_10_o113, s39_13, s39_14, s39_15, s39_18, s39_21, s39_22_o70, s39_25, s39_28, s39_29, s39_32, s39_33, s39_34_o70, s39_37, s39_38, s39_39_o70, s39_42, s39_43_o70, s39_46, s39_49, s39_50, s39_51_o71, s39_54, s39_55, s39_58, s39_59, s39_61, s39_64, s39_65, s39_66, s39_69, s39_70, s39_71_o70, s39_74, s39_75, s39_76_o70, s39_79, s39_80, s39_81, s39_82, s39_83_o70, s39_86, s39_87_o70, s39_90, s39_93, s39_94, s39_95_o71, s39_98, s39_99, s39_102, s39_103, s39_105, s39_108, s39_109, s39_110, s39_113, s39_114, s39_115_o70, s39_118, s39_119, s39_120_o70, s39_123, s39_124, s39_125, s39_126, s39_127, s39_128_o70, s39_131, s39_132_o70, s39_135, s39_138, s39_139, s39_140_o70, s39_143, kn, f2, hs, hix, kd, one, rn, simprocAttr, if_true, if_false, true_and, and_true, false_and, and_false, not_false_eq_true, not_true_eq_false, gd_T, kont_i, kont_v]
  · have mh := m_here_f (E2 + 6) τ0 a n B (by omega) hm Lm op
    have mw := m_within (E2 + 6) (heI B n a) 48 57 (rmS τ0 a Lm false op)
    rw [b2_T (by rw [he_dig hm a]; exact q)] at mw
    have ec : chN B n a = B a := by unfold chN; rw [if_pos an]
    have eh : heI B n a = nI (B a) := by unfold heI; rw [if_pos an]
    have g1 : (heI B n a = 33) = False := by rw [eh, nc_33 (by omega)]; exact eq_false (by omega)
    have g2 : (heI B n a = 40) = False := by rw [eh, nc_40 (by omega)]; exact eq_false (by omega)
    simp only [c153, s153_0, s153_1_o87, s153_4, s153_5, s153_6, s153_8, s153_11, s153_12, s153_14, s153_17, s153_18, s153_19_o87, s153_22, s153_23, s153_26, s153_27, s153_30, s153_31_o87, s153_34, s153_35_o87, s153_38, s153_41, s153_42, s153_43_o87, s153_46, s153_47, s153_48_o87, s153_51, s153_52, s153_53_o87, s153_56, s153_57, s153_58_o87, s153_61, s153_62, s153_64, s153_67, s153_68_o87, s153_71, s153_72, s153_75_o87, s153_78, s153_81, s153_82_o87, s153_85, s153_86, s153_87, s153_89_o87, s153_92, s153_95, s153_96, s153_99, s153_100_o87, s153_103, s153_104, s153_105_o87, s153_108, s153_109, s153_110_o87, s153_113, s153_116, s153_117, s153_119, s153_121, s153_124, s153_127, s153_128, s153_129, s153_130, mh, mw, g1, g2, one, simprocAttr, if_true, if_false, true_and, and_true, false_and, and_false, not_false_eq_true, not_true_eq_false, gd_T, kont_i, kont_v]
    exact x6
