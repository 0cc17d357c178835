/-! ===== text: the rest of the unit ===== -/
def NMz (σ0 τ0 : Hs) (s : Nat) (F : Nat → Int32) : Prop := (σ0 70 2).toNatClampNeg = s ∧ (s = 111 ∨ s = 112 ∨ s = 113) ∧ (∀ d c, c < 256 → ∀ σ, callD (d + 6) 221 [.ref s, .int (nI c)] σ = some (some (.int (F c)), σ)) ∧ (∀ d c, c < 256 → ∀ σ : Hs, σ 87 11 = τ0 87 11 → callD (d + 6) 152 [.ref 87, .int (nI c)] σ = some (some (.int (F c)), σ)) ∧ ∀ c, F c = -1 ∨ ((∃ j, j < 4 ∧ F c = nI j) ∧ c ≠ 0 ∧ c ≠ 33 ∧ c ≠ 40 ∧ ¬ (48 ≤ c ∧ c ≤ 57))
theorem u10_s {s : Nat} (h : s = 111 ∨ s = 112 ∨ s = 113) (d : Nat) (l0 l1 l2 l3 v1 : Value) (σ : Hs) : ru d 39 10 [l0, l1, l2, l3] [v1, .ref s] σ = kont (callD d 221 [.ref s, v1] σ) d 39 13 [l0, l1, l2, l3] [] := by
  rcases h with rfl | rfl | rfl
  · simp only [s39_10_o111, s39_10_o112, s39_10_o113]
  · simp only [s39_10_o111, s39_10_o112, s39_10_o113]
  · simp only [s39_10_o111, s39_10_o112, s39_10_o113]
theorem un_pre {σ0 τ0 : Hs} {n : Nat} {B : Nat → Nat} (hc : TPc σ0 n B) {s : Nat} {F : Nat → Int32} (hN : NMz σ0 τ0 s F) (E1 op a : Nat) (ha : a ≤ n) (Lc : List Int32) : callD (E1 + 8) 39 [.ref 70, .int (nI op)] (rcS σ0 a Lc false) = ru (E1 + 7) 39 18 [.ref 70, .int (nI op), .int (nI (chN B n a)), .int (F (chN B n a))] [.int (b2 (48 ≤ chN B n a ∧ chN B n a ≤ 57))] (rcS σ0 a Lc false) := by
  have n60 : n ≤ 60 := hc.1
  have l256 := ch_lt hc a
  obtain ⟨h1, h2, h3, -, -⟩ := hN
  have kn := k_next (E1 + 5) σ0 a n B (by omega) hc Lc false
  have kd := k_isDigit (E1 + 6) (chN B n a) l256 (rcS σ0 a Lc false)
  have f2 : rcS σ0 a Lc false 70 2 = σ0 70 2 := rc_f _ _ _ _ (by omega) (by omega)
  have hix : callD (E1 + 7) 221 [.ref s, .int (nI (chN B n a))] (rcS σ0 a Lc false) = _ := h3 (E1 + 1) _ l256 _
  simp only [c39, s39_0, s39_1_o70, s39_4, s39_5, s39_6_o70, s39_9, u10_s h2, s39_13, s39_14, s39_15, kn, f2, h1, hix, kd, simprocAttr, if_true, if_false, true_and, and_true, false_and, and_false, not_false_eq_true, not_true_eq_false, gd_T, kont_i, kont_v]
theorem ch_in {n a : Nat} {B : Nat → Nat} (h : chN B n a ≠ 0) : a < n ∧ chN B n a = B a ∧ heI B n a = nI (chN B n a) := by
  have an : a < n := by
    refine Nat.lt_of_not_le (fun z => h ?_)
    unfold chN
    rw [if_neg (by omega)]
  refine ⟨an, ?_, ?_⟩
  · unfold chN; rw [if_pos an]
  · unfold chN heI; rw [if_pos an, if_pos an]
theorem unit_nam {σ0 τ0 : Hs} {n : Nat} {B : Nat → Nat} (hc : TPc σ0 n B) (hm : TPm τ0 n B) {s : Nat} {F : Nat → Int32} (hN : NMz σ0 τ0 s F) (E1 E2 op a : Nat) (Lc Lm : List Int32) (ha : a ≤ n) (hL : Lm.length ≤ a) {j : Nat} (hj : j < 4) (hF : F (chN B n a) = nI j) (q0 : chN B n a ≠ 0) (q33 : chN B n a ≠ 33) (q40 : chN B n a ≠ 40) (qd : ¬ (48 ≤ chN B n a ∧ chN B n a ≤ 57)) : PRz σ0 τ0 n op a Lc Lm (callD (E1 + 8) 39 [.ref 70, .int (nI op)] (rcS σ0 a Lc false)) (callD (E2 + 8) 153 [.ref 87] (rmS τ0 a Lm false op)) := by
  have n60 : n ≤ 60 := hc.1
  have l256 := ch_lt hc a
  obtain ⟨an, -, eh⟩ := ch_in q0
  have n1 := nI_1 a
  have ad : (10000 : Int32) + nI j = nI (10000 + j) := nI_add 10000 j
  refine Or.inl ⟨a + 1, [nI (10000 + j)], by omega, by omega, by rw [List.length_singleton]; omega, wfC_1 (by omega), ?_, ?_⟩
  · have e : (([nI (10000 + j)] : List Int32).map enI ++ Lc : List Int32) = nI (10000 + j) :: Lc := by
      show enI (nI (10000 + j)) :: Lc = _
      unfold enI
      rw [if_pos (by rw [show (20000 : Int32) = nI 20000 from rfl, lt_nn (by omega) (by omega)]; omega)]
    rw [e, un_pre hc hN E1 op a ha Lc, b2_F qd, hF]
    have g : (nI j < 0) = False := eq_false (nI_pos (by omega))
    have f3 := rc_at σ0 a Lc false
    have sa := rc_sa σ0 a (a + 1) Lc false
    obtain ⟨bb, had⟩ := rc_add (E1 + 6) σ0 (a + 1) Lc false (nI (10000 + j))
    simp only [s39_18, s39_21, s39_22_o70, s39_25, s39_28, s39_29, s39_32, s39_33, s39_34_o70, s39_37, s39_38, s39_39_o70, s39_42, s39_43_o70, s39_46, s39_49, s39_50, s39_51_o71, s39_54, s39_55, s39_143, g, f3, n1, up2_rep, sa, ad, had, simprocAttr, if_true, if_false, true_and, and_true, false_and, and_false, not_false_eq_true, not_true_eq_false, gd_T, kont_i, kont_v]
  · have mh := m_here_f (E2 + 6) τ0 a n B (by omega) hm Lm op
    have mw := m_within (E2 + 6) (heI B n a) 48 57 (rmS τ0 a Lm false op)
    rw [b2_F (by rw [he_dig hm a]; exact qd)] at mw
    rw [eh] at mh mw
    have hno : callD (E2 + 7) 152 [.ref 87, .int (nI (chN B n a))] (rmS τ0 a Lm false op) = _ := hN.2.2.2.1 (E2 + 1) (chN B n a) l256 (rmS τ0 a Lm false op) (rm_use _ _ _ _ _)
    rw [hF] at hno
    have hw : rmS τ0 a Lm false op 87 12 = 0 := rm_w _ _ _ _ _
    have sw : rep (rmS τ0 a Lm false op) 87 (upd (rmS τ0 a Lm false op 87) 12 0) = rmS τ0 a Lm false op := rm_sw τ0 a Lm false false op
    have hco := m_codes_f (E2 + 6) τ0 a Lm op (nI (10000 + j)) (by omega)
    have f9 := rm_at τ0 a (nI (10000 + j) :: Lm) false op
    have sa := rm_sa τ0 a (a + 1) (nI (10000 + j) :: Lm) false op
    have g1 : (nI (chN B n a) = 33) = False := by rw [nc_33 l256]; exact eq_false q33
    have g2 : (nI (chN B n a) = 40) = False := by rw [nc_40 l256]; exact eq_false q40
    have g3 : ((0 : Int32) ≤ nI (chN B n a)) = True := eq_true (nI_pos' (by omega))
    have g4 : ((0 : Int32) ≤ nI j) = True := eq_true (nI_pos' (by omega))
    simp only [c153, s153_0, s153_1_o87, s153_4, s153_5, s153_6, s153_8, s153_11, s153_12, s153_14, s153_116, s153_117, s153_119, s153_121, s153_124, s153_187, s153_188, s153_191, s153_192, s153_195, s153_196, s153_197_o87, s153_200, s153_201, s153_202, s153_203_o87, s153_206, s153_209, s153_210, s153_213, s153_214, s153_217, s153_218_o87, s153_221, s153_222_o87, s153_225, s153_228, s153_229, s153_232, s153_233, s153_234_o87, s153_237, s153_238, s153_239_o87, s153_242, s153_243, s153_244_o87, s153_247, mh, mw, g1, g2, g3, g4, hno, hw, up2_rep, sw, isB_0, ad, hco, f9, n1, sa, simprocAttr, if_true, if_false, true_and, and_true, false_and, and_false, not_false_eq_true, not_true_eq_false, gd_T, kont_i, kont_v]
    rfl
theorem unit_not {σ0 τ0 : Hs} {n : Nat} {B : Nat → Nat} (hc : TPc σ0 n B) (hm : TPm τ0 n B) {s : Nat} {F : Nat → Int32} (hN : NMz σ0 τ0 s F) (E1 E2 op a : Nat) (Lc Lm : List Int32) (ha : a ≤ n) (hL : Lm.length ≤ a) (hop : op < 5) (sub : ∀ a Lc Lm, a ≤ n → Lm.length ≤ a → PRz σ0 τ0 n (op + 1) a Lc Lm (callD (E1 + 7) 39 [.ref 70, .int (nI (op + 1))] (rcS σ0 a Lc false)) (callD (E2 + 7) 153 [.ref 87] (rmS τ0 a Lm false (op + 1)))) (hF : F (chN B n a) = -1) (q33 : chN B n a = 33) : PRz σ0 τ0 n op a Lc Lm (callD (E1 + 8) 39 [.ref 70, .int (nI op)] (rcS σ0 a Lc false)) (callD (E2 + 8) 153 [.ref 87] (rmS τ0 a Lm false op)) := by
  have n60 : n ≤ 60 := hc.1
  obtain ⟨an, -, eh⟩ := ch_in (B := B) (n := n) (a := a) (by omega)
  have n1 := nI_1 a
  have n2 := nI_1 op
  have g : ((-1 : Int32) < 0) = True := eq_true (by decide)
  have g33 : (nI 33 = 33) = True := eq_true rfl
  have g5 : ((5 : Int32) ≤ nI op) = False := by rw [show (5 : Int32) = nI 5 from rfl, le_nn (by omega) (by omega)]; exact eq_false (by omega)
  have e5 : (nI op = (5 : Int32)) = False := by rw [show (5 : Int32) = nI 5 from rfl, eq_nn (by omega) (by omega)]; exact eq_false (by omega)
  have e20 : (20000 : Int32) + nI 33 = 20033 := rfl
  have f3 := rc_at σ0 a Lc false
  have sa := rc_sa σ0 a (a + 1) Lc false
  have pc := un_pre hc hN E1 op a ha Lc
  rw [b2_F (by omega), hF, q33] at pc
  have mh := m_here_f (E2 + 6) τ0 a n B (by omega) hm Lm op
  rw [eh, q33] at mh
  have hw : rmS τ0 a Lm false op 87 12 = 0 := rm_w _ _ _ _ _
  have sw : rep (rmS τ0 a Lm false op) 87 (upd (rmS τ0 a Lm false op 87) 12 0) = rmS τ0 a Lm false op := rm_sw τ0 a Lm false false op
  have f10 := rm_op τ0 a Lm false op
  have so := rm_so τ0 a Lm false op (op + 1)
  have f9 := rm_at τ0 a Lm false (op + 1)
  have sb := rm_sa τ0 a (a + 1) Lm false (op + 1)
  have n3 : nI (op + 1) - 1 = nI op := by rw [show (1 : Int32) = nI 1 from rfl, pk_sub (by omega)]; rfl
  have pm : callD (E2 + 8) 153 [.ref 87] (rmS τ0 a Lm false op) = kont (callD (E2 + 7) 153 [.ref 87] (rmS τ0 (a + 1) Lm false (op + 1))) (E2 + 7) 153 71 [.ref 87, .int (nI 33), uu, uu] [] := by
    simp only [c153, s153_0, s153_1_o87, s153_4, s153_5, s153_6, s153_8, s153_11, s153_12, s153_14, s153_17, s153_18, s153_19_o87, s153_22, s153_23, s153_26, s153_27, s153_30, s153_31_o87, s153_34, s153_35_o87, s153_38, s153_41, s153_42, s153_43_o87, s153_46, s153_47, s153_48_o87, s153_51, s153_52, s153_53_o87, s153_56, s153_57, s153_58_o87, s153_61, s153_62, s153_64, s153_67, s153_68_o87, mh, g33, f10, e5, up2_rep, sw, hw, isB_0, n2, so, f9, n1, sb, simprocAttr, if_true, if_false, true_and, and_true, false_and, and_false, not_false_eq_true, not_true_eq_false, gd_T, kont_i, kont_v]
  rcases sub (a + 1) Lc Lm (by omega) (by omega) with ⟨a2, C, x1, x2, x3, x4, x5, x6⟩ | ⟨a2, X, Y, x1, x2, x5, x6⟩
  · obtain ⟨bb, had⟩ := rc_add (E1 + 6) σ0 a2 (C.map enI ++ Lc) false 20033
    have hco := m_codes_f (E2 + 6) τ0 a2 (C ++ Lm) (op + 1) 20010 (by rw [List.length_append]; omega)
    have e1 : ((20010 :: C).map enI ++ Lc : List Int32) = 20033 :: (C.map enI ++ Lc) := by
      rw [List.map_cons, List.cons_append]
      rfl
    have f11 := rm_op τ0 a2 (20010 :: (C ++ Lm)) false (op + 1)
    have so2 := rm_so τ0 a2 (20010 :: (C ++ Lm)) false (op + 1) op
    refine Or.inl ⟨a2, 20010 :: C, by omega, x2, by rw [List.length_cons]; omega, wfC_n x4, ?_, ?_⟩
    · rw [e1, pc]
      simp only [s39_18, s39_21, s39_22_o70, s39_25, s39_28, s39_29, s39_32, s39_33, s39_34_o70, s39_37, s39_38, s39_39_o70, s39_42, s39_43_o70, s39_46, s39_49, s39_50, s39_51_o71, s39_54, s39_55, s39_58, s39_59, s39_61, s39_64, s39_65, s39_66, s39_69, s39_70, s39_71_o70, s39_74, s39_75, s39_76_o70, s39_79, s39_80, s39_81, s39_82, s39_83_o70, s39_86, s39_87_o70, s39_90, s39_93, s39_94, s39_95_o71, s39_98, s39_99, s39_143, g, g33, g5, f3, n1, n2, up2_rep, sa, e20, x5, had, simprocAttr, if_true, if_false, true_and, and_true, false_and, and_false, not_false_eq_true, not_true_eq_false, gd_T, kont_i, kont_v]
    · rw [pm, x6, List.cons_append]
      simp only [s153_71, s153_72, s153_75_o87, s153_78, s153_103, s153_104, s153_105_o87, s153_108, s153_109, s153_110_o87, s153_113, s153_247, hco, f11, n3, up2_rep, so2, simprocAttr, if_true, if_false, true_and, and_true, false_and, and_false, not_false_eq_true, not_true_eq_false, gd_T, kont_i, kont_v]
  · obtain ⟨bb, had⟩ := rc_add (E1 + 6) σ0 a2 X true 20033
    have hco := m_codes_t (E2 + 6) τ0 a2 Y (op + 1) 20010
    have f11 := rm_op τ0 a2 Y true (op + 1)
    have so2 := rm_so τ0 a2 Y true (op + 1) op
    refine Or.inr ⟨a2, 20033 :: X, Y, by omega, x2, ?_, ?_⟩
    · rw [pc]
      simp only [s39_18, s39_21, s39_22_o70, s39_25, s39_28, s39_29, s39_32, s39_33, s39_34_o70, s39_37, s39_38, s39_39_o70, s39_42, s39_43_o70, s39_46, s39_49, s39_50, s39_51_o71, s39_54, s39_55, s39_58, s39_59, s39_61, s39_64, s39_65, s39_66, s39_69, s39_70, s39_71_o70, s39_74, s39_75, s39_76_o70, s39_79, s39_80, s39_81, s39_82, s39_83_o70, s39_86, s39_87_o70, s39_90, s39_93, s39_94, s39_95_o71, s39_98, s39_99, s39_143, g, g33, g5, f3, n1, n2, up2_rep, sa, e20, x5, had, simprocAttr, if_true, if_false, true_and, and_true, false_and, and_false, not_false_eq_true, not_true_eq_false, gd_T, kont_i, kont_v]
    · rw [pm, x6]
      simp only [s153_71, s153_72, s153_75_o87, s153_78, s153_103, s153_104, s153_105_o87, s153_108, s153_109, s153_110_o87, s153_113, s153_247, hco, f11, n3, up2_rep, so2, simprocAttr, if_true, if_false, true_and, and_true, false_and, and_false, not_false_eq_true, not_true_eq_false, gd_T, kont_i, kont_v]
theorem unit_par {σ0 τ0 : Hs} {n : Nat} {B : Nat → Nat} (hc : TPc σ0 n B) (hm : TPm τ0 n B) {s : Nat} {F : Nat → Int32} (hN : NMz σ0 τ0 s F) (E1 E2 op a : Nat) (Lc Lm : List Int32) (ha : a ≤ n) (hL : Lm.length ≤ a) (hop : op < 5) (sub : ∀ a Lc Lm, a ≤ n → Lm.length ≤ a → PRz σ0 τ0 n (op + 1) a Lc Lm (callD (E1 + 7) 38 [.ref 70, .int 0, .int (nI (op + 1))] (rcS σ0 a Lc false)) (callD (E2 + 7) 147 [.ref 87] (rmS τ0 a Lm false (op + 1)))) (hF : F (chN B n a) = -1) (q40 : chN B n a = 40) : PRz σ0 τ0 n op a Lc Lm (callD (E1 + 8) 39 [.ref 70, .int (nI op)] (rcS σ0 a Lc false)) (callD (E2 + 8) 153 [.ref 87] (rmS τ0 a Lm false op)) := by
  have n60 : n ≤ 60 := hc.1
  obtain ⟨an, -, eh⟩ := ch_in (B := B) (n := n) (a := a) (by omega)
  have n1 := nI_1 a
  have n2 := nI_1 op
  have g : ((-1 : Int32) < 0) = True := eq_true (by decide)
  have g33 : (nI 40 = 33) = False := eq_false (by decide +kernel)
  have g40 : (nI 40 = 40) = True := eq_true rfl
  have one : ((1 : Int32) = 0) = False := eq_false (by decide)
  have g5 : ((5 : Int32) ≤ nI op) = False := by rw [show (5 : Int32) = nI 5 from rfl, le_nn (by omega) (by omega)]; exact eq_false (by omega)
  have e5 : (nI op = (5 : Int32)) = False := by rw [show (5 : Int32) = nI 5 from rfl, eq_nn (by omega) (by omega)]; exact eq_false (by omega)
  have f3 := rc_at σ0 a Lc false
  have sa := rc_sa σ0 a (a + 1) Lc false
  have pc := un_pre hc hN E1 op a ha Lc
  rw [b2_F (by omega), hF, q40] at pc
  have mh := m_here_f (E2 + 6) τ0 a n B (by omega) hm Lm op
  rw [eh, q40] at mh
  have hw : rmS τ0 a Lm false op 87 12 = 0 := rm_w _ _ _ _ _
  have sw : rep (rmS τ0 a Lm false op) 87 (upd (rmS τ0 a Lm false op 87) 12 0) = rmS τ0 a Lm false op := rm_sw τ0 a Lm false false op
  have f10 := rm_op τ0 a Lm false op
  have so := rm_so τ0 a Lm false op (op + 1)
  have f9 := rm_at τ0 a Lm false (op + 1)
  have sb := rm_sa τ0 a (a + 1) Lm false (op + 1)
  have n3 : nI (op + 1) - 1 = nI op := by rw [show (1 : Int32) = nI 1 from rfl, pk_sub (by omega)]; rfl
  have pm : callD (E2 + 8) 153 [.ref 87] (rmS τ0 a Lm false op) = kont (callD (E2 + 7) 147 [.ref 87] (rmS τ0 (a + 1) Lm false (op + 1))) (E2 + 7) 153 85 [.ref 87, .int (nI 40), uu, uu] [] := by
    simp only [c153, s153_0, s153_1_o87, s153_4, s153_5, s153_6, s153_8, s153_11, s153_12, s153_14, s153_17, s153_18, s153_19_o87, s153_22, s153_23, s153_26, s153_27, s153_30, s153_31_o87, s153_34, s153_35_o87, s153_38, s153_41, s153_42, s153_43_o87, s153_46, s153_47, s153_48_o87, s153_51, s153_52, s153_53_o87, s153_56, s153_57, s153_58_o87, s153_61, s153_62, s153_64, s153_81, s153_82_o87, mh, g33, g40, f10, e5, up2_rep, sw, hw, isB_0, n2, so, f9, n1, sb, simprocAttr, if_true, if_false, true_and, and_true, false_and, and_false, not_false_eq_true, not_true_eq_false, gd_T, kont_i, kont_v]
  rcases sub (a + 1) Lc Lm (by omega) (by omega) with ⟨a2, C, x1, x2, x3, x4, x5, x6⟩ | ⟨a2, X, Y, x1, x2, x5, x6⟩
  · have kc := k_clos (E1 + 4) σ0 a2 n B (by omega) hc (C.map enI ++ Lc)
    by_cases qe : a2 < n ∧ B a2 = 41
    · have ec : chN B n a2 = 41 := by unfold chN; rw [if_pos qe.1]; exact qe.2
      rw [if_pos ec] at kc
      have mt : callD (E2 + 7) 145 [.ref 87, .int 41] _ = _ := m_takes_y (E2 + 5) τ0 a2 n B (by omega) hm (C ++ Lm) (op + 1) 41 qe.1 qe.2
      have sw2 : rep (rmS τ0 (a2 + 1) (C ++ Lm) false (op + 1)) 87 (upd (rmS τ0 (a2 + 1) (C ++ Lm) false (op + 1) 87) 12 0) = rmS τ0 (a2 + 1) (C ++ Lm) false (op + 1) := rm_sw τ0 (a2 + 1) (C ++ Lm) false false (op + 1)
      have f11 := rm_op τ0 (a2 + 1) (C ++ Lm) false (op + 1)
      have so2 := rm_so τ0 (a2 + 1) (C ++ Lm) false (op + 1) op
      refine Or.inl ⟨a2 + 1, C, by omega, by omega, by omega, x4, ?_, ?_⟩
      · rw [pc]
        simp only [s39_18, s39_21, s39_22_o70, s39_25, s39_28, s39_29, s39_58, s39_59, s39_61, s39_102, s39_103, s39_105, s39_108, s39_109, s39_110, s39_113, s39_114, s39_115_o70, s39_118, s39_119, s39_120_o70, s39_123, s39_124, s39_125, s39_126, s39_127, s39_128_o70, s39_131, s39_132_o70, s39_135, s39_143, g, g33, g40, g5, f3, n1, n2, up2_rep, sa, x5, kc, simprocAttr, if_true, if_false, true_and, and_true, false_and, and_false, not_false_eq_true, not_true_eq_false, gd_T, kont_i, kont_v]
      · rw [pm, x6]
        simp only [s153_85, s153_86, s153_87, s153_89_o87, s153_92, s153_95, s153_96, s153_99, s153_100_o87, s153_103, s153_104, s153_105_o87, s153_108, s153_109, s153_110_o87, s153_113, s153_247, mt, one, isB_0, up2_rep, sw2, f11, n3, so2, simprocAttr, if_true, if_false, true_and, and_true, false_and, and_false, not_false_eq_true, not_true_eq_false, gd_T, kont_i, kont_v]
    · have ec : ¬ chN B n a2 = 41 := fun q => by
        unfold chN at q
        by_cases z : a2 < n
        · rw [if_pos z] at q; exact qe ⟨z, q⟩
        · rw [if_neg z] at q; omega
      rw [if_neg ec] at kc
      have mt : callD (E2 + 7) 145 [.ref 87, .int 41] _ = _ := m_takes_n (E2 + 5) τ0 a2 n B (by omega) hm (C ++ Lm) (op + 1) 41 (by omega) qe
      have sw2 : rep (rmS τ0 a2 (C ++ Lm) false (op + 1)) 87 (upd (rmS τ0 a2 (C ++ Lm) false (op + 1) 87) 12 1) = rmS τ0 a2 (C ++ Lm) true (op + 1) := rm_sw τ0 a2 (C ++ Lm) false true (op + 1)
      have f11 := rm_op τ0 a2 (C ++ Lm) true (op + 1)
      have so2 := rm_so τ0 a2 (C ++ Lm) true (op + 1) op
      refine Or.inr ⟨a2, C.map enI ++ Lc, C ++ Lm, by omega, by omega, ?_, ?_⟩
      · rw [pc]
        simp only [s39_18, s39_21, s39_22_o70, s39_25, s39_28, s39_29, s39_58, s39_59, s39_61, s39_102, s39_103, s39_105, s39_108, s39_109, s39_110, s39_113, s39_114, s39_115_o70, s39_118, s39_119, s39_120_o70, s39_123, s39_124, s39_125, s39_126, s39_127, s39_128_o70, s39_131, s39_132_o70, s39_135, s39_143, g, g33, g40, g5, f3, n1, n2, up2_rep, sa, x5, kc, simprocAttr, if_true, if_false, true_and, and_true, false_and, and_false, not_false_eq_true, not_true_eq_false, gd_T, kont_i, kont_v]
      · rw [pm, x6]
        simp only [s153_85, s153_86, s153_87, s153_89_o87, s153_92, s153_95, s153_96, s153_99, s153_100_o87, s153_103, s153_104, s153_105_o87, s153_108, s153_109, s153_110_o87, s153_113, s153_247, mt, isB_1, up2_rep, sw2, f11, n3, so2, simprocAttr, if_true, if_false, true_and, and_true, false_and, and_false, not_false_eq_true, not_true_eq_false, gd_T, kont_i, kont_v]
  · have kc : callD (E1 + 7) 40 [.ref 70] (rcS σ0 a2 X true) = _ := k_clos_w (E1 + 6) σ0 a2 X
    have mt : callD (E2 + 7) 145 [.ref 87, .int 41] _ = _ := m_takes_t (E2 + 5) τ0 a2 (by omega) Y (op + 1) 41 (by omega)
    have sw2 : rep (rmS τ0 a2 Y true (op + 1)) 87 (upd (rmS τ0 a2 Y true (op + 1) 87) 12 1) = rmS τ0 a2 Y true (op + 1) := rm_sw τ0 a2 Y true true (op + 1)
    have f11 := rm_op τ0 a2 Y true (op + 1)
    have so2 := rm_so τ0 a2 Y true (op + 1) op
    refine Or.inr ⟨a2, X, Y, by omega, x2, ?_, ?_⟩
    · rw [pc]
      simp only [s39_18, s39_21, s39_22_o70, s39_25, s39_28, s39_29, s39_58, s39_59, s39_61, s39_102, s39_103, s39_105, s39_108, s39_109, s39_110, s39_113, s39_114, s39_115_o70, s39_118, s39_119, s39_120_o70, s39_123, s39_124, s39_125, s39_126, s39_127, s39_128_o70, s39_131, s39_132_o70, s39_135, s39_143, g, g33, g40, g5, f3, n1, n2, up2_rep, sa, x5, kc, simprocAttr, if_true, if_false, true_and, and_true, false_and, and_false, not_false_eq_true, not_true_eq_false, gd_T, kont_i, kont_v]
    · rw [pm, x6]
      simp only [s153_85, s153_86, s153_87, s153_89_o87, s153_92, s153_95, s153_96, s153_99, s153_100_o87, s153_103, s153_104, s153_105_o87, s153_108, s153_109, s153_110_o87, s153_113, s153_247, mt, isB_1, up2_rep, sw2, f11, n3, so2, simprocAttr, if_true, if_false, true_and, and_true, false_and, and_false, not_false_eq_true, not_true_eq_false, gd_T, kont_i, kont_v]
theorem unit_bad {σ0 τ0 : Hs} {n : Nat} {B : Nat → Nat} (hc : TPc σ0 n B) (hm : TPm τ0 n B) {s : Nat} {F : Nat → Int32} (hN : NMz σ0 τ0 s F) (E1 E2 op a : Nat) (Lc Lm : List Int32) (ha : a ≤ n) (hF : F (chN B n a) = -1) (qd : ¬ (48 ≤ chN B n a ∧ chN B n a ≤ 57)) (hb : (chN B n a ≠ 33 ∧ chN B n a ≠ 40) ∨ op = 5) : PRz σ0 τ0 n op a Lc Lm (callD (E1 + 8) 39 [.ref 70, .int (nI op)] (rcS σ0 a Lc false)) (callD (E2 + 8) 153 [.ref 87] (rmS τ0 a Lm false op)) := by
  have n60 : n ≤ 60 := hc.1
  have l256 := ch_lt hc a
  have g : ((-1 : Int32) < 0) = True := eq_true (by decide)
  have one : ((1 : Int32) = 0) = False := eq_false (by decide)
  have pc := un_pre hc hN E1 op a ha Lc
  rw [b2_F qd, hF] at pc
  have sc : rep (rcS σ0 a Lc false) 70 (upd (rcS σ0 a Lc false 70) 4 1) = rcS σ0 a Lc true := rc_sw σ0 a Lc false true
  have sm : rep (rmS τ0 a Lm false op) 87 (upd (rmS τ0 a Lm false op 87) 12 1) = rmS τ0 a Lm true op := rm_sw τ0 a Lm false true op
  have mh := m_here_f (E2 + 6) τ0 a n B (by omega) hm Lm op
  have mw := m_within (E2 + 6) (heI B n a) 48 57 (rmS τ0 a Lm false op)
  rw [b2_F (by rw [he_dig hm a]; exact qd)] at mw
  have hw : rmS τ0 a Lm false op 87 12 = 0 := rm_w _ _ _ _ _
  have hw1 : rmS τ0 a Lm true op 87 12 = 1 := rm_w _ _ _ _ _
  have f10 := rm_op τ0 a Lm false op
  have g5 : ((5 : Int32) ≤ nI 5) = True := eq_true (Int32.le_refl _)
  have e5 : (nI 5 = (5 : Int32)) = True := eq_true rfl
  refine Or.inr ⟨a, Lc, Lm, Nat.le_refl _, ha, ?_, ?_⟩
  · rw [pc]
    by_cases q33 : chN B n a = 33
    · have h5 : op = 5 := by omega
      have r33 : (nI 33 = 33) = True := eq_true rfl
      have r40 : (nI 33 = 40) = False := eq_false (by decide +kernel)
      rw [q33, h5]
      simp only [s39_18, s39_21, s39_22_o70, s39_25, s39_28, s39_29, s39_58, s39_59, s39_61, s39_64, s39_65, s39_66, s39_102, s39_103, s39_105, s39_108, s39_109, s39_110, s39_138, s39_139, s39_140_o70, s39_143, g, r33, r40, g5, isB_1, up2_rep, sc, simprocAttr, if_true, if_false, true_and, and_true, false_and, and_false, not_false_eq_true, not_true_eq_false, gd_T, kont_i, kont_v]
    · have r33 : (nI (chN B n a) = 33) = False := by rw [nc_33 l256]; exact eq_false q33
      by_cases q40 : chN B n a = 40
      · have h5 : op = 5 := by omega
        have r40 : (nI 40 = 40) = True := eq_true rfl
        rw [q40] at r33
        rw [q40, h5]
        simp only [s39_18, s39_21, s39_22_o70, s39_25, s39_28, s39_29, s39_58, s39_59, s39_61, s39_102, s39_103, s39_105, s39_108, s39_109, s39_110, s39_138, s39_139, s39_140_o70, s39_143, g, r33, r40, g5, isB_1, up2_rep, sc, simprocAttr, if_true, if_false, true_and, and_true, false_and, and_false, not_false_eq_true, not_true_eq_false, gd_T, kont_i, kont_v]
      · have r40 : (nI (chN B n a) = 40) = False := by rw [nc_40 l256]; exact eq_false q40
        simp only [s39_18, s39_21, s39_22_o70, s39_25, s39_28, s39_29, s39_58, s39_59, s39_61, s39_102, s39_103, s39_105, s39_108, s39_109, s39_110, s39_138, s39_139, s39_140_o70, s39_143, g, r33, r40, isB_1, up2_rep, sc, simprocAttr, if_true, if_false, true_and, and_true, false_and, and_false, not_false_eq_true, not_true_eq_false, gd_T, kont_i, kont_v]
  · by_cases q33 : chN B n a = 33
    · have h5 : op = 5 := by omega
      subst h5
      rw [(ch_in (B := B) (n := n) (a := a) (by omega)).2.2, q33] at mh
      have r33 : (nI 33 = 33) = True := eq_true rfl
      simp only [c153, s153_0, s153_1_o87, s153_4, s153_5, s153_6, s153_8, s153_11, s153_12, s153_14, s153_17, s153_18, s153_19_o87, s153_22, s153_23, s153_26, s153_27, s153_30, s153_31_o87, s153_34, s153_35_o87, s153_38, s153_247, mh, r33, f10, e5, isB_1, up2_rep, sm, hw1, one, simprocAttr, if_true, if_false, true_and, and_true, false_and, and_false, not_false_eq_true, not_true_eq_false, gd_T, kont_i, kont_v]
    · by_cases q40 : chN B n a = 40
      · have h5 : op = 5 := by omega
        subst h5
        rw [(ch_in (B := B) (n := n) (a := a) (by omega)).2.2, q40] at mh
        have r33 : (nI 40 = 33) = False := eq_false (by decide +kernel)
        have r40 : (nI 40 = 40) = True := eq_true rfl
        simp only [c153, s153_0, s153_1_o87, s153_4, s153_5, s153_6, s153_8, s153_11, s153_12, s153_14, s153_17, s153_18, s153_19_o87, s153_22, s153_23, s153_26, s153_27, s153_30, s153_31_o87, s153_34, s153_35_o87, s153_38, s153_247, mh, r33, r40, f10, e5, isB_1, up2_rep, sm, hw1, one, simprocAttr, if_true, if_false, true_and, and_true, false_and, and_false, not_false_eq_true, not_true_eq_false, gd_T, kont_i, kont_v]
      · have gm : ¬ (0 : Int32) ≤ -1 := by decide
        have gm2 := eq_false gm
        by_cases an : a < n
        · have eh : heI B n a = nI (chN B n a) := by unfold heI chN; rw [if_pos an, if_pos an]
          rw [eh] at mh mw
          have r33 : (nI (chN B n a) = 33) = False := by rw [nc_33 l256]; exact eq_false q33
          have r40 : (nI (chN B n a) = 40) = False := by rw [nc_40 l256]; exact eq_false q40
          have g3 : ((0 : Int32) ≤ nI (chN B n a)) = True := eq_true (nI_pos' (by omega))
          have hno : callD (E2 + 7) 152 [.ref 87, .int (nI (chN B n a))] (rmS τ0 a Lm false op) = _ := hN.2.2.2.1 (E2 + 1) (chN B n a) l256 (rmS τ0 a Lm false op) (rm_use _ _ _ _ _)
          rw [hF] at hno
          simp only [c153, s153_0, s153_1_o87, s153_4, s153_5, s153_6, s153_8, s153_11, s153_12, s153_14, s153_116, s153_117, s153_119, s153_121, s153_124, s153_187, s153_188, s153_191, s153_192, s153_195, s153_196, s153_197_o87, s153_200, s153_201, s153_202, s153_203_o87, s153_206, s153_209, s153_210, s153_213, s153_214, s153_217, s153_218_o87, s153_221, s153_222_o87, s153_225, s153_228, s153_229, s153_232, s153_233, s153_234_o87, s153_237, s153_238, s153_239_o87, s153_242, s153_243, s153_244_o87, s153_247, mh, mw, r33, r40, g3, hno, hw, gm2, isB_1, up2_rep, sm, hw1, one, simprocAttr, if_true, if_false, true_and, and_true, false_and, and_false, not_false_eq_true, not_true_eq_false, gd_T, kont_i, kont_v]
        · have eh : heI B n a = -1 := by unfold heI; rw [if_neg an]
          rw [eh] at mh mw
          have r33 : ((-1 : Int32) = 33) = False := eq_false (by decide)
          have r40 : ((-1 : Int32) = 40) = False := eq_false (by decide)
          simp only [c153, s153_0, s153_1_o87, s153_4, s153_5, s153_6, s153_8, s153_11, s153_12, s153_14, s153_116, s153_117, s153_119, s153_121, s153_124, s153_187, s153_188, s153_191, s153_192, s153_195, s153_196, s153_197_o87, s153_200, s153_201, s153_202, s153_203_o87, s153_206, s153_209, s153_210, s153_213, s153_214, s153_217, s153_218_o87, s153_221, s153_222_o87, s153_225, s153_228, s153_229, s153_232, s153_233, s153_234_o87, s153_237, s153_238, s153_239_o87, s153_242, s153_243, s153_244_o87, s153_247, mh, mw, r33, r40, hw, gm2, isB_1, up2_rep, sm, hw1, one, simprocAttr, if_true, if_false, true_and, and_true, false_and, and_false, not_false_eq_true, not_true_eq_false, gd_T, kont_i, kont_v]
