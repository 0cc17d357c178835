/-! ===== text: next, takes, closing, digits, names ===== -/
theorem nar_v {c : Nat} (h : c < 256) : narrow .char (.int (nI c)) = .int (nI c) := by
  have e : narrow .char (.int (nI c)) = .int (vp_nar .char (nI c)) := rfl
  rw [e, nar_c c h]
theorem k_next (d : Nat) (σ0 : Hs) (a n : Nat) (B : Nat → Nat) (ha : a ≤ 60) (ht : TPc σ0 n B) (L : List Int32) (w : Bool) : callD (d + 2) 37 [.ref 70] (rcS σ0 a L w) = some (some (.int (nI (chN B n a))), rcS σ0 a L w) := by
  obtain ⟨hn, h1, h2, h3⟩ := ht
  have f1 : rcS σ0 a L w 70 1 = 22 := (rc_f _ _ _ _ (by omega) (by omega)).trans h1
  have c22 : (22 : Int32).toNatClampNeg = 22 := rfl
  have f3 := rc_at σ0 a L w
  have e22 : rcS σ0 a L w 22 = σ0 22 := rc_o _ _ _ _ (by omega)
  have e23 : rcS σ0 a L w 23 = σ0 23 := rc_o _ _ _ _ (by omega)
  have g0 : (nI a < 0) = False := eq_false (nI_pos (by omega))
  unfold chN
  by_cases c : a < n
  · have g1 : (nI n ≤ nI a) = False := by rw [le_nn (by omega) (by omega)]; exact eq_false (by omega)
    have g2 : ((60 : Int32) ≤ nI a) = False := by rw [show (60 : Int32) = nI 60 from rfl, le_nn (by omega) (by omega)]; exact eq_false (by omega)
    have hx := (h3 a c).2
    have hb := (h3 a c).1
    have rt := fun l0 τ => s37_31 (d + 1) l0 (nI (B a)) (nar_v hb) τ
    rw [if_pos c]
    simp only [s37_0, s37_1_o70, s37_4, s37_5_o70, s37_8_o22, s37_11, s37_14, s37_15_o70, s37_18_o22, s37_21, s37_22_o70, s37_25_o23, s37_26, s37_27, s37_30, c37, c43, s43_0, s43_1, s43_4, s43_5, s43_6_o22, s43_6_o74, s43_9, s43_12, s43_13, s43_14_o22, s43_14_o74, s43_17_o23, s43_17_o75, s43_18, s43_21, s43_22, s43_25, s43_26, f1, c22, f3, e22, e23, h2, g0, g1, g2, isB_1, vp_nI (show a < 60 by omega), cl_nI (show a < 2147483648 by omega), hx, i2c_n _ hb, rt, simprocAttr, if_true, if_false, true_and, and_true, false_and, and_false, not_false_eq_true, not_true_eq_false, gd_T, kont_i, kont_v]
  · have g1 : (nI n ≤ nI a) = True := by rw [le_nn (by omega) (by omega)]; exact eq_true (by omega)
    have rt : ∀ l0 τ, ru (d + 1) 37 31 [l0] [.int 0] τ = some (some (.int 0), τ) := fun l0 τ => s37_31 (d + 1) l0 (nI 0) (nar_v (by omega)) τ
    rw [if_neg c]
    simp only [s37_0, s37_1_o70, s37_4, s37_5_o70, s37_8_o22, s37_11, s37_14, s37_15_o70, s37_18_o22, s37_21, s37_22_o70, s37_25_o23, s37_26, s37_27, s37_30, c37, c43, s43_0, s43_1, s43_4, s43_5, s43_6_o22, s43_6_o74, s43_9, s43_12, s43_13, s43_14_o22, s43_14_o74, s43_17_o23, s43_17_o75, s43_18, s43_21, s43_22, s43_25, s43_26, f1, c22, f3, e22, e23, h2, g0, g1, isB_0, rt, n_0, simprocAttr, if_true, if_false, true_and, and_true, false_and, and_false, not_false_eq_true, not_true_eq_false, gd_T, kont_i, kont_v]
theorem m_takes_t (d : Nat) (σ0 : Hs) (a : Nat) (ha : a ≤ 60) (L : List Int32) (op c : Nat) (hc : c < 256) : callD (d + 2) 145 [.ref 87, .int (nI c)] (rmS σ0 a L true op) = some (some (.int 0), rmS σ0 a L true op) := by
  have hh := m_here_t d σ0 a L op
  have g : ((-1 : Int32) = nI c) = False := eq_false (fun q => by
    have z := nI_pos' (show c < 2147483648 by omega)
    rw [← q] at z
    exact absurd z (by decide))
  have h9 := rm_at σ0 a L true op
  have a0 : nI a + 0 = nI a := nI_add a 0
  have sa := rm_sa σ0 a a L true op
  simp only [c145, s145_0, s145_1_o87, s145_4, s145_5, s145_8, s145_9, s145_12, s145_13, s145_14, s145_15, s145_16_o87, s145_19, s145_20, s145_23, s145_24, s145_27, s145_28, s145_29_o87, s145_32, s145_33, hh, g, h9, a0, up2_rep, sa, isB_0, simprocAttr, if_true, if_false, true_and, and_true, false_and, and_false, not_false_eq_true, not_true_eq_false, gd_T, kont_i, kont_v]
theorem m_takes_n (d : Nat) (σ0 : Hs) (a n : Nat) (B : Nat → Nat) (ha : a ≤ 60) (ht : TPm σ0 n B) (L : List Int32) (op c : Nat) (hc : c < 256) (hne : ¬ (a < n ∧ B a = c)) : callD (d + 2) 145 [.ref 87, .int (nI c)] (rmS σ0 a L false op) = some (some (.int 0), rmS σ0 a L false op) := by
  have hh := m_here_f d σ0 a n B ha ht L op
  have g : (heI B n a = nI c) = False := by
    unfold heI
    by_cases q : a < n
    · rw [if_pos q, nI_eq (by have := (ht.2.2 a q).1; omega) (by omega)]
      exact eq_false (fun z => hne ⟨q, z⟩)
    · rw [if_neg q]
      exact eq_false (fun q => by
        have z := nI_pos' (show c < 2147483648 by omega)
        rw [← q] at z
        exact absurd z (by decide))
  have h9 := rm_at σ0 a L false op
  have a0 : nI a + 0 = nI a := nI_add a 0
  have sa := rm_sa σ0 a a L false op
  simp only [c145, s145_0, s145_1_o87, s145_4, s145_5, s145_8, s145_9, s145_12, s145_13, s145_14, s145_15, s145_16_o87, s145_19, s145_20, s145_23, s145_24, s145_27, s145_28, s145_29_o87, s145_32, s145_33, hh, g, h9, a0, up2_rep, sa, isB_0, simprocAttr, if_true, if_false, true_and, and_true, false_and, and_false, not_false_eq_true, not_true_eq_false, gd_T, kont_i, kont_v]
theorem m_takes_y (d : Nat) (σ0 : Hs) (a n : Nat) (B : Nat → Nat) (ha : a ≤ 60) (ht : TPm σ0 n B) (L : List Int32) (op c : Nat) (hq : a < n) (he : B a = c) : callD (d + 2) 145 [.ref 87, .int (nI c)] (rmS σ0 a L false op) = some (some (.int 1), rmS σ0 (a + 1) L false op) := by
  have hh := m_here_f d σ0 a n B ha ht L op
  have g : (heI B n a = nI c) = True := by
    unfold heI
    rw [if_pos hq, he]
    exact eq_true rfl
  have h9 := rm_at σ0 a L false op
  have a0 := nI_1 a
  have sa := rm_sa σ0 a (a + 1) L false op
  have one : ((1 : Int32) = 0) = False := eq_false (by decide)
  simp only [c145, s145_0, s145_1_o87, s145_4, s145_5, s145_8, s145_9, s145_12, s145_13, s145_14, s145_15, s145_16_o87, s145_19, s145_20, s145_23, s145_24, s145_27, s145_28, s145_29_o87, s145_32, s145_33, hh, g, h9, a0, up2_rep, sa, isB_1, one, simprocAttr, if_true, if_false, true_and, and_true, false_and, and_false, not_false_eq_true, not_true_eq_false, gd_T, kont_i, kont_v]
theorem k_isDigit (d c : Nat) (hc : c < 256) (σ : Hs) : callD (d + 1) 42 [.int (nI c)] σ = some (some (.int (b2 (48 ≤ c ∧ c ≤ 57))), σ) := by
  have g1 : (nI c < (48 : Int32)) = (c < 48) := by rw [show (48 : Int32) = nI 48 from rfl, lt_nn (by omega) (by omega)]
  have g2 : ((57 : Int32) < nI c) = (57 < c) := by rw [show (57 : Int32) = nI 57 from rfl, lt_nn (by omega) (by omega)]
  simp only [c42, s42_0, s42_1, s42_3, s42_6, s42_7, s42_9, s42_12, s42_13, s42_16, s42_17, g1, g2, isB_0, isB_1, simprocAttr, if_true, if_false, true_and, and_true, false_and, and_false, not_false_eq_true, not_true_eq_false, gd_T, kont_i, kont_v]
  by_cases h1 : c < 48
  · rw [if_pos h1, b2_F (by omega)]
  · rw [if_neg h1]
    by_cases h2 : 57 < c
    · rw [if_pos h2, b2_F (by omega)]
    · rw [if_neg h2, b2_T (by omega)]
theorem k_clos_w (d : Nat) (σ0 : Hs) (a : Nat) (L : List Int32) : callD (d + 1) 40 [.ref 70] (rcS σ0 a L true) = some (none, rcS σ0 a L true) := by
  have hw : rcS σ0 a L true 70 4 = 1 := rc_w _ _ _ _
  have one : ((1 : Int32) = 0) = False := eq_false (by decide)
  simp only [c40, s40_0, s40_1_o70, s40_4, s40_7, s40_8, s40_9_o70, s40_12, s40_14, s40_17, s40_18, s40_19_o70, s40_22, s40_23, s40_24_o70, s40_27, s40_30, s40_31, s40_32_o70, s40_35, hw, one, simprocAttr, if_true, if_false, true_and, and_true, false_and, and_false, not_false_eq_true, not_true_eq_false, gd_T, kont_i, kont_v]
theorem k_clos (d : Nat) (σ0 : Hs) (a n : Nat) (B : Nat → Nat) (ha : a ≤ 60) (ht : TPc σ0 n B) (L : List Int32) : callD (d + 3) 40 [.ref 70] (rcS σ0 a L false) = some (none, if chN B n a = 41 then rcS σ0 (a + 1) L false else rcS σ0 a L true) := by
  have hw : rcS σ0 a L false 70 4 = 0 := rc_w _ _ _ _
  have h3 := rc_at σ0 a L false
  have hn := k_next d σ0 a n B ha ht L false
  have a1 := nI_1 a
  have sa := rc_sa σ0 a (a + 1) L false
  have sw : rep (rcS σ0 a L false) 70 (upd (rcS σ0 a L false 70) 4 1) = rcS σ0 a L true := rc_sw σ0 a L false true
  have lt : chN B n a < 256 := by
    unfold chN
    by_cases q : a < n
    · rw [if_pos q]; exact (ht.2.2.2 a q).1
    · rw [if_neg q]; omega
  have g : (nI (chN B n a) = (41 : Int32)) = (chN B n a = 41) := by rw [show (41 : Int32) = nI 41 from rfl, eq_nn (by omega) (by omega)]
  by_cases c : chN B n a = 41
  · rw [if_pos c]
    have g' := g.trans (eq_true c)
    simp only [c40, s40_0, s40_1_o70, s40_4, s40_7, s40_8, s40_9_o70, s40_12, s40_14, s40_17, s40_18, s40_19_o70, s40_22, s40_23, s40_24_o70, s40_27, s40_30, s40_31, s40_32_o70, s40_35, hw, hn, g', h3, a1, up2_rep, sa, simprocAttr, if_true, if_false, true_and, and_true, false_and, and_false, not_false_eq_true, not_true_eq_false, gd_T, kont_i, kont_v]
  · rw [if_neg c]
    have g' := g.trans (eq_false c)
    simp only [c40, s40_0, s40_1_o70, s40_4, s40_7, s40_8, s40_9_o70, s40_12, s40_14, s40_17, s40_18, s40_19_o70, s40_22, s40_23, s40_24_o70, s40_27, s40_30, s40_31, s40_32_o70, s40_35, hw, hn, g', up2_rep, sw, isB_1, simprocAttr, if_true, if_false, true_and, and_true, false_and, and_false, not_false_eq_true, not_true_eq_false, gd_T, kont_i, kont_v]
