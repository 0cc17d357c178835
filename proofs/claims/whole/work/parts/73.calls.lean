/-! ===== the calls: light, heap, garden, seed, minutes ===== -/
theorem liT_n {T : Nat → Int32} (hW : WI T) {p : Nat} (hp : p < 30) (hi : isT T p) : ∃ b : Nat, b < 10000 ∧ liT T p = teT (teT T p 6 1) p 5 (nI b) := by
  obtain ⟨u, eu, lu⟩ := hW.n hp hi 5 (by omega) (by omega)
  have lu : u < 10000 := lu
  refine ⟨max 100 u, by omega, ?_⟩
  unfold liT
  rw [eu, show (100 : Int32) = nI 100 from rfl, jmax_n (by omega) (by omega)]
theorem WI.li {T : Nat → Int32} (hW : WI T) {p : Nat} (hp : p < 30) (hi : isT T p) : WI (liT T p) := by
  obtain ⟨b, lb, e⟩ := liT_n hW hp hi
  rw [e]
  exact (hW.te (by omega) (by omega) (FR_n (f := 6) (n := 1) (Nat.zero_le _) (show 1 < 2 by omega))).te (by omega) (by omega) (FR_n (f := 5) (Nat.zero_le _) lb)
theorem liT_f {T : Nat → Int32} {p q f : Nat} (hf : f < 7) (h6 : f ≠ 6) (h5 : f ≠ 5) : ofT (liT T p) q f = ofT T q f := by
  unfold liT
  rw [ofT_te (by omega) hf, if_neg (fun c => h5 c.2), ofT_te (by omega) hf, if_neg (fun c => h6 c.2)]
theorem sN_li {T : Nat → Int32} {p : Nat} : sN (liT T p) 30 = sN T 30 := sN_eq (fun q _ => stN_of (liT_f (by omega) (by omega) (by omega)) (liT_f (by omega) (by omega) (by omega)))
theorem PlT_li {T : Nat → Int32} {p : Nat} (hp : p < 30) : PlT T (liT T p) := (PlT_te hp (by omega)).tr (PlT_te hp (by omega))
theorem MI.pl {T T' : Nat → Int32} (h : MI T) (hW : WI T') (e : PlT T T') : MI T' := by
  obtain ⟨h1, h2, h3, h4, h5⟩ := h
  refine ⟨hW, MOK_congr (fun j j1 j2 => e j (by omega)) (e 6 (by omega)) (e 8 (by omega)) hW.K h2, fun g hg => ?_, ?_, ?_⟩
  · rw [e _ (by omega), e _ (by omega)]; exact h3 g hg
  · rw [e _ (by omega)]; exact h4
  · rw [e _ (by omega)]; exact h5
theorem L_light {i : Nat} {σ : Hs} (h : RR i σ) (d : Nat) (v : Int32) : Step d i 63 139 [.int v] σ := by
  by_cases hv : 0 ≤ v ∧ v ≤ 29
  · have hvt := eq_true hv
    obtain ⟨p, hp, rfl⟩ := plc_n hv
    have ei := h2_has (d + 98) p hp σ (σ 88) h.hr h.wi.P
    by_cases hi : isT (σ 88) p
    · have ec := h2_canBeLit (d + 98) p hp σ (σ 88) h.hr h.wi hi
      by_cases hc : ¬ litT (σ 88) p ∧ ofT (σ 88) p 3 ≤ σ 88 7 ∧ ¬ ofT (σ 88) p 1 = 6
      · obtain ⟨σ1, e1, f1⟩ := k_bylawLets (d + 96) σ (σ 88) h.hr h.wi h.lr h.ti.L.2.1
        have r1 : HR 2 σ1 (σ 88) := h.hr.fr (fun o o1 o2 => f1 o (by omega))
        have f88 : σ1 88 = σ 88 := f1 88 (by omega)
        have nw : (σ 88 7 < ofT (σ 88) p 3) = False := eq_false (Int32.not_lt.mpr hc.2.1)
        have nk : (ofT (σ 88) p 1 = 6) = False := eq_false hc.2.2
        by_cases hb : byI (σ 88) = 0
        · have hb0 : b2 (¬ byI (σ 88) = 0) = 0 := b2_F (fun q => q hb)
          have c1 : callD (d + 100) 63 [.ref 0, .int (nI p)] σ = some (some (.int (-1000003)), erC σ1 3) := by
            simp only [c63, s63_0, s63_1, s63_4, s63_7, s63_8, s63_9_o0, s63_12, s63_13, s63_14_o0, s63_17_o1, s63_20, s63_21_o2, s63_24, s63_27, s63_28, s63_29_o0, s63_32, s63_33, s63_34_o0, s63_37_o1, s63_40, s63_41_o2, s63_44, s63_47, s63_48_o0, s63_51, s63_54, s63_55, s63_56_o0, s63_59, s63_60, s63_61_o0, s63_64_o1, s63_67, s63_68_o2, s63_71, s63_72, k_isPlace, lt_le30, hvt, b2_t, ei, b2_T hi, ec, b2_T hc, e1, hb0, k_failed_3, simprocAttr, if_true, if_false, true_and, and_true, false_and, and_false, not_false_eq_true, not_true_eq_false, gd_T, kont_i, kont_v]
          obtain ⟨σ2, e2, f2⟩ := m_mayBe (d + 95) (erC σ1 3) (by rw [show erC σ1 3 88 = σ1 88 from rep_ne (by omega), f88]; exact h.ti.L.2.1)
          have g88 : erC σ1 3 88 = σ 88 := (show erC σ1 3 88 = σ1 88 from rep_ne (by omega)).trans f88
          rw [g88] at e2
          have c2 : callD (d + 100) 139 [.ref 87, .int (nI p)] (erC σ1 3) = some (some (.int (-1000003)), erM σ2 3) := by
            simp only [c139, s139_0, s139_1, s139_4, s139_7, s139_8, s139_10_o87, s139_13, s139_14, s139_15, s139_16_o87, s139_19, s139_22, s139_23, s139_25_o87, s139_28, s139_29, s139_30, s139_31_o87, s139_34, s139_37, s139_38, s139_39, s139_40_o87, s139_43, s139_44_o87, s139_47, s139_49_o88, s139_50, s139_53, s139_54, s139_55, s139_56_o87, s139_59, s139_61, s139_64, s139_65_o87, s139_68, s139_71, s139_72, s139_74_o87, s139_77, s139_78, s139_79, s139_80_o87, s139_83, s139_84, m_isPlace, hvt, b2_t, m_is _ _ hp, m_isLit _ _ hp, g88, b2_T hi, b2_F hc.1, m_of_3 _ _ hp, m_of_1 _ _ hp, vp_lit, nw, nk, e2, hb0, m_fin_3, simprocAttr, if_true, if_false, true_and, and_true, false_and, and_false, not_false_eq_true, not_true_eq_false, gd_T, kont_i, kont_v]
          have ff : ∀ o, o ≠ 15 → o ≠ 97 → o ≠ 98 → erM σ2 3 o = erM (erC σ 3) 3 o := by
            intro o o1 o2 o3
            unfold erM
            rw [rep_at, rep_at]
            have q91 : σ2 91 = erC σ 3 91 := by
              rw [f2 91 (by omega) (by omega)]
              unfold erC
              rw [rep_ne (by omega), rep_ne (by omega), f1 91 (by omega)]
            have q : σ2 o = erC σ 3 o := by
              rw [f2 o o2 o3]
              unfold erC
              rw [rep_at, rep_at, f1 85 (by omega), f1 o o1]
            rw [q91, q]
          have hr2 := h.err 3 (by
            have hw := h.wb.two c1 c2
            have hw0 := callD_WB _ _ _ _ _ _ h.wb (k_failed_3 0 σ)
            exact callD_WB _ _ _ _ _ _ hw0 (m_fin_3 0 (erC σ 3)))
          refine ⟨_, _, _, c1, c2, ?_⟩
          have hw := h.wb.two c1 c2
          obtain ⟨a1, a2, a3, a4, a5, a6, a7, a8, -⟩ := hr2
          have e88 : erM σ2 3 88 = erM (erC σ 3) 3 88 := ff 88 (by omega) (by omega) (by omega)
          refine ⟨?_, ?_, ?_, a4.fr (Nat.le_refl _) (fun o ho => ff o (by omega) (by omega) (by omega)) (by rw [ff 87 (by omega) (by omega) (by omega)]), ?_, a6.fr (fun o ho => ff o (by omega) (by omega) (by omega)) (by rw [ff 87 (by omega) (by omega) (by omega)]), a7.fr (fun o ho => ff o (by omega) (by omega) (by omega)), a8.fr (fun o ho => ff o (by omega) (by omega) (by omega)), hw⟩
          · rw [e88]
            refine a1.ql (a1.1.fr (fun o o1 o2 => ff o (by omega) (by omega) (by omega))) (QlT.rf _) (fun o ho => ff o (by omega) (by omega) (by omega))
          · rw [e88]; exact a2
          · rw [e88]; exact a3
          · exact a5.fr (ff 85 (by omega) (by omega) (by omega)) (ff 91 (by omega) (by omega) (by omega))
        · obtain ⟨σ3, e3, r3, f3⟩ := h2_lightByHand (d + 98) p hp σ1 (σ 88) r1 hi
          have c1 : callD (d + 100) 63 [.ref 0, .int (nI p)] σ = some (some (.int 1), σ3) := by
            simp only [c63, s63_0, s63_1, s63_4, s63_7, s63_8, s63_9_o0, s63_12, s63_13, s63_14_o0, s63_17_o1, s63_20, s63_21_o2, s63_24, s63_27, s63_28, s63_29_o0, s63_32, s63_33, s63_34_o0, s63_37_o1, s63_40, s63_41_o2, s63_44, s63_47, s63_48_o0, s63_51, s63_54, s63_55, s63_56_o0, s63_59, s63_60, s63_61_o0, s63_64_o1, s63_67, s63_68_o2, s63_71, s63_72, k_isPlace, lt_le30, hvt, b2_t, ei, b2_T hi, ec, b2_T hc, e1, b2_T hb, e3, simprocAttr, if_true, if_false, true_and, and_true, false_and, and_false, not_false_eq_true, not_true_eq_false, gd_T, kont_i, kont_v]
          have g88 : σ3 88 = σ 88 := (f3 88 (by omega) (by omega)).trans f88
          obtain ⟨σ4, e4, f4⟩ := m_mayBe (d + 95) σ3 (by rw [g88]; exact h.ti.L.2.1)
          rw [g88] at e4
          have h88 : σ4 88 = σ 88 := (f4 88 (by omega) (by omega)).trans g88
          have hm := m_lights (d + 97) p hp σ4
          rw [h88] at hm
          have c2 : callD (d + 100) 139 [.ref 87, .int (nI p)] σ3 = some (some (.int 1), rep σ4 88 (liT (σ 88) p)) := by
            simp only [c139, s139_0, s139_1, s139_4, s139_7, s139_8, s139_10_o87, s139_13, s139_14, s139_15, s139_16_o87, s139_19, s139_22, s139_23, s139_25_o87, s139_28, s139_29, s139_30, s139_31_o87, s139_34, s139_37, s139_38, s139_39, s139_40_o87, s139_43, s139_44_o87, s139_47, s139_49_o88, s139_50, s139_53, s139_54, s139_55, s139_56_o87, s139_59, s139_61, s139_64, s139_65_o87, s139_68, s139_71, s139_72, s139_74_o87, s139_77, s139_78, s139_79, s139_80_o87, s139_83, s139_84, m_isPlace, hvt, b2_t, m_is _ _ hp, m_isLit _ _ hp, g88, b2_T hi, b2_F hc.1, m_of_3 _ _ hp, m_of_1 _ _ hp, vp_lit, nw, nk, e4, b2_T hb, hm, simprocAttr, if_true, if_false, true_and, and_true, false_and, and_false, not_false_eq_true, not_true_eq_false, gd_T, kont_i, kont_v]
          have ff : ∀ o, o ≠ 7 → o ≠ 8 → o ≠ 15 → o ≠ 97 → o ≠ 98 → o ≠ 88 → rep σ4 88 (liT (σ 88) p) o = σ o := fun o o1 o2 o3 o4 o5 o6 => (rep_ne o6).trans ((f4 o o4 o5).trans ((f3 o o1 o2).trans (f1 o o3)))
          refine ⟨_, _, _, c1, c2, h.pl (rep_self _ _ _) ?_ (h.wi.li hp hi) (PlT_li hp) ?_ (h.wb.two c1 c2) ?_ ?_ ?_⟩
          · exact r3.fr (fun o o1 o2 => (rep_ne (by omega)).trans (f4 o (by omega) (by omega)))
          · rw [sN_li]; omega
          · intro o ho
            unfold kpO at ho
            exact ff o (by omega) (by omega) (by omega) (by omega) (by omega) (by omega)
          · rw [ff 87 (by omega) (by omega) (by omega) (by omega) (by omega) (by omega)]
          · rw [ff 87 (by omega) (by omega) (by omega) (by omega) (by omega) (by omega)]
      · refine Step_err h 3 (v := -1000003) ?_ ?_
        · simp only [c63, s63_0, s63_1, s63_4, s63_7, s63_8, s63_9_o0, s63_12, s63_13, s63_14_o0, s63_17_o1, s63_20, s63_21_o2, s63_24, s63_27, s63_28, s63_29_o0, s63_32, s63_33, s63_34_o0, s63_37_o1, s63_40, s63_41_o2, s63_44, s63_47, s63_48_o0, s63_51, s63_54, s63_55, s63_56_o0, s63_59, s63_60, s63_61_o0, s63_64_o1, s63_67, s63_68_o2, s63_71, s63_72, k_isPlace, lt_le30, hvt, b2_t, ei, b2_T hi, ec, b2_F hc, k_failed_3, simprocAttr, if_true, if_false, true_and, and_true, false_and, and_false, not_false_eq_true, not_true_eq_false, gd_T, kont_i, kont_v]
        · have e88 : erC σ 3 88 = σ 88 := rep_ne (by omega)
          by_cases q1 : litT (σ 88) p
          · simp only [c139, s139_0, s139_1, s139_4, s139_7, s139_8, s139_10_o87, s139_13, s139_14, s139_15, s139_16_o87, s139_19, s139_22, s139_23, s139_25_o87, s139_28, s139_29, s139_30, s139_31_o87, s139_34, s139_37, s139_38, s139_39, s139_40_o87, s139_43, s139_44_o87, s139_47, s139_49_o88, s139_50, s139_53, s139_54, s139_55, s139_56_o87, s139_59, s139_61, s139_64, s139_65_o87, s139_68, s139_71, s139_72, s139_74_o87, s139_77, s139_78, s139_79, s139_80_o87, s139_83, s139_84, m_isPlace, hvt, b2_t, m_is _ _ hp, m_isLit _ _ hp, e88, b2_T hi, b2_T q1, m_fin_3, simprocAttr, if_true, if_false, true_and, and_true, false_and, and_false, not_false_eq_true, not_true_eq_false, gd_T, kont_i, kont_v]
          · by_cases q2 : σ 88 7 < ofT (σ 88) p 3
            · have q2' := eq_true q2
              simp only [c139, s139_0, s139_1, s139_4, s139_7, s139_8, s139_10_o87, s139_13, s139_14, s139_15, s139_16_o87, s139_19, s139_22, s139_23, s139_25_o87, s139_28, s139_29, s139_30, s139_31_o87, s139_34, s139_37, s139_38, s139_39, s139_40_o87, s139_43, s139_44_o87, s139_47, s139_49_o88, s139_50, s139_53, s139_54, s139_55, s139_56_o87, s139_59, s139_61, s139_64, s139_65_o87, s139_68, s139_71, s139_72, s139_74_o87, s139_77, s139_78, s139_79, s139_80_o87, s139_83, s139_84, m_isPlace, hvt, b2_t, m_is _ _ hp, m_isLit _ _ hp, e88, b2_T hi, b2_F q1, m_of_3 _ _ hp, vp_lit, q2', m_fin_3, simprocAttr, if_true, if_false, true_and, and_true, false_and, and_false, not_false_eq_true, not_true_eq_false, gd_T, kont_i, kont_v]
            · have q2' := eq_false q2
              have q3 : ofT (σ 88) p 1 = 6 := Classical.byContradiction (fun q => hc ⟨q1, Int32.not_lt.mp q2, q⟩)
              simp only [c139, s139_0, s139_1, s139_4, s139_7, s139_8, s139_10_o87, s139_13, s139_14, s139_15, s139_16_o87, s139_19, s139_22, s139_23, s139_25_o87, s139_28, s139_29, s139_30, s139_31_o87, s139_34, s139_37, s139_38, s139_39, s139_40_o87, s139_43, s139_44_o87, s139_47, s139_49_o88, s139_50, s139_53, s139_54, s139_55, s139_56_o87, s139_59, s139_61, s139_64, s139_65_o87, s139_68, s139_71, s139_72, s139_74_o87, s139_77, s139_78, s139_79, s139_80_o87, s139_83, s139_84, m_isPlace, hvt, b2_t, m_is _ _ hp, m_isLit _ _ hp, e88, b2_T hi, b2_F q1, m_of_3 _ _ hp, m_of_1 _ _ hp, vp_lit, q2', q3, m_fin_3, simprocAttr, if_true, if_false, true_and, and_true, false_and, and_false, not_false_eq_true, not_true_eq_false, gd_T, kont_i, kont_v]
    · refine Step_err h 2 (v := -1000002) ?_ ?_
      · simp only [c63, s63_0, s63_1, s63_4, s63_7, s63_8, s63_9_o0, s63_12, s63_13, s63_14_o0, s63_17_o1, s63_20, s63_21_o2, s63_24, s63_27, s63_28, s63_29_o0, s63_32, s63_33, s63_34_o0, s63_37_o1, s63_40, s63_41_o2, s63_44, s63_47, s63_48_o0, s63_51, s63_54, s63_55, s63_56_o0, s63_59, s63_60, s63_61_o0, s63_64_o1, s63_67, s63_68_o2, s63_71, s63_72, k_isPlace, lt_le30, hvt, b2_t, ei, b2_F hi, k_failed_2, simprocAttr, if_true, if_false, true_and, and_true, false_and, and_false, not_false_eq_true, not_true_eq_false, gd_T, kont_i, kont_v]
      · have hi1 : ¬ isT (erC σ 2 88) p := by rw [show erC σ 2 88 = σ 88 from rep_ne (by omega)]; exact hi
        simp only [c139, s139_0, s139_1, s139_4, s139_7, s139_8, s139_10_o87, s139_13, s139_14, s139_15, s139_16_o87, s139_19, s139_22, s139_23, s139_25_o87, s139_28, s139_29, s139_30, s139_31_o87, s139_34, s139_37, s139_38, s139_39, s139_40_o87, s139_43, s139_44_o87, s139_47, s139_49_o88, s139_50, s139_53, s139_54, s139_55, s139_56_o87, s139_59, s139_61, s139_64, s139_65_o87, s139_68, s139_71, s139_72, s139_74_o87, s139_77, s139_78, s139_79, s139_80_o87, s139_83, s139_84, m_isPlace, hvt, b2_t, m_is _ _ hp, b2_F hi1, m_fin_2, simprocAttr, if_true, if_false, true_and, and_true, false_and, and_false, not_false_eq_true, not_true_eq_false, gd_T, kont_i, kont_v]
  · have hvf := nplc hv
    refine Step_err h 1 (v := -1000001) ?_ ?_
    · simp only [c63, s63_0, s63_1, s63_4, s63_7, s63_8, s63_9_o0, s63_12, s63_13, s63_14_o0, s63_17_o1, s63_20, s63_21_o2, s63_24, s63_27, s63_28, s63_29_o0, s63_32, s63_33, s63_34_o0, s63_37_o1, s63_40, s63_41_o2, s63_44, s63_47, s63_48_o0, s63_51, s63_54, s63_55, s63_56_o0, s63_59, s63_60, s63_61_o0, s63_64_o1, s63_67, s63_68_o2, s63_71, s63_72, k_isPlace, lt_le30, hvf, b2_f, k_failed_1, simprocAttr, if_true, if_false, true_and, and_true, false_and, and_false, not_false_eq_true, not_true_eq_false, gd_T, kont_i, kont_v]
    · simp only [c139, s139_0, s139_1, s139_4, s139_7, s139_8, s139_10_o87, s139_13, s139_14, s139_15, s139_16_o87, s139_19, s139_22, s139_23, s139_25_o87, s139_28, s139_29, s139_30, s139_31_o87, s139_34, s139_37, s139_38, s139_39, s139_40_o87, s139_43, s139_44_o87, s139_47, s139_49_o88, s139_50, s139_53, s139_54, s139_55, s139_56_o87, s139_59, s139_61, s139_64, s139_65_o87, s139_68, s139_71, s139_72, s139_74_o87, s139_77, s139_78, s139_79, s139_80_o87, s139_83, s139_84, m_isPlace, hvf, b2_f, m_fin_1, simprocAttr, if_true, if_false, true_and, and_true, false_and, and_false, not_false_eq_true, not_true_eq_false, gd_T, kont_i, kont_v]
theorem m_ofHeap_l (d : Nat) (l1 : Value) (σ : Hs) : ∀ k n, n + k = 6 → ru (d + 3) 179 69 [.ref 87, .int 6, .int (hgN (σ 88) n), .int (nI n)] [] σ = some (some (.int (hgN (σ 88) 6)), σ) := by
  intro k
  induction k with
  | zero =>
    intro n hn
    obtain rfl : n = 6 := by omega
    simp only [s179_69]
    simp only [s179_70, s179_72, s179_75, s179_76, s179_77, s179_78_o87, s179_81, s179_84, s179_85, s179_88, s179_91, s179_92, n_6, Int32.le_refl, simprocAttr, if_true, if_false, true_and, and_true, false_and, and_false, not_false_eq_true, not_true_eq_false, gd_T, kont_i, kont_v]
  | succ k ih =>
    intro n hn
    have h31 : n < 2147483648 := by omega
    have hi := ih (n + 1) (by omega)
    rw [hgN] at hi
    have hh := m_highOf d n (by omega) σ
    simp only [s179_69]
    simp only [s179_70, s179_72, s179_75, s179_76, s179_77, s179_78_o87, s179_81, s179_84, s179_85, s179_88, s179_91, s179_92, le_nI_r h31, hh, nI_1, hi, simprocAttr, if_true, if_false, true_and, and_true, false_and, and_false, not_false_eq_true, not_true_eq_false, gd_T, kont_i, kont_v]
    rw [if_neg (by omega)]
theorem m_ofHeap (d w : Nat) (hw : w < 8) (σ : Hs) : callD (d + 4) 179 [.ref 87, .int (nI w)] σ = some (some (.int (htI (σ 88) w)), σ) := by
  have hl := m_ofHeap_l d (.int 6) σ 6 0 rfl
  have hw' : w = 0 ∨ w = 1 ∨ w = 2 ∨ w = 3 ∨ w = 4 ∨ w = 5 ∨ w = 6 ∨ w = 7 := by omega
  rw [show hgN (σ 88) 0 = 0 from rfl, n_0] at hl
  rcases hw' with rfl | rfl | rfl | rfl | rfl | rfl | rfl | rfl
  · simp only [c179, s179_0, s179_1, s179_2, s179_3, s179_48, s179_49, s179_50_o87, s179_53, s179_54, s179_55, s179_57_o87, s179_60, s179_61, s179_62, s179_63_o87, s179_66, s179_67, s179_68, s179_70, s179_72, s179_75, s179_76, s179_77, s179_78_o87, s179_81, s179_84, s179_85, s179_88, s179_91, s179_92, s179_93, s179_94, s179_95_o87, s179_98, s179_99, s179_100_o87, s179_103, s179_105, s179_106, s179_107, s179_108, s179_109_o88, s179_110, htI, n_0, m_sum_2, simprocAttr, if_true, if_false, true_and, and_true, false_and, and_false, not_false_eq_true, not_true_eq_false, gd_T, kont_i, kont_v]
  · simp only [c179, s179_0, s179_1, s179_2, s179_3, s179_48, s179_49, s179_50_o87, s179_53, s179_54, s179_55, s179_57_o87, s179_60, s179_61, s179_62, s179_63_o87, s179_66, s179_67, s179_68, s179_70, s179_72, s179_75, s179_76, s179_77, s179_78_o87, s179_81, s179_84, s179_85, s179_88, s179_91, s179_92, s179_93, s179_94, s179_95_o87, s179_98, s179_99, s179_100_o87, s179_103, s179_105, s179_106, s179_107, s179_108, s179_109_o88, s179_110, htI, n_1, m_sum_6, simprocAttr, if_true, if_false, true_and, and_true, false_and, and_false, not_false_eq_true, not_true_eq_false, gd_T, kont_i, kont_v]
  · simp only [c179, s179_0, s179_1, s179_2, s179_3, s179_48, s179_49, s179_50_o87, s179_53, s179_54, s179_55, s179_57_o87, s179_60, s179_61, s179_62, s179_63_o87, s179_66, s179_67, s179_68, s179_70, s179_72, s179_75, s179_76, s179_77, s179_78_o87, s179_81, s179_84, s179_85, s179_88, s179_91, s179_92, s179_93, s179_94, s179_95_o87, s179_98, s179_99, s179_100_o87, s179_103, s179_105, s179_106, s179_107, s179_108, s179_109_o88, s179_110, htI, n_2, m_sum_5, simprocAttr, if_true, if_false, true_and, and_true, false_and, and_false, not_false_eq_true, not_true_eq_false, gd_T, kont_i, kont_v]
  · simp only [c179, s179_0, s179_1, s179_2, s179_3, s179_48, s179_49, s179_50_o87, s179_53, s179_54, s179_55, s179_57_o87, s179_60, s179_61, s179_62, s179_63_o87, s179_66, s179_67, s179_68, s179_70, s179_72, s179_75, s179_76, s179_77, s179_78_o87, s179_81, s179_84, s179_85, s179_88, s179_91, s179_92, s179_93, s179_94, s179_95_o87, s179_98, s179_99, s179_100_o87, s179_103, s179_105, s179_106, s179_107, s179_108, s179_109_o88, s179_110, htI, n_3, vp_lit, simprocAttr, if_true, if_false, true_and, and_true, false_and, and_false, not_false_eq_true, not_true_eq_false, gd_T, kont_i, kont_v]
  · simp only [c179, s179_0, s179_1, s179_2, s179_3, s179_48, s179_49, s179_50_o87, s179_53, s179_54, s179_55, s179_57_o87, s179_60, s179_61, s179_62, s179_63_o87, s179_66, s179_67, s179_68, s179_70, s179_72, s179_75, s179_76, s179_77, s179_78_o87, s179_81, s179_84, s179_85, s179_88, s179_91, s179_92, s179_93, s179_94, s179_95_o87, s179_98, s179_99, s179_100_o87, s179_103, s179_105, s179_106, s179_107, s179_108, s179_109_o88, s179_110, htI, n_4, vp_lit, simprocAttr, if_true, if_false, true_and, and_true, false_and, and_false, not_false_eq_true, not_true_eq_false, gd_T, kont_i, kont_v]
  · simp only [c179, s179_0, s179_1, s179_2, s179_3, s179_48, s179_49, s179_50_o87, s179_53, s179_54, s179_55, s179_57_o87, s179_60, s179_61, s179_62, s179_63_o87, s179_66, s179_67, s179_68, s179_70, s179_72, s179_75, s179_76, s179_77, s179_78_o87, s179_81, s179_84, s179_85, s179_88, s179_91, s179_92, s179_93, s179_94, s179_95_o87, s179_98, s179_99, s179_100_o87, s179_103, s179_105, s179_106, s179_107, s179_108, s179_109_o88, s179_110, htI, n_5, vp_lit, simprocAttr, if_true, if_false, true_and, and_true, false_and, and_false, not_false_eq_true, not_true_eq_false, gd_T, kont_i, kont_v]
  · simp only [c179, s179_0, s179_1, s179_2, s179_3, s179_48, s179_49, s179_50_o87, s179_53, s179_54, s179_55, s179_57_o87, s179_60, s179_61, s179_62, s179_63_o87, s179_66, s179_67, s179_68, s179_70, s179_72, s179_75, s179_76, s179_77, s179_78_o87, s179_81, s179_84, s179_85, s179_88, s179_91, s179_92, s179_93, s179_94, s179_95_o87, s179_98, s179_99, s179_100_o87, s179_103, s179_105, s179_106, s179_107, s179_108, s179_109_o88, s179_110, htI, n_6, hl, simprocAttr, if_true, if_false, true_and, and_true, false_and, and_false, not_false_eq_true, not_true_eq_false, gd_T, kont_i, kont_v]
  · simp only [c179, s179_0, s179_1, s179_2, s179_3, s179_48, s179_49, s179_50_o87, s179_53, s179_54, s179_55, s179_57_o87, s179_60, s179_61, s179_62, s179_63_o87, s179_66, s179_67, s179_68, s179_70, s179_72, s179_75, s179_76, s179_77, s179_78_o87, s179_81, s179_84, s179_85, s179_88, s179_91, s179_92, s179_93, s179_94, s179_95_o87, s179_98, s179_99, s179_100_o87, s179_103, s179_105, s179_106, s179_107, s179_108, s179_109_o88, s179_110, htI, n_7, m_sum_3, simprocAttr, if_true, if_false, true_and, and_true, false_and, and_false, not_false_eq_true, not_true_eq_false, gd_T, kont_i, kont_v]
theorem L_heap {i : Nat} {σ : Hs} (h : RR i σ) (d : Nat) (v : Int32) : Step d i 75 180 [.int v] σ := by
  by_cases hv : 0 ≤ v ∧ v ≤ 7
  · have hvt := eq_true hv
    obtain ⟨w, -, lw, rfl⟩ := within_n (a := 0) (b := 7) hv rfl rfl (by omega) (by omega)
    have e1 := h2_heapTells (d + 95) w (by omega) σ (σ 88) h.hr h.wi
    have e2 := m_ofHeap (d + 95) w (by omega) σ
    refine ⟨htI (σ 88) w, σ, σ, ?_, ?_, h.same⟩
    · simp only [c75, s75_0, s75_1, s75_2, s75_4, s75_7, s75_10, s75_11, s75_12_o0, s75_15, s75_16, s75_17_o0, s75_20_o1, s75_23, s75_24_o2, s75_27, k_within, hvt, b2_t, e1, simprocAttr, if_true, if_false, true_and, and_true, false_and, and_false, not_false_eq_true, not_true_eq_false, gd_T, kont_i, kont_v]
    · simp only [c180, s180_0, s180_1, s180_2, s180_4, s180_7, s180_10, s180_11, s180_12_o87, s180_15, s180_18, s180_19, s180_21_o87, s180_24, m_within, hvt, b2_t, e2, simprocAttr, if_true, if_false, true_and, and_true, false_and, and_false, not_false_eq_true, not_true_eq_false, gd_T, kont_i, kont_v]
  · have hvf := eq_false hv
    refine Step_err h 1 (v := -1000001) ?_ ?_
    · simp only [c75, s75_0, s75_1, s75_2, s75_4, s75_7, s75_10, s75_11, s75_12_o0, s75_15, s75_16, s75_17_o0, s75_20_o1, s75_23, s75_24_o2, s75_27, k_within, hvf, b2_f, k_failed_1, simprocAttr, if_true, if_false, true_and, and_true, false_and, and_false, not_false_eq_true, not_true_eq_false, gd_T, kont_i, kont_v]
    · simp only [c180, s180_0, s180_1, s180_2, s180_4, s180_7, s180_10, s180_11, s180_12_o87, s180_15, s180_18, s180_19, s180_21_o87, s180_24, m_within, hvf, b2_f, m_fin_1, simprocAttr, if_true, if_false, true_and, and_true, false_and, and_false, not_false_eq_true, not_true_eq_false, gd_T, kont_i, kont_v]
theorem m_isGarden (d : Nat) (v : Int32) (σ : Hs) : callD (d + 2) 176 [.int v] σ = some (some (.int (b2 (0 ≤ v ∧ v ≤ 8))), σ) := by
  simp only [c176, s176_0, s176_1, s176_2, s176_4, s176_7, m_within, b2_B, simprocAttr, if_true, if_false, true_and, and_true, false_and, and_false, not_false_eq_true, not_true_eq_false, gd_T, kont_i, kont_v]
theorem L_garden {i : Nat} {σ : Hs} (h : RR i σ) (d : Nat) (v w : Int32) : Step d i 74 178 [.int v, .int w] σ := by
  by_cases hv : 0 ≤ v ∧ v ≤ 8
  · have hvt := eq_true hv
    by_cases hw : 0 ≤ w ∧ w ≤ 2
    · have hwt := eq_true hw
      obtain ⟨g, -, lg, rfl⟩ := within_n (a := 0) (b := 8) hv rfl rfl (by omega) (by omega)
      obtain ⟨q, -, lq, rfl⟩ := within_n (a := 0) (b := 2) hw rfl rfl (by omega) (by omega)
      have e1 := h2_gardenTells (d + 98) g q (by omega) (by omega) σ (σ 88) h.hr
      have hix : (224 : Int32) + 3 * nI g + nI q = nI (224 + 3 * g + q) := by rw [show (224 : Int32) = nI 224 from rfl, show (3 : Int32) = nI 3 from rfl, pk_mul, nI_add, nI_add]
      refine ⟨σ 88 (224 + 3 * g + q), σ, σ, ?_, ?_, h.same⟩
      · simp only [c74, s74_0, s74_1, s74_4, s74_7, s74_8, s74_9, s74_10, s74_13, s74_16, s74_17, s74_18_o0, s74_21, s74_22, s74_23_o0, s74_26_o1, s74_29, s74_30, s74_31_o2, s74_34, k_isGarden, k_within, lt_le9, hvt, hwt, b2_t, e1, simprocAttr, if_true, if_false, true_and, and_true, false_and, and_false, not_false_eq_true, not_true_eq_false, gd_T, kont_i, kont_v]
      · simp only [c178, s178_0, s178_1, s178_4, s178_7, s178_8, s178_9, s178_10, s178_13, s178_16, s178_17_o87, s178_20, s178_23, s178_24, s178_25, s178_26, s178_27, s178_28, s178_29_o88, s178_30, s178_33, s178_34, s178_36_o87, s178_39, m_isGarden, m_within, hvt, hwt, b2_t, hix, vp_nI (show 224 + 3 * g + q < 545 by omega), cl_nI (show 224 + 3 * g + q < 2147483648 by omega), simprocAttr, if_true, if_false, true_and, and_true, false_and, and_false, not_false_eq_true, not_true_eq_false, gd_T, kont_i, kont_v]
    · have hwf := eq_false hw
      refine Step_err h 1 (v := -1000001) ?_ ?_
      · simp only [c74, s74_0, s74_1, s74_4, s74_7, s74_8, s74_9, s74_10, s74_13, s74_16, s74_17, s74_18_o0, s74_21, s74_22, s74_23_o0, s74_26_o1, s74_29, s74_30, s74_31_o2, s74_34, k_isGarden, k_within, lt_le9, hvt, hwf, b2_t, b2_f, k_failed_1, simprocAttr, if_true, if_false, true_and, and_true, false_and, and_false, not_false_eq_true, not_true_eq_false, gd_T, kont_i, kont_v]
      · simp only [c178, s178_0, s178_1, s178_4, s178_7, s178_8, s178_9, s178_10, s178_13, s178_16, s178_17_o87, s178_20, s178_23, s178_24, s178_25, s178_26, s178_27, s178_28, s178_29_o88, s178_30, s178_33, s178_34, s178_36_o87, s178_39, m_isGarden, m_within, hvt, hwf, b2_t, b2_f, m_fin_1, simprocAttr, if_true, if_false, true_and, and_true, false_and, and_false, not_false_eq_true, not_true_eq_false, gd_T, kont_i, kont_v]
  · have hvf := eq_false hv
    refine Step_err h 1 (v := -1000001) ?_ ?_
    · simp only [c74, s74_0, s74_1, s74_4, s74_7, s74_8, s74_9, s74_10, s74_13, s74_16, s74_17, s74_18_o0, s74_21, s74_22, s74_23_o0, s74_26_o1, s74_29, s74_30, s74_31_o2, s74_34, k_isGarden, lt_le9, hvf, b2_f, k_failed_1, simprocAttr, if_true, if_false, true_and, and_true, false_and, and_false, not_false_eq_true, not_true_eq_false, gd_T, kont_i, kont_v]
    · simp only [c178, s178_0, s178_1, s178_4, s178_7, s178_8, s178_9, s178_10, s178_13, s178_16, s178_17_o87, s178_20, s178_23, s178_24, s178_25, s178_26, s178_27, s178_28, s178_29_o88, s178_30, s178_33, s178_34, s178_36_o87, s178_39, m_isGarden, hvf, b2_f, m_fin_1, simprocAttr, if_true, if_false, true_and, and_true, false_and, and_false, not_false_eq_true, not_true_eq_false, gd_T, kont_i, kont_v]
