/-! ===== the calls: gusts, then, gardenThen ===== -/
theorem k_gusts_l (d n : Nat) (hn : n < 2147483648) (wind : Int32) : ∀ m k σ (X Y : Nat → Int32), k + m = n → HR 2 σ X → upd X 5 wind = Y → Y 5 = wind → σ 1 6 = Y 3 → LR σ Y → MI Y → ∃ σ' X', ru (d + 7) 71 55 [.ref 0, .int (nI n), .int wind, .int (nI k)] [] σ = ru (d + 7) 71 106 [.ref 0, .int (nI n), .int wind, .int (nI n)] [] σ' ∧ HR 2 σ' X' ∧ upd X' 5 wind = guI m Y ∧ σ' 1 6 = guI m Y 3 ∧ ∀ o, (o = 0 ∨ 12 < o) → o ≠ 15 → σ' o = σ o := by
  intro m
  induction m with
  | zero =>
    intro k σ X Y hk h hX h5 h3 hL hM
    obtain rfl : k = n := by omega
    refine ⟨σ, X, ?_, h, hX, h3, fun _ _ _ => rfl⟩
    simp only [s71_55]
    simp only [s71_56, s71_57, Int32.le_refl, simprocAttr, if_true, if_false, true_and, and_true, false_and, and_false, not_false_eq_true, not_true_eq_false, gd_T, kont_i, kont_v]
  | succ m ih =>
    intro k σ X Y hk h hX h5 h3 hL hM
    have k31 : k < 2147483648 := by omega
    have r1 : HR 2 (rep (rep σ 1 (upd (σ 1) 6 (drI (Y 3)))) 9 (upd (σ 9) 1 (gvI (Y 3)))) (guX Y) := by
      have q : HR 2 (rep σ 1 (upd (σ 1) 6 (drI (Y 3)))) (upd X 3 (drI (Y 3))) := (h.fr (fun o o1 o2 => rep_ne (by omega))).cg (fun a ha => by rw [upd_at, if_neg (by omega)])
      have q2 := q.st (k := 1) (by omega) (gvI (Y 3))
      rw [rep_ne (show 2 + 7 ≠ 1 by omega)] at q2
      have e : upd (upd X 3 (drI (Y 3))) (4 + 1) (gvI (Y 3)) = guX Y := by
        unfold guX
        funext a
        simp only [upd_at]
        by_cases c : a = 5
        · rw [if_pos (by omega), if_pos c]
        · rw [if_neg (by omega), if_neg c]
          by_cases c3 : a = 3
          · rw [if_pos c3, if_pos c3]
          · rw [if_neg c3, if_neg c3, ← hX, upd_at, if_neg c]
      rw [e] at q2
      exact q2
    have L1 : LR (rep (rep σ 1 (upd (σ 1) 6 (drI (Y 3)))) 9 (upd (σ 9) 1 (gvI (Y 3)))) (guX Y) := hL.fr (fun o o1 o2 => (rep_ne (by omega)).trans (rep_ne (by omega))) (fun j hj => by unfold guX; rw [upd_at, if_neg (by omega), upd_at, if_neg (by omega)])
    obtain ⟨σ1, e1, ⟨r2, L2, M2⟩, f1⟩ := h2_pass (d + 1) 1 (by omega) _ (guX Y) ⟨r1, L1, guX_MI hM⟩
    have e1' : itT 1 (guX Y) = minT (guX Y) := rfl
    rw [e1'] at r2 L2 M2
    rw [n_1] at e1
    have s6 : σ1 1 6 = guT Y 3 := by
      rw [f1 1 (by omega) (by omega), rep_ne (by omega), rep_self, upd_at, if_pos rfl, guT_3 hM]
    have hL' : LR σ1 (guT Y) := L2.fr (fun o o1 o2 => rfl) (fun j hj => by unfold guT; rw [upd_at, if_neg (by omega)])
    have hX' : upd (minT (guX Y)) 5 wind = guT Y := by unfold guT; rw [h5]
    obtain ⟨σ2, X2, e2, r3, x3, s3, f2⟩ := ih (k + 1) σ1 (minT (guX Y)) (guT Y) (by omega) r2 hX' (guT_5.trans h5) s6 hL' (guT_MI hM)
    refine ⟨σ2, X2, ?_, r3, x3, s3, fun o o1 o2 => ?_⟩
    · rw [← e2]
      have hd := k_draw (d + 6) σ (Y 3) h3
      generalize hR : ru (d + 7) 71 55 [.ref 0, .int (nI n), .int wind, .int (nI (k + 1))] [] σ1 = R
      simp only [s71_55]
      simp only [s71_56, s71_57, s71_60, s71_61_o0, s71_64_o1, s71_67_o2, s71_70, s71_71, s71_72_o0, s71_75_o1, s71_78, s71_80, s71_81_o9, s71_82, s71_83_o0, s71_86_o1, s71_89, s71_90, s71_91_o0, s71_94_o1, s71_97_o2, s71_100, s71_103, le_nn hn k31, hd, z100, vp_lit, up2_rep, not_false_eq_true, simprocAttr, if_true, if_false, true_and, and_true, false_and, and_false, not_false_eq_true, not_true_eq_false, gd_T, kont_i, kont_v]
      rw [if_neg (by omega)]
      have hg : w8I (drI (Y 3)) - w8I (drI (Y 3)) / 100 * 100 = gvI (Y 3) := rfl
      rw [hg, rep_ne (show 9 ≠ 1 by omega), e1]
      simp only [s71_100, s71_103, kont_v, nI_1]
      exact hR
    · rw [f2 o o1 o2, f1 o (by omega) o2, rep_ne (by omega), rep_ne (by omega)]
theorem m_gusts_l (d n : Nat) (hn : n < 2147483648) : ∀ m k (l4 : Value) σ, k + m = n → MI (σ 88) → Hot σ → ∃ σ' l4', ru (d + 9) 174 18 [.ref 87, .int (nI n), .int 0, .int (nI k), l4] [] σ = ru (d + 9) 174 54 [.ref 87, .int (nI n), .int 0, .int (nI n), l4'] [] σ' ∧ FN σ σ' (guI m (σ 88)) := by
  intro m
  induction m with
  | zero =>
    intro k l4 σ hk hM hH
    obtain rfl : k = n := by omega
    refine ⟨σ, l4, ?_, FN.rf σ⟩
    simp only [s174_18]
    simp only [s174_19, s174_20, Int32.le_refl, simprocAttr, if_true, if_false, true_and, and_true, false_and, and_false, not_false_eq_true, not_true_eq_false, gd_T, kont_i, kont_v]
  | succ m ih =>
    intro k l4 σ hk hM hH
    have k31 : k < 2147483648 := by omega
    obtain ⟨Y, hY⟩ : ∃ Y, Y = σ 88 := ⟨_, rfl⟩
    rw [← hY] at hM ⊢
    have hd := m_drawn (d + 8) σ
    rw [← hY] at hd
    have hc := m_comes (d + 8) 5 (by omega) (gvI (Y 3)) (rep σ 88 (upd Y 3 (drI (Y 3))))
    rw [rep_self, rep_rep, upd_at, if_neg (by omega), n_5] at hc
    obtain ⟨σ1, e1, f1⟩ := m_minute (d + 1) (rep σ 88 (guX Y)) (by rw [rep_self]; exact (guX_MI hM).2.1) (by
      refine ⟨fun k hk => ?_, fun k hk => ?_⟩
      · rw [rep_ne (by omega)]; exact hH.1 k hk
      · rw [rep_ne (by omega)]; exact hH.2 k hk)
    rw [rep_self] at f1
    have g88 : σ1 88 = minT (guX Y) := f1.1
    have fn1 : FN σ (rep σ1 88 (guT Y)) (guT Y) := by
      refine FN.rg (T := minT (guX Y)) ?_ (guT Y)
      refine ⟨g88, fun k hk => ?_, fun o o1 o2 o3 o4 => ?_⟩
      · rw [f1.2.2.1 k hk, rep_ne (by omega)]
      · rw [f1.2.2.2 o o1 o2 o3 o4, rep_ne o2]
    obtain ⟨σ2, l4', e2, f2⟩ := ih (k + 1) (.int (Y 5)) (rep σ1 88 (guT Y)) (by omega) (by rw [rep_self]; exact guT_MI hM) (hH.fn fn1)
    rw [rep_self] at f2
    refine ⟨σ2, l4', ?_, fn1.tr f2⟩
    rw [← e2]
    generalize hR : ru (d + 9) 174 18 [.ref 87, .int (nI n), .int 0, .int (nI (k + 1)), .int (Y 5)] [] _ = R
    simp only [s174_18]
    simp only [s174_19, s174_20, s174_23, s174_24, s174_25, s174_26, s174_28_o87, s174_31_o87, s174_34, s174_36, s174_37_o87, s174_40, s174_41_o87, s174_44, s174_45, s174_47_o88, s174_48, s174_51, le_nn hn k31, hd, hc, show upd (upd Y 3 (drI (Y 3))) 5 (gvI (Y 3)) = guX Y from rfl, e1, g88, vp_lit, up2_rep, nI_1, simprocAttr, if_true, if_false, true_and, and_true, false_and, and_false, not_false_eq_true, not_true_eq_false, gd_T, kont_i, kont_v]
    rw [if_neg (by omega)]
    exact hR
theorem guI_inv {B : Nat} (hB : B ≤ 1999999999) : ∀ n (Y : Nat → Int32), MI Y → PH B Y → MI (guI n Y) ∧ PH B (guI n Y) ∧ QdT Y (guI n Y)
  | 0, _, h, p => ⟨h, p, fun _ _ => rfl⟩
  | n + 1, Y, h, p => by
    obtain ⟨a, b, c⟩ := guI_inv hB n (guT Y) (guT_MI h) (guT_PH hB h p)
    exact ⟨a, b, (guT_qd h).tr c⟩
theorem L_gusts {i : Nat} (hi : i ≤ 512) {σ : Hs} (h : RR i σ) (d : Nat) (v : Int32) : Step d i 71 174 [.int v] σ := by
  by_cases hv : 1 ≤ v ∧ v ≤ 200
  · have hvt := eq_true hv
    have g0 : σ 2 13 = σ 88 0 := h.hr.2.2.2.2.2.2.2
    by_cases q : σ 88 0 + v ≤ 99999
    · have qt := eq_true q
      obtain ⟨n, n1, n2, rfl⟩ := within_n (a := 1) (b := 200) hv rfl rfl (by omega) (by omega)
      have g1 : σ 9 1 = σ 88 5 := h.hr.2.2.1 1 (by omega)
      obtain ⟨σ1, X1, e1, r1, x1, s1, f1⟩ := k_gusts_l (d + 92) n (by omega) (σ 88 5) n 0 σ (σ 88) (σ 88) (by omega) h.hr (by funext a; rw [upd_at]; by_cases c : a = 5; rw [if_pos c, c]; rw [if_neg c]) rfl h.sr.2.2.2.2.2 h.lr h.mi
      obtain ⟨M1, P1, Q1⟩ := guI_inv (B := 306000 * (i + 1)) (by omega) n (σ 88) h.mi (h.ph.mono (by omega))
      have r2 := r1.st (k := 1) (by omega) (σ 88 5)
      rw [x1] at r2
      have g13 : σ1 2 13 = guI n (σ 88) 0 := by rw [← x1, upd_at, if_neg (by omega)]; exact r1.2.2.2.2.2.2.2
      have c1 : callD (d + 100) 71 [.ref 0, .int (nI n)] σ = some (some (.int (guI n (σ 88) 0)), rep σ1 9 (upd (σ1 9) 1 (σ 88 5))) := by
        rw [n_0] at e1
        simp only [c71, s71_0, s71_1, s71_2, s71_5, s71_8, s71_11, s71_12, s71_13_o0, s71_16, s71_17, s71_18_o0, s71_21_o1, s71_24_o2, s71_27, s71_28, s71_29, s71_31, s71_34, s71_35, s71_36_o0, s71_39, s71_40, s71_41_o0, s71_44_o1, s71_47_o2, s71_50, s71_51_o9, s71_52, s71_53, s71_54, k_within, hvt, b2_t, g0, qt, vp_lit, g1, simprocAttr, if_true, if_false, true_and, and_true, false_and, and_false, not_false_eq_true, not_true_eq_false, gd_T, kont_i, kont_v]
        rw [e1]
        simp only [s71_106, s71_107_o0, s71_110_o1, s71_113_o2, s71_116, s71_117, s71_118_o9, s71_119, s71_120_o0, s71_123_o1, s71_126_o2, s71_129, vp_lit, up2_rep, rep_at, g13, simprocAttr, if_true, if_false, true_and, and_true, false_and, and_false, not_false_eq_true, not_true_eq_false, gd_T, kont_i, kont_v]
      have f88 : rep σ1 9 (upd (σ1 9) 1 (σ 88 5)) 88 = σ 88 := (rep_ne (by omega)).trans (f1 88 (by omega) (by omega))
      have hHot : Hot (rep σ1 9 (upd (σ1 9) 1 (σ 88 5))) := ⟨fun k hk => by rw [rep_ne (by omega), f1 92 (by omega) (by omega)]; exact h.hot.1 k hk, fun k hk => by rw [rep_ne (by omega), f1 93 (by omega) (by omega)]; exact h.hot.2 k hk⟩
      obtain ⟨σ2, l4', e2, f2⟩ := m_gusts_l (d + 90) n (by omega) n 0 uu (rep σ1 9 (upd (σ1 9) 1 (σ 88 5))) (by omega) (by rw [f88]; exact h.mi) hHot
      rw [f88] at f2
      have hw := m_whyNot (d + 97) (nI n) (rep σ1 9 (upd (σ1 9) 1 (σ 88 5)))
      rw [f88, if_neg (fun x => x hv), if_pos q] at hw
      have c2 : callD (d + 100) 174 [.ref 87, .int (nI n)] (rep σ1 9 (upd (σ1 9) 1 (σ 88 5))) = some (some (.int (guI n (σ 88) 0)), σ2) := by
        rw [n_0] at e2
        simp only [c174, s174_0, s174_1, s174_2_o87, s174_5, s174_6, s174_7, s174_10, s174_11, s174_12_o87, s174_15, s174_16, s174_17, hw, simprocAttr, if_true, if_false, true_and, and_true, false_and, and_false, not_false_eq_true, not_true_eq_false, gd_T, kont_i, kont_v]
        rw [e2]
        simp only [s174_54, s174_55_o87, s174_58, s174_59_o88, s174_60, vp_lit, f2.1, simprocAttr, if_true, if_false, true_and, and_true, false_and, and_false, not_false_eq_true, not_true_eq_false, gd_T, kont_i, kont_v]
      obtain ⟨g2, g3, g4⟩ := f2
      refine ⟨_, _, _, c1, c2, h.qd g2 ?_ M1 Q1 ?_ P1 (h.wb.two c1 c2) ?_ ?_ ?_⟩
      · exact r2.fr (fun o o1 o2 => g4 o (by omega) (by omega) (by omega) (by omega))
      · rw [g4 1 (by omega) (by omega) (by omega) (by omega), rep_ne (by omega)]; exact s1
      · intro o ho
        unfold kpO at ho
        rw [g4 o (by omega) (by omega) (by omega) (by omega), rep_ne (by omega), f1 o (by omega) (by omega)]
      · rw [g3 3 (by omega), rep_ne (by omega), f1 87 (by omega) (by omega)]
      · rw [g3 19 (by omega), rep_ne (by omega), f1 87 (by omega) (by omega)]
    · have qf := eq_false q
      refine Step_err h 3 (v := -1000003) ?_ ?_
      · simp only [c71, s71_0, s71_1, s71_2, s71_5, s71_8, s71_11, s71_12, s71_13_o0, s71_16, s71_17, s71_18_o0, s71_21_o1, s71_24_o2, s71_27, s71_28, s71_29, s71_31, s71_34, s71_35, s71_36_o0, s71_39, s71_40, s71_41_o0, s71_44_o1, s71_47_o2, s71_50, s71_51_o9, s71_52, s71_53, s71_54, s71_56, s71_57, s71_60, s71_61_o0, s71_64_o1, s71_67_o2, s71_70, s71_71, s71_72_o0, s71_75_o1, s71_78, s71_80, s71_81_o9, s71_82, s71_83_o0, s71_86_o1, s71_89, s71_90, s71_91_o0, s71_94_o1, s71_97_o2, s71_100, s71_103, s71_106, s71_107_o0, s71_110_o1, s71_113_o2, s71_116, s71_117, s71_118_o9, s71_119, s71_120_o0, s71_123_o1, s71_126_o2, s71_129, k_within, hvt, b2_t, g0, qf, k_failed_3, simprocAttr, if_true, if_false, true_and, and_true, false_and, and_false, not_false_eq_true, not_true_eq_false, gd_T, kont_i, kont_v]
      · have hw := m_whyNot (d + 97) v (erC σ 3)
        rw [show erC σ 3 88 = σ 88 from rep_ne (by omega), if_neg (fun x => x hv), if_neg q] at hw
        simp only [c174, s174_0, s174_1, s174_2_o87, s174_5, s174_6, s174_7, s174_10, s174_11, s174_12_o87, s174_15, s174_16, s174_17, s174_19, s174_20, s174_23, s174_24, s174_25, s174_26, s174_28_o87, s174_31_o87, s174_34, s174_36, s174_37_o87, s174_40, s174_41_o87, s174_44, s174_45, s174_47_o88, s174_48, s174_51, s174_54, s174_55_o87, s174_58, s174_59_o88, s174_60, hw, m_fin_3, simprocAttr, if_true, if_false, true_and, and_true, false_and, and_false, not_false_eq_true, not_true_eq_false, gd_T, kont_i, kont_v]
  · have hvf := eq_false hv
    refine Step_err h 1 (v := -1000001) ?_ ?_
    · simp only [c71, s71_0, s71_1, s71_2, s71_5, s71_8, s71_11, s71_12, s71_13_o0, s71_16, s71_17, s71_18_o0, s71_21_o1, s71_24_o2, s71_27, s71_28, s71_29, s71_31, s71_34, s71_35, s71_36_o0, s71_39, s71_40, s71_41_o0, s71_44_o1, s71_47_o2, s71_50, s71_51_o9, s71_52, s71_53, s71_54, s71_56, s71_57, s71_60, s71_61_o0, s71_64_o1, s71_67_o2, s71_70, s71_71, s71_72_o0, s71_75_o1, s71_78, s71_80, s71_81_o9, s71_82, s71_83_o0, s71_86_o1, s71_89, s71_90, s71_91_o0, s71_94_o1, s71_97_o2, s71_100, s71_103, s71_106, s71_107_o0, s71_110_o1, s71_113_o2, s71_116, s71_117, s71_118_o9, s71_119, s71_120_o0, s71_123_o1, s71_126_o2, s71_129, k_within, hvf, b2_f, k_failed_1, simprocAttr, if_true, if_false, true_and, and_true, false_and, and_false, not_false_eq_true, not_true_eq_false, gd_T, kont_i, kont_v]
    · have hw := m_whyNot (d + 97) v (erC σ 1)
      rw [if_pos hv] at hw
      simp only [c174, s174_0, s174_1, s174_2_o87, s174_5, s174_6, s174_7, s174_10, s174_11, s174_12_o87, s174_15, s174_16, s174_17, s174_19, s174_20, s174_23, s174_24, s174_25, s174_26, s174_28_o87, s174_31_o87, s174_34, s174_36, s174_37_o87, s174_40, s174_41_o87, s174_44, s174_45, s174_47_o88, s174_48, s174_51, s174_54, s174_55_o87, s174_58, s174_59_o88, s174_60, hw, m_fin_1, simprocAttr, if_true, if_false, true_and, and_true, false_and, and_false, not_false_eq_true, not_true_eq_false, gd_T, kont_i, kont_v]
