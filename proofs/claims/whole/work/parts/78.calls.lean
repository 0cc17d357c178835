/-! ===== the calls: catches ===== -/
abbrev liP (T : Nat → Int32) (p : Nat) : Prop := isT T p ∧ litT T p
noncomputable def caA (n : Nat) (T : Nat → Int32) (p : Nat) : Nat → Nat → Option Nat
  | 0, _ => none
  | m + 1, k => if liP (itT k T) p then some k else caA n T p m (k + 1)
theorem k_catches_l (d n p : Nat) (hn : n < 1000) (hp : p < 30) (T : Nat → Int32) : ∀ m k σ, k + m = n + 1 → PI 59 σ (itT (k - 1) T) → LR σ T → ∃ σ', ru (d + 8) 82 36 [.ref 0, .int (nI p), .int (nI n), .int (nI k)] [] σ = (match caA n T p m k with | some w => some (some (.int (nI w)), σ') | none => some (some (.int (-1000002)), erC σ' 2)) ∧ CF σ σ' := by
  intro m
  induction m with
  | zero =>
    intro k σ hk h hL
    refine ⟨σ, ?_, CF.rf σ⟩
    have e : (nI n < nI k) = True := by rw [lt_nn (by omega) (by omega)]; exact eq_true (by omega)
    show _ = some (some (Value.int (-1000002)), erC σ 2)
    simp only [s82_36]
    simp only [s82_37, s82_38, s82_95, s82_96, s82_97_o0, s82_100, e, k_failed_2, simprocAttr, if_true, if_false, true_and, and_true, false_and, and_false, not_false_eq_true, not_true_eq_false, gd_T, kont_i, kont_v]
  | succ m ih =>
    intro k σ hk h hL
    have p31 : p < 2147483648 := by omega
    have e : (nI n < nI k) = False := by rw [lt_nn (by omega) (by omega)]; exact eq_false (by omega)
    have pass : ∃ σ1, (∀ R : Rs, ru (d + 8) 82 64 [.ref 0, .int (nI p), .int (nI n), .int (nI k)] [] σ1 = R → ru (d + 8) 82 36 [.ref 0, .int (nI p), .int (nI n), .int (nI k)] [] σ = R) ∧ PI 59 σ1 (itT k T) ∧ CF σ σ1 := by
      by_cases k0 : k = 0
      · subst k0
        obtain ⟨σ1, e1, p1, f1⟩ := h59_pass (d + 2) 0 (by omega) σ T h
        rw [n_0] at e1
        refine ⟨σ1, fun R hR => ?_, p1, f1⟩
        rw [n_0] at e
        simp only [s82_36]
        simp only [s82_37, s82_38, s82_41, s82_42_o0, s82_45, s82_46, s82_49, s82_50, s82_53, s82_54, s82_55_o0, s82_58_o1, s82_61_o59, e, n_0, e1, simprocAttr, if_true, if_false, true_and, and_true, false_and, and_false, not_false_eq_true, not_true_eq_false, gd_T, kont_i, kont_v]
        rw [n_0] at hR
        exact hR
      · obtain ⟨σ1, e1, p1, f1⟩ := h59_pass (d + 2) 1 (by omega) σ (itT (k - 1) T) h
        rw [n_1] at e1
        have ei : itT 1 (itT (k - 1) T) = itT k T := by
          have q := itT_succ (k - 1) T
          rw [show k - 1 + 1 = k by omega] at q
          exact q.symm
        rw [ei] at p1
        refine ⟨σ1, fun R hR => ?_, p1, f1⟩
        have kz : (nI k = 0) = False := eq_false (nI_ne0 (by omega) (by omega))
        simp only [s82_36]
        simp only [s82_37, s82_38, s82_41, s82_42_o0, s82_45, s82_46, s82_49, s82_50, s82_53, s82_54, s82_55_o0, s82_58_o1, s82_61_o59, e, kz, e1, simprocAttr, if_true, if_false, true_and, and_true, false_and, and_false, not_false_eq_true, not_true_eq_false, gd_T, kont_i, kont_v]
        exact hR
    obtain ⟨σ1, go, p1, f1⟩ := pass
    have ei := h59_has (d + 7) p hp σ1 _ p1.1 p1.2.2.1.P
    rw [caA]
    by_cases hi : isT (itT k T) p
    · have g6 : σ1 65 p = ofT (itT k T) p 6 := p1.1.f hp hi 6 (by omega) (by omega)
      by_cases hl : litT (itT k T) p
      · rw [if_pos ⟨hi, hl⟩]
        refine ⟨σ1, go _ ?_, f1⟩
        have hl' : ofT (itT k T) p 6 = 1 := hl
        simp only [s82_64, s82_65_o0, s82_68, s82_69_o59, s82_72, s82_75, s82_76_o0, s82_79_o59, s82_82, s82_83_o65, s82_84, s82_87, s82_88, s82_89, s82_92, ei, b2_T hi, vp_nI hp, cl_nI p31, g6, hl', simprocAttr, if_true, if_false, true_and, and_true, false_and, and_false, not_false_eq_true, not_true_eq_false, gd_T, kont_i, kont_v]
      · rw [if_neg (fun x => hl x.2)]
        obtain ⟨σ2, e2, c2⟩ := ih (k + 1) σ1 (by omega) (by rw [show k + 1 - 1 = k by omega]; exact p1) (hL.fr (fun o o1 o2 => f1 o (by omega) (by omega)) (fun _ _ => rfl))
        refine ⟨σ2, go _ ?_, f1.tr c2⟩
        have hl' : ofT (itT k T) p 6 = 0 := (p1.2.2.1.B p hp hi).resolve_right hl
        rw [← e2]
        generalize hR : ru (d + 8) 82 36 [.ref 0, .int (nI p), .int (nI n), .int (nI (k + 1))] [] σ1 = R
        simp only [s82_64, s82_65_o0, s82_68, s82_69_o59, s82_72, s82_75, s82_76_o0, s82_79_o59, s82_82, s82_83_o65, s82_84, s82_87, s82_88, s82_89, s82_92, ei, b2_T hi, vp_nI hp, cl_nI p31, g6, hl', nI_1, simprocAttr, if_true, if_false, true_and, and_true, false_and, and_false, not_false_eq_true, not_true_eq_false, gd_T, kont_i, kont_v]
        exact hR
    · rw [if_neg (fun x => hi x.1)]
      obtain ⟨σ2, e2, c2⟩ := ih (k + 1) σ1 (by omega) (by rw [show k + 1 - 1 = k by omega]; exact p1) (hL.fr (fun o o1 o2 => f1 o (by omega) (by omega)) (fun _ _ => rfl))
      refine ⟨σ2, go _ ?_, f1.tr c2⟩
      rw [← e2]
      generalize hR : ru (d + 8) 82 36 [.ref 0, .int (nI p), .int (nI n), .int (nI (k + 1))] [] σ1 = R
      simp only [s82_64, s82_65_o0, s82_68, s82_69_o59, s82_72, s82_75, s82_76_o0, s82_79_o59, s82_82, s82_83_o65, s82_84, s82_87, s82_88, s82_89, s82_92, ei, b2_F hi, nI_1, simprocAttr, if_true, if_false, true_and, and_true, false_and, and_false, not_false_eq_true, not_true_eq_false, gd_T, kont_i, kont_v]
      exact hR
theorem m_catches_l (d n p : Nat) (hn : n < 1000) (hp : p < 30) (T : Nat → Int32) (hM : MOK T) : ∀ m k σ, k + (m + 1) = n + 1 → σ 88 = itT k T → Hot σ → WB σ → ∃ k' σ', ru (d + 8) 188 34 [.ref 87, .int (nI p), .int (nI n), .int (nI k), uu] [] σ = ru (d + 8) 188 65 [.ref 87, .int (nI p), .int (nI n), .int (nI k'), uu] [] σ' ∧ FN σ σ' (itT k' T) ∧ WB σ' ∧ caA n T p (m + 1) k = if liP (itT k' T) p then some k' else none := by
  intro m
  induction m with
  | zero =>
    intro k σ hk h hH hB
    obtain rfl : k = n := by omega
    refine ⟨k, σ, ?_, by rw [← h]; exact FN.rf σ, hB, rfl⟩
    simp only [s188_34]
    simp only [s188_35, s188_36, Int32.le_refl, simprocAttr, if_true, if_false, true_and, and_true, false_and, and_false, not_false_eq_true, not_true_eq_false, gd_T, kont_i, kont_v]
  | succ m ih =>
    intro k σ hk h hH hB
    have e : (nI n ≤ nI k) = False := by rw [le_nn (by omega) (by omega)]; exact eq_false (by omega)
    rw [caA]
    by_cases hi : isT (itT k T) p
    · by_cases hl : litT (itT k T) p
      · rw [if_pos ⟨hi, hl⟩]
        refine ⟨k, σ, ?_, by rw [← h]; exact FN.rf σ, hB, by rw [if_pos ⟨hi, hl⟩]⟩
        simp only [s188_34]
        simp only [s188_35, s188_36, s188_39, s188_40, s188_41_o87, s188_44, s188_47, s188_48, s188_49_o87, s188_52, s188_55, s188_56_o87, s188_59, s188_62, e, m_is _ _ hp, m_isLit _ _ hp, h, b2_T hi, b2_T hl, simprocAttr, if_true, if_false, true_and, and_true, false_and, and_false, not_false_eq_true, not_true_eq_false, gd_T, kont_i, kont_v]
      · rw [if_neg (fun x => hl x.2)]
        obtain ⟨σ1, e1, f1⟩ := m_minute d σ (by rw [h]; exact MOK_it k T hM) hH
        rw [h] at f1
        have ei : minT (itT k T) = itT (k + 1) T := (itT_succ k T).symm
        rw [ei] at f1
        obtain ⟨k', σ2, e2, f2, w2, r2⟩ := ih (k + 1) σ1 (by omega) f1.1 (hH.fm f1) (callD_WB _ _ _ _ _ _ hB e1)
        refine ⟨k', σ2, ?_, f1.fn.tr f2, w2, r2⟩
        rw [← e2]
        generalize hR : ru (d + 8) 188 34 [.ref 87, .int (nI p), .int (nI n), .int (nI (k + 1)), uu] [] σ1 = R
        simp only [s188_34]
        simp only [s188_35, s188_36, s188_39, s188_40, s188_41_o87, s188_44, s188_47, s188_48, s188_49_o87, s188_52, s188_55, s188_56_o87, s188_59, s188_62, e, m_is _ _ hp, m_isLit _ _ hp, h, b2_T hi, b2_F hl, e1, nI_1, simprocAttr, if_true, if_false, true_and, and_true, false_and, and_false, not_false_eq_true, not_true_eq_false, gd_T, kont_i, kont_v]
        exact hR
    · rw [if_neg (fun x => hi x.1)]
      obtain ⟨σ1, e1, f1⟩ := m_minute d σ (by rw [h]; exact MOK_it k T hM) hH
      rw [h] at f1
      have ei : minT (itT k T) = itT (k + 1) T := (itT_succ k T).symm
      rw [ei] at f1
      obtain ⟨k', σ2, e2, f2, w2, r2⟩ := ih (k + 1) σ1 (by omega) f1.1 (hH.fm f1) (callD_WB _ _ _ _ _ _ hB e1)
      refine ⟨k', σ2, ?_, f1.fn.tr f2, w2, r2⟩
      rw [← e2]
      generalize hR : ru (d + 8) 188 34 [.ref 87, .int (nI p), .int (nI n), .int (nI (k + 1)), uu] [] σ1 = R
      simp only [s188_34]
      simp only [s188_35, s188_36, s188_39, s188_40, s188_41_o87, s188_44, s188_47, s188_48, s188_49_o87, s188_52, s188_55, s188_56_o87, s188_59, s188_62, e, m_is _ _ hp, h, b2_F hi, e1, nI_1, simprocAttr, if_true, if_false, true_and, and_true, false_and, and_false, not_false_eq_true, not_true_eq_false, gd_T, kont_i, kont_v]
      exact hR
theorem m_catches (d n p : Nat) (hn : n < 61) (hp : p < 30) (τ : Hs) (T : Nat → Int32) (hM : MOK T) (h : τ 88 = T) (hH : Hot τ) (hB : WB τ) : ∃ σ', callD (d + 100) 188 [.ref 87, .int (nI p), .int (nI n)] τ = (match caA n T p (n + 1) 0 with | some w => some (some (.int (nI w)), σ') | none => some (some (.int (-1000002)), erM σ' 2)) ∧ MF τ σ' ∧ σ' 88 = T := by
  have hvt : (0 ≤ nI p ∧ nI p ≤ 29) = True := eq_true (plc_t hp)
  have hwt : (0 ≤ nI n ∧ nI n ≤ 60) = True := eq_true ⟨nI_pos' (by omega), nI_le (b := 60) (by omega) (by omega)⟩
  have ea := m_aside (d + 98) τ hB
  have W3 := callD_WB _ _ _ _ _ _ hB ea
  obtain ⟨k', σ1, e1, f1, w1, r1⟩ := m_catches_l (d + 91) n p (by omega) hp T hM n 0 (rep τ 90 (τ 88)) (by omega) ((rep_ne (by omega)).trans h) (hH.of (rep_ne (by omega)) (rep_ne (by omega))) W3
  have q90 : σ1 90 = T := by rw [f1.2.2 90 (by omega) (by omega) (by omega) (by omega), rep_self]; exact h
  have eb := m_unside (d + 98) σ1 T q90 w1
  refine ⟨rep σ1 88 T, ?_, ((MF.g90 _).tr f1.mf).tr (MF.g _), rep_self _ _ _⟩
  have s0 : callD (d + 100) 188 [.ref 87, .int (nI p), .int (nI n)] τ = ru (d + 99) 188 65 [.ref 87, .int (nI p), .int (nI n), .int (nI k'), uu] [] σ1 := by
    rw [← e1]
    simp only [c188, s188_0, s188_1, s188_4, s188_7, s188_8, s188_11, s188_14, s188_15, s188_17_o87, s188_20, s188_21, s188_22_o87, s188_25, s188_26_o87, s188_29, s188_32, s188_33, m_isPlace, m_isAhead, hvt, hwt, b2_t, ea, simprocAttr, if_true, if_false, true_and, and_true, false_and, and_false, not_false_eq_true, not_true_eq_false, gd_T, kont_i, kont_v]
    rfl
  rw [s0, r1]
  have g := f1.1
  by_cases hi : isT (itT k' T) p
  · by_cases hl : litT (itT k' T) p
    · rw [if_pos ⟨hi, hl⟩]
      simp only [s188_65, s188_66, s188_67_o87, s188_70, s188_73, s188_74, s188_75_o87, s188_78, s188_81, s188_82, s188_85, s188_86, s188_88, s188_89_o87, s188_92, s188_93_o87, s188_96, s188_99, s188_101, s188_104, s188_105, s188_108, s188_109, s188_111_o87, s188_114, m_is _ _ hp, m_isLit _ _ hp, g, b2_T hi, b2_T hl, eb, simprocAttr, if_true, if_false, true_and, and_true, false_and, and_false, not_false_eq_true, not_true_eq_false, gd_T, kont_i, kont_v]
    · rw [if_neg (fun x => hl x.2)]
      simp only [s188_65, s188_66, s188_67_o87, s188_70, s188_73, s188_74, s188_75_o87, s188_78, s188_81, s188_82, s188_85, s188_86, s188_88, s188_89_o87, s188_92, s188_93_o87, s188_96, s188_99, s188_101, s188_104, s188_105, s188_108, s188_109, s188_111_o87, s188_114, m_is _ _ hp, m_isLit _ _ hp, g, b2_T hi, b2_F hl, eb, m_fin_2, simprocAttr, if_true, if_false, true_and, and_true, false_and, and_false, not_false_eq_true, not_true_eq_false, gd_T, kont_i, kont_v]
  · rw [if_neg (fun x => hi x.1)]
    simp only [s188_65, s188_66, s188_67_o87, s188_70, s188_73, s188_74, s188_75_o87, s188_78, s188_81, s188_82, s188_85, s188_86, s188_88, s188_89_o87, s188_92, s188_93_o87, s188_96, s188_99, s188_101, s188_104, s188_105, s188_108, s188_109, s188_111_o87, s188_114, m_is _ _ hp, g, b2_F hi, eb, m_fin_2, simprocAttr, if_true, if_false, true_and, and_true, false_and, and_false, not_false_eq_true, not_true_eq_false, gd_T, kont_i, kont_v]
theorem L_catches {i : Nat} {σ : Hs} (h : RR i σ) (d : Nat) (v w : Int32) : Step d i 82 188 [.int v, .int w] σ := by
  by_cases hv : 0 ≤ v ∧ v ≤ 29
  · have hvt := eq_true hv
    by_cases hw : 0 ≤ w ∧ w ≤ 60
    · have hwt := eq_true hw
      obtain ⟨p, hp, rfl⟩ := plc_n hv
      obtain ⟨n, ln, rfl⟩ := ahd_n hw
      obtain ⟨σ0, e0, p0, f0⟩ := k_ahead (d + 98) σ (σ 88) h.hr h.lr h.mi h.wb
      obtain ⟨σ1, e1, cf0⟩ := k_catches_l (d + 91) n p (by omega) hp (σ 88) (n + 1) 0 σ0 (by omega) p0 p0.2.1
      have cf : CF σ σ1 := fun o o1 o2 => (cf0 o o1 o2).trans (f0 o o1)
      have c1 : callD (d + 100) 82 [.ref 0, .int (nI p), .int (nI n)] σ = (match caA n (σ 88) p (n + 1) 0 with | some w => some (some (.int (nI w)), σ1) | none => some (some (.int (-1000002)), erC σ1 2)) := by
        rw [← e1]
        simp only [c82, s82_0, s82_1, s82_4, s82_7, s82_8, s82_11, s82_14, s82_15, s82_16_o0, s82_19, s82_20, s82_21_o0, s82_24, s82_25_o0, s82_28_o1, s82_31_o59, s82_34, s82_35, k_isPlace, k_isAhead, lt_le30, hvt, hwt, b2_t, e0, simprocAttr, if_true, if_false, true_and, and_true, false_and, and_false, not_false_eq_true, not_true_eq_false, gd_T, kont_i, kont_v]
        rfl
      cases ho : caA n (σ 88) p (n + 1) 0 with
      | some q =>
        rw [ho] at c1
        have c1 : callD (d + 100) 82 [.ref 0, .int (nI p), .int (nI n)] σ = some (some (.int (nI q)), σ1) := c1
        obtain ⟨σ2, e2, m2, g2⟩ := m_catches d n p ln hp σ1 (σ 88) h.mok (cf 88 (by omega) (by omega)) (h.hot.of (cf 92 (by omega) (by omega)) (cf 93 (by omega) (by omega))) (callD_WB _ _ _ _ _ _ h.wb c1)
        rw [ho] at e2
        have c2 : callD (d + 100) 188 [.ref 87, .int (nI p), .int (nI n)] σ1 = some (some (.int (nI q)), σ2) := e2
        exact ⟨_, _, _, c1, c2, h.am (h.wb.two c1 c2) g2 cf m2⟩
      | none =>
        rw [ho] at c1
        have c1 : callD (d + 100) 82 [.ref 0, .int (nI p), .int (nI n)] σ = some (some (.int (-1000002)), erC σ1 2) := c1
        obtain ⟨σ2, e2, m2, g2⟩ := m_catches d n p ln hp (erC σ1 2) (σ 88) h.mok ((show erC σ1 2 88 = σ1 88 from rep_ne (by omega)).trans (cf 88 (by omega) (by omega))) (h.hot.of ((show erC σ1 2 92 = σ1 92 from rep_ne (by omega)).trans (cf 92 (by omega) (by omega))) ((show erC σ1 2 93 = σ1 93 from rep_ne (by omega)).trans (cf 93 (by omega) (by omega)))) (callD_WB _ _ _ _ _ _ h.wb c1)
        rw [ho] at e2
        have c2 : callD (d + 100) 188 [.ref 87, .int (nI p), .int (nI n)] (erC σ1 2) = some (some (.int (-1000002)), erM σ2 2) := e2
        exact ⟨_, _, _, c1, c2, h.ame (h.wb.two c1 c2) g2 cf m2⟩
    · have hwf := eq_false hw
      refine Step_err h 1 (v := -1000001) ?_ ?_
      · simp only [c82, s82_0, s82_1, s82_4, s82_7, s82_8, s82_11, s82_14, s82_15, s82_16_o0, s82_19, s82_20, s82_21_o0, s82_24, s82_25_o0, s82_28_o1, s82_31_o59, s82_34, s82_35, k_isPlace, k_isAhead, lt_le30, hvt, hwf, b2_t, b2_f, k_failed_1, simprocAttr, if_true, if_false, true_and, and_true, false_and, and_false, not_false_eq_true, not_true_eq_false, gd_T, kont_i, kont_v]
      · simp only [c188, s188_0, s188_1, s188_4, s188_7, s188_8, s188_11, s188_14, s188_15, s188_17_o87, s188_20, s188_21, s188_22_o87, s188_25, s188_26_o87, s188_29, s188_32, s188_33, m_isPlace, m_isAhead, hvt, hwf, b2_t, b2_f, m_fin_1, simprocAttr, if_true, if_false, true_and, and_true, false_and, and_false, not_false_eq_true, not_true_eq_false, gd_T, kont_i, kont_v]
  · have hvf := eq_false hv
    refine Step_err h 1 (v := -1000001) ?_ ?_
    · simp only [c82, s82_0, s82_1, s82_4, s82_7, s82_8, s82_11, s82_14, s82_15, s82_16_o0, s82_19, s82_20, s82_21_o0, s82_24, s82_25_o0, s82_28_o1, s82_31_o59, s82_34, s82_35, k_isPlace, lt_le30, hvf, b2_f, k_failed_1, simprocAttr, if_true, if_false, true_and, and_true, false_and, and_false, not_false_eq_true, not_true_eq_false, gd_T, kont_i, kont_v]
    · simp only [c188, s188_0, s188_1, s188_4, s188_7, s188_8, s188_11, s188_14, s188_15, s188_17_o87, s188_20, s188_21, s188_22_o87, s188_25, s188_26_o87, s188_29, s188_32, s188_33, m_isPlace, hvf, b2_f, m_fin_1, simprocAttr, if_true, if_false, true_and, and_true, false_and, and_false, not_false_eq_true, not_true_eq_false, gd_T, kont_i, kont_v]
