/-! ===== the calls: spot ===== -/
noncomputable def spB (n : Nat) (T : Nat → Int32) (p : Nat) : Nat := (itT n (liT T p) 11).toNatClampNeg
noncomputable def spF (n : Nat) (T : Nat → Int32) : Nat → Option (Nat × Nat)
  | 0 => none
  | p + 1 => if isT T p then (match spF n T p with | none => some (p, spB n T p) | some (q, m) => if m < spB n T p then some (p, spB n T p) else some (q, m)) else spF n T p
theorem MI.li {T : Nat → Int32} (h : MI T) {p : Nat} (hp : p < 30) (hi : isT T p) : MI (liT T p) := h.pl (h.1.li hp hi) (PlT_li hp)
theorem spB_n {n p : Nat} {T : Nat → Int32} (h : MI T) (hp : p < 30) (hi : isT T p) : itT n (liT T p) 11 = nI (spB n T p) ∧ spB n T p ≤ 1999999999 := by
  obtain ⟨b, hb, e⟩ := (MI.it n _ (h.li hp hi)).2.2.2.1
  unfold spB
  rw [e, cl_nI (by omega)]
  exact ⟨rfl, hb⟩
theorem spF_lt {n : Nat} {T : Nat → Int32} (h : MI T) : ∀ p, p ≤ 30 → ∀ q m, spF n T p = some (q, m) → q < 30 ∧ m ≤ 1999999999 := by
  intro p
  induction p with
  | zero => intro _ q m e; cases e
  | succ p ih =>
    intro hp q m e
    rw [spF] at e
    by_cases hi : isT T p
    · rw [if_pos hi] at e
      have hb := (spB_n (n := n) h (show p < 30 by omega) hi).2
      cases hs : spF n T p with
      | none =>
        rw [hs] at e
        cases e
        exact ⟨by omega, hb⟩
      | some x =>
        obtain ⟨q', m'⟩ := x
        rw [hs] at e
        simp only [] at e
        by_cases c : m' < spB n T p
        · rw [if_pos c] at e
          cases e
          exact ⟨by omega, hb⟩
        · rw [if_neg c] at e
          cases e
          exact ih (by omega) _ _ hs
    · rw [if_neg hi] at e
      exact ih (by omega) q m e
def spBest : Option (Nat × Nat) → Int32
  | none => -1
  | some (q, _) => nI q
def spMost (z : Int32) : Option (Nat × Nat) → Int32
  | none => z
  | some (_, m) => nI m
theorem k_spot_l (d n : Nat) (hn : n < 2147483648) (T : Nat → Int32) (hM : MI T) : ∀ m p σ, p + m = 30 → HR 2 σ T → LR σ T → WB σ → ∃ σ', ru (d + 7) 80 20 [.ref 0, .int (nI n), .int (spBest (spF n T p)), .int (spMost (-1) (spF n T p)), .int (nI p)] [] σ = ru (d + 7) 80 108 [.ref 0, .int (nI n), .int (spBest (spF n T 30)), .int (spMost (-1) (spF n T 30)), .int (nI 30)] [] σ' ∧ CF σ σ' ∧ WB σ' := by
  intro m
  induction m with
  | zero =>
    intro p σ hp h hL hB
    obtain rfl : p = 30 := by omega
    refine ⟨σ, ?_, CF.rf σ, hB⟩
    simp only [s80_20]
    simp only [s80_22, s80_24, show (30 : Int32) ≤ nI 30 from Int32.le_refl _, simprocAttr, if_true, if_false, true_and, and_true, false_and, and_false, not_false_eq_true, not_true_eq_false, gd_T, kont_i, kont_v]
  | succ m ih =>
    intro p σ hp h hL hB
    have p31 : p < 2147483648 := by omega
    have p30 : p < 30 := by omega
    have e30 : (30 ≤ nI p) = False := by rw [show (30 : Int32) = nI 30 from rfl, le_nn (by omega) p31]; exact eq_false (by omega)
    have ei := h2_has (d + 6) p p30 σ T h hM.1.P
    have step : ∃ σ1, ru (d + 7) 80 20 [.ref 0, .int (nI n), .int (spBest (spF n T p)), .int (spMost (-1) (spF n T p)), .int (nI p)] [] σ = ru (d + 7) 80 20 [.ref 0, .int (nI n), .int (spBest (spF n T (p + 1))), .int (spMost (-1) (spF n T (p + 1))), .int (nI (p + 1))] [] σ1 ∧ CF σ σ1 ∧ WB σ1 := by
      rw [spF]
      by_cases hi : isT T p
      · rw [if_pos hi]
        obtain ⟨σ1, e1, p1, f1⟩ := k_ahead (d + 6) σ T h hL hM hB
        obtain ⟨σ2, e2, r2, f2⟩ := h59_lightByHand (d + 6) p p30 σ1 T p1.1 hi
        obtain ⟨σ3, e3, p3, f3⟩ := h59_pass (d + 1) n hn σ2 (liT T p) ⟨r2, p1.2.1.fr (fun o o1 o2 => f2 o (by omega) (by omega)) (fun q hq => PlT_li p30 q (by omega)), hM.li p30 hi⟩
        obtain ⟨eb, lb⟩ := spB_n (n := n) hM p30 hi
        have g11 : σ3 59 11 = nI (spB n T p) := p3.1.2.2.2.2.2.1.trans eb
        have c13 : CF σ σ3 := fun o o1 o2 => (f3 o o1 o2).trans ((f2 o (by omega) (by omega)).trans (f1 o o1))
        have W3 := callD_WB _ _ _ _ _ _ (callD_WB _ _ _ _ _ _ (callD_WB _ _ _ _ _ _ hB e1) e2) e3
        refine ⟨σ3, ?_, c13, W3⟩
        cases hs : spF n T p with
        | none =>
          have em : (nI (spB n T p) ≤ -1) = False := by rw [le_nI_l (by omega)]; exact eq_false (by rw [show (-1 : Int32).toInt = -1 from rfl]; omega)
          generalize hR : ru (d + 7) 80 20 [.ref 0, .int (nI n), .int (spBest (some (p, spB n T p))), .int (spMost (-1) (some (p, spB n T p))), .int (nI (p + 1))] [] σ3 = R
          simp only [spBest, spMost] at hR ⊢
          simp only [s80_20]
          simp only [s80_22, s80_24, s80_27, s80_28_o0, s80_31_o1, s80_34, s80_36_o2, s80_39, s80_42, s80_43_o0, s80_46, s80_47_o0, s80_50_o1, s80_53_o59, s80_56, s80_57_o0, s80_60, s80_62_o59, s80_65, s80_66_o0, s80_69, s80_70, s80_71_o0, s80_74_o1, s80_77_o59, s80_80, s80_81_o0, s80_84_o59, s80_87, s80_88, s80_91, s80_93, s80_94, s80_95_o0, s80_98_o59, s80_101, s80_102, s80_105, e30, ei, b2_T hi, e1, e2, e3, g11, em, nI_1, simprocAttr, if_true, if_false, true_and, and_true, false_and, and_false, not_false_eq_true, not_true_eq_false, gd_T, kont_i, kont_v]
          exact hR
        | some x =>
          obtain ⟨q, mm⟩ := x
          have lm := (spF_lt (n := n) hM p (by omega) q mm hs).2
          simp only []
          by_cases c : mm < spB n T p
          · rw [if_pos c]
            have em : (nI (spB n T p) ≤ nI mm) = False := by rw [le_nn (by omega) (by omega)]; exact eq_false (by omega)
            generalize hR : ru (d + 7) 80 20 [.ref 0, .int (nI n), .int (spBest (some (p, spB n T p))), .int (spMost (-1) (some (p, spB n T p))), .int (nI (p + 1))] [] σ3 = R
            simp only [spBest, spMost] at hR ⊢
            simp only [s80_20]
            simp only [s80_22, s80_24, s80_27, s80_28_o0, s80_31_o1, s80_34, s80_36_o2, s80_39, s80_42, s80_43_o0, s80_46, s80_47_o0, s80_50_o1, s80_53_o59, s80_56, s80_57_o0, s80_60, s80_62_o59, s80_65, s80_66_o0, s80_69, s80_70, s80_71_o0, s80_74_o1, s80_77_o59, s80_80, s80_81_o0, s80_84_o59, s80_87, s80_88, s80_91, s80_93, s80_94, s80_95_o0, s80_98_o59, s80_101, s80_102, s80_105, e30, ei, b2_T hi, e1, e2, e3, g11, em, nI_1, simprocAttr, if_true, if_false, true_and, and_true, false_and, and_false, not_false_eq_true, not_true_eq_false, gd_T, kont_i, kont_v]
            exact hR
          · rw [if_neg c]
            have em : (nI (spB n T p) ≤ nI mm) = True := by rw [le_nn (by omega) (by omega)]; exact eq_true (by omega)
            generalize hR : ru (d + 7) 80 20 [.ref 0, .int (nI n), .int (spBest (some (q, mm))), .int (spMost (-1) (some (q, mm))), .int (nI (p + 1))] [] σ3 = R
            simp only [spBest, spMost] at hR ⊢
            simp only [s80_20]
            simp only [s80_22, s80_24, s80_27, s80_28_o0, s80_31_o1, s80_34, s80_36_o2, s80_39, s80_42, s80_43_o0, s80_46, s80_47_o0, s80_50_o1, s80_53_o59, s80_56, s80_57_o0, s80_60, s80_62_o59, s80_65, s80_66_o0, s80_69, s80_70, s80_71_o0, s80_74_o1, s80_77_o59, s80_80, s80_81_o0, s80_84_o59, s80_87, s80_88, s80_91, s80_93, s80_94, s80_95_o0, s80_98_o59, s80_101, s80_102, s80_105, e30, ei, b2_T hi, e1, e2, e3, g11, em, nI_1, simprocAttr, if_true, if_false, true_and, and_true, false_and, and_false, not_false_eq_true, not_true_eq_false, gd_T, kont_i, kont_v]
            exact hR
      · rw [if_neg hi]
        refine ⟨σ, ?_, CF.rf σ, hB⟩
        generalize hR : ru (d + 7) 80 20 [.ref 0, .int (nI n), .int (spBest (spF n T p)), .int (spMost (-1) (spF n T p)), .int (nI (p + 1))] [] σ = R
        simp only [s80_20]
        simp only [s80_22, s80_24, s80_27, s80_28_o0, s80_31_o1, s80_34, s80_36_o2, s80_39, s80_42, s80_43_o0, s80_46, s80_47_o0, s80_50_o1, s80_53_o59, s80_56, s80_57_o0, s80_60, s80_62_o59, s80_65, s80_66_o0, s80_69, s80_70, s80_71_o0, s80_74_o1, s80_77_o59, s80_80, s80_81_o0, s80_84_o59, s80_87, s80_88, s80_91, s80_93, s80_94, s80_95_o0, s80_98_o59, s80_101, s80_102, s80_105, e30, ei, b2_F hi, nI_1, simprocAttr, if_true, if_false, true_and, and_true, false_and, and_false, not_false_eq_true, not_true_eq_false, gd_T, kont_i, kont_v]
        exact hR
    obtain ⟨σ1, e1, c1, w1⟩ := step
    obtain ⟨σ2, e2, c2, w2⟩ := ih (p + 1) σ1 (by omega) (h.fr (fun o o1 o2 => c1 o (by omega) (by omega))) (hL.fr (fun o o1 o2 => c1 o (by omega) (by omega)) (fun _ _ => rfl)) w1
    exact ⟨σ2, e1.trans e2, c1.tr c2, w2⟩
theorem WB.g88 {σ : Hs} (h : WB σ) {F : Nat → Int32} (hF : ∀ j, 545 ≤ j → F j = 0) : WB (rep σ 88 F) := by
  refine ⟨fun o ho q => ?_, fun o q ho hq => ?_⟩
  · by_cases c : o = 88
    · subst c; exact absurd ho (by decide +kernel)
    · rw [rep_ne c]; exact h.1 o ho q
  · by_cases c : o = 88
    · subst c
      have e545 : (shp 88).2 = 545 := by decide +kernel
      rw [e545] at hq
      rw [rep_self]; exact hF q hq
    · rw [rep_ne c]; exact h.2 o q ho hq
theorem m_spot_l (d n : Nat) (hn : n < 2147483648) (T : Nat → Int32) (hM : MI T) : ∀ m p (l5 : Value) σ, p + m = 30 → σ 88 = T → σ 90 = T → Hot σ → WB σ → ∃ σ' l5', ru (d + 11) 186 32 [.ref 87, .int (nI n), .int (spBest (spF n T p)), .int (spMost 0 (spF n T p)), .int (nI p), l5] [] σ = ru (d + 11) 186 94 [.ref 87, .int (nI n), .int (spBest (spF n T 30)), .int (spMost 0 (spF n T 30)), .int (nI 30), l5'] [] σ' ∧ MF σ σ' ∧ σ' 88 = T ∧ WB σ' := by
  intro m
  induction m with
  | zero =>
    intro p l5 σ hp h h90 hH hB
    obtain rfl : p = 30 := by omega
    refine ⟨σ, l5, ?_, MF.rf σ, h, hB⟩
    simp only [s186_32]
    simp only [s186_34, s186_36, show (30 : Int32) ≤ nI 30 from Int32.le_refl _, simprocAttr, if_true, if_false, true_and, and_true, false_and, and_false, not_false_eq_true, not_true_eq_false, gd_T, kont_i, kont_v]
  | succ m ih =>
    intro p l5 σ hp h h90 hH hB
    have p31 : p < 2147483648 := by omega
    have p30 : p < 30 := by omega
    have e30 : (30 ≤ nI p) = False := by rw [show (30 : Int32) = nI 30 from rfl, le_nn (by omega) p31]; exact eq_false (by omega)
    have step : ∃ σ1 l5', ru (d + 11) 186 32 [.ref 87, .int (nI n), .int (spBest (spF n T p)), .int (spMost 0 (spF n T p)), .int (nI p), l5] [] σ = ru (d + 11) 186 32 [.ref 87, .int (nI n), .int (spBest (spF n T (p + 1))), .int (spMost 0 (spF n T (p + 1))), .int (nI (p + 1)), l5'] [] σ1 ∧ MF σ σ1 ∧ σ1 88 = T ∧ σ1 90 = T ∧ WB σ1 := by
      rw [spF]
      by_cases hi : isT T p
      · rw [if_pos hi]
        have e1 := m_lights (d + 9) p p30 σ
        rw [h] at e1
        have W1 : WB (rep σ 88 (liT T p)) := callD_WB _ _ _ _ _ _ hB e1
        obtain ⟨σ2, e2, f2⟩ := m_minutesGo (d + 1) n hn (rep σ 88 (liT T p)) (by rw [rep_self]; exact (hM.li p30 hi).2.1) (hH.of (rep_ne (by omega)) (rep_ne (by omega)))
        rw [rep_self] at f2
        have W2 := callD_WB _ _ _ _ _ _ W1 e2
        obtain ⟨eb, lb⟩ := spB_n (n := n) hM p30 hi
        have q90 : σ2 90 = T := by rw [f2.2.2 90 (by omega) (by omega) (by omega) (by omega), rep_ne (by omega)]; exact h90
        have e4 := m_back_T (d + 9) (nI (spB n T p)) σ2 T q90 W2
        have g11 : σ2 88 11 = nI (spB n T p) := by rw [f2.1]; exact eb
        have mf : MF σ (rep σ2 88 T) := ((MF.g _).tr f2.mf).tr (MF.g _)
        have W4 := callD_WB _ _ _ _ _ _ W2 e4
        have hi' : isT (σ 88) p := by rw [h]; exact hi
        refine ⟨rep σ2 88 T, .int (nI (spB n T p)), ?_, mf, rep_self _ _ _, (rep_ne (by omega)).trans q90, W4⟩
        cases hs : spF n T p with
        | none =>
          generalize hR : ru (d + 11) 186 32 [.ref 87, .int (nI n), .int (spBest (some (p, spB n T p))), .int (spMost 0 (some (p, spB n T p))), .int (nI (p + 1)), .int (nI (spB n T p))] [] _ = R
          simp only [spBest, spMost] at hR ⊢
          simp only [s186_32]
          simp only [s186_34, s186_36, s186_39, s186_40, s186_42_o87, s186_45, s186_48, s186_49, s186_51_o87, s186_54, s186_55, s186_56_o87, s186_59, s186_60, s186_61_o87, s186_64, s186_66_o88, s186_67_o87, s186_70, s186_72, s186_73, s186_76, s186_78, s186_79, s186_82, s186_84, s186_85, s186_87, s186_88, s186_91, e30, m_is _ _ p30, b2_T hi', e1, e2, vp_lit, g11, e4, nI_1, simprocAttr, if_true, if_false, true_and, and_true, false_and, and_false, not_false_eq_true, not_true_eq_false, gd_T, kont_i, kont_v]
          exact hR
        | some x =>
          obtain ⟨q, mm⟩ := x
          obtain ⟨lq, lm⟩ := spF_lt (n := n) hM p (by omega) q mm hs
          have qn : (nI q < 0) = False := eq_false (nI_pos (by omega))
          simp only []
          by_cases c : mm < spB n T p
          · rw [if_pos c]
            have em : (nI (spB n T p) ≤ nI mm) = False := by rw [le_nn (by omega) (by omega)]; exact eq_false (by omega)
            generalize hR : ru (d + 11) 186 32 [.ref 87, .int (nI n), .int (spBest (some (p, spB n T p))), .int (spMost 0 (some (p, spB n T p))), .int (nI (p + 1)), .int (nI (spB n T p))] [] _ = R
            simp only [spBest, spMost] at hR ⊢
            simp only [s186_32]
            simp only [s186_34, s186_36, s186_39, s186_40, s186_42_o87, s186_45, s186_48, s186_49, s186_51_o87, s186_54, s186_55, s186_56_o87, s186_59, s186_60, s186_61_o87, s186_64, s186_66_o88, s186_67_o87, s186_70, s186_72, s186_73, s186_76, s186_78, s186_79, s186_82, s186_84, s186_85, s186_87, s186_88, s186_91, e30, m_is _ _ p30, b2_T hi', e1, e2, vp_lit, g11, e4, qn, em, nI_1, simprocAttr, if_true, if_false, true_and, and_true, false_and, and_false, not_false_eq_true, not_true_eq_false, gd_T, kont_i, kont_v]
            exact hR
          · rw [if_neg c]
            have em : (nI (spB n T p) ≤ nI mm) = True := by rw [le_nn (by omega) (by omega)]; exact eq_true (by omega)
            generalize hR : ru (d + 11) 186 32 [.ref 87, .int (nI n), .int (spBest (some (q, mm))), .int (spMost 0 (some (q, mm))), .int (nI (p + 1)), .int (nI (spB n T p))] [] _ = R
            simp only [spBest, spMost] at hR ⊢
            simp only [s186_32]
            simp only [s186_34, s186_36, s186_39, s186_40, s186_42_o87, s186_45, s186_48, s186_49, s186_51_o87, s186_54, s186_55, s186_56_o87, s186_59, s186_60, s186_61_o87, s186_64, s186_66_o88, s186_67_o87, s186_70, s186_72, s186_73, s186_76, s186_78, s186_79, s186_82, s186_84, s186_85, s186_87, s186_88, s186_91, e30, m_is _ _ p30, b2_T hi', e1, e2, vp_lit, g11, e4, qn, em, nI_1, simprocAttr, if_true, if_false, true_and, and_true, false_and, and_false, not_false_eq_true, not_true_eq_false, gd_T, kont_i, kont_v]
            exact hR
      · rw [if_neg hi]
        have hi' : ¬ isT (σ 88) p := by rw [h]; exact hi
        refine ⟨σ, l5, ?_, MF.rf σ, h, h90, hB⟩
        generalize hR : ru (d + 11) 186 32 [.ref 87, .int (nI n), .int (spBest (spF n T p)), .int (spMost 0 (spF n T p)), .int (nI (p + 1)), l5] [] σ = R
        simp only [s186_32]
        simp only [s186_34, s186_36, s186_39, s186_40, s186_42_o87, s186_45, s186_48, s186_49, s186_51_o87, s186_54, s186_55, s186_56_o87, s186_59, s186_60, s186_61_o87, s186_64, s186_66_o88, s186_67_o87, s186_70, s186_72, s186_73, s186_76, s186_78, s186_79, s186_82, s186_84, s186_85, s186_87, s186_88, s186_91, e30, m_is _ _ p30, b2_F hi', nI_1, simprocAttr, if_true, if_false, true_and, and_true, false_and, and_false, not_false_eq_true, not_true_eq_false, gd_T, kont_i, kont_v]
        exact hR
    obtain ⟨σ1, l5', e1, c1, g1, g90, w1⟩ := step
    obtain ⟨σ2, l52, e2, c2, g2, w2⟩ := ih (p + 1) l5' σ1 (by omega) g1 g90 (hH.of (c1.2 92 (by omega) (by omega) (by omega) (by omega) (by omega)) (c1.2 93 (by omega) (by omega) (by omega) (by omega) (by omega))) w1
    exact ⟨σ2, l52, e1.trans e2, c1.tr c2, g2, w2⟩
theorem m_spot (d n : Nat) (hn : n < 61) (τ : Hs) (T : Nat → Int32) (hM : MI T) (h : τ 88 = T) (hH : Hot τ) (hB : WB τ) : ∃ σ', callD (d + 100) 186 [.ref 87, .int (nI n)] τ = (match spF n T 30 with | some (q, _) => some (some (.int (nI q)), σ') | none => some (some (.int (-1000002)), erM σ' 2)) ∧ MF τ σ' ∧ σ' 88 = T := by
  have hwt : (0 ≤ nI n ∧ nI n ≤ 60) = True := eq_true ⟨nI_pos' (by omega), nI_le (b := 60) (by omega) (by omega)⟩
  have ea := m_aside (d + 98) τ hB
  have W3 := callD_WB _ _ _ _ _ _ hB ea
  obtain ⟨σ1, l5', e1, f1, g1, w1⟩ := m_spot_l (d + 88) n (by omega) T hM 30 0 uu (rep τ 90 (τ 88)) rfl ((rep_ne (by omega)).trans h) ((rep_self _ _ _).trans h) (hH.of (rep_ne (by omega)) (rep_ne (by omega))) W3
  refine ⟨σ1, ?_, (MF.g90 _).tr f1, g1⟩
  have s0 : callD (d + 100) 186 [.ref 87, .int (nI n)] τ = ru (d + 99) 186 94 [.ref 87, .int (nI n), .int (spBest (spF n T 30)), .int (spMost 0 (spF n T 30)), .int (nI 30), l5'] [] σ1 := by
    rw [← e1]
    simp only [c186, s186_0, s186_1, s186_4, s186_7, s186_8, s186_10_o87, s186_13, s186_14, s186_15_o87, s186_18, s186_19_o87, s186_22, s186_25, s186_26, s186_27, s186_28, s186_29, s186_30, m_isAhead, hwt, b2_t, ea, simprocAttr, if_true, if_false, true_and, and_true, false_and, and_false, not_false_eq_true, not_true_eq_false, gd_T, kont_i, kont_v]
    rfl
  rw [s0]
  cases hs : spF n T 30 with
  | none =>
    simp only [spBest, s186_94, s186_95, s186_98, s186_99, s186_101_o87, s186_104, s186_107, s186_108, m_fin_2, simprocAttr, if_true, if_false, true_and, and_true, false_and, and_false, not_false_eq_true, not_true_eq_false, gd_T, kont_i, kont_v]
  | some x =>
    obtain ⟨q, mm⟩ := x
    obtain ⟨lq, -⟩ := spF_lt (n := n) hM 30 (Nat.le_refl _) q mm hs
    have q0 : (0 ≤ nI q) = True := eq_true (nI_pos' (by omega))
    simp only [spBest, s186_94, s186_95, s186_98, s186_99, s186_101_o87, s186_104, s186_107, s186_108, q0, simprocAttr, if_true, if_false, true_and, and_true, false_and, and_false, not_false_eq_true, not_true_eq_false, gd_T, kont_i, kont_v]
theorem L_spot {i : Nat} {σ : Hs} (h : RR i σ) (d : Nat) (w : Int32) : Step d i 80 186 [.int w] σ := by
  by_cases hw : 0 ≤ w ∧ w ≤ 60
  · have hwt := eq_true hw
    obtain ⟨n, ln, rfl⟩ := ahd_n hw
    obtain ⟨σ1, e1, cf, w1⟩ := k_spot_l (d + 92) n (by omega) (σ 88) h.mi 30 0 σ rfl h.hr h.lr h.wb
    have s0 : callD (d + 100) 80 [.ref 0, .int (nI n)] σ = ru (d + 99) 80 108 [.ref 0, .int (nI n), .int (spBest (spF n (σ 88) 30)), .int (spMost (-1) (spF n (σ 88) 30)), .int (nI 30)] [] σ1 := by
      rw [← e1]
      simp only [c80, s80_0, s80_1, s80_4, s80_7, s80_8, s80_9_o0, s80_12, s80_13, s80_14, s80_15, s80_16, s80_17, s80_18, k_isAhead, hwt, b2_t, simprocAttr, if_true, if_false, true_and, and_true, false_and, and_false, not_false_eq_true, not_true_eq_false, gd_T, kont_i, kont_v]
      rfl
    cases hs : spF n (σ 88) 30 with
    | none =>
      have c1 : callD (d + 100) 80 [.ref 0, .int (nI n)] σ = some (some (.int (-1000002)), erC σ1 2) := by
        rw [s0, hs]
        simp only [spBest, s80_108, s80_109, s80_110, s80_113, s80_114, s80_115_o0, s80_118, s80_121, s80_122, k_failed_2, simprocAttr, if_true, if_false, true_and, and_true, false_and, and_false, not_false_eq_true, not_true_eq_false, gd_T, kont_i, kont_v]
      obtain ⟨σ2, e2, m2, g2⟩ := m_spot d n ln (erC σ1 2) (σ 88) h.mi ((show erC σ1 2 88 = σ1 88 from rep_ne (by omega)).trans (cf 88 (by omega) (by omega))) (h.hot.of ((show erC σ1 2 92 = σ1 92 from rep_ne (by omega)).trans (cf 92 (by omega) (by omega))) ((show erC σ1 2 93 = σ1 93 from rep_ne (by omega)).trans (cf 93 (by omega) (by omega)))) (callD_WB _ _ _ _ _ _ h.wb c1)
      rw [hs] at e2
      have c2 : callD (d + 100) 186 [.ref 87, .int (nI n)] (erC σ1 2) = some (some (.int (-1000002)), erM σ2 2) := e2
      exact ⟨_, _, _, c1, c2, h.ame (h.wb.two c1 c2) g2 cf m2⟩
    | some x =>
      obtain ⟨q, mm⟩ := x
      obtain ⟨lq, -⟩ := spF_lt (n := n) h.mi 30 (Nat.le_refl _) q mm hs
      have qn : (nI q = -1) = False := nI_inj_m1 (by omega)
      have c1 : callD (d + 100) 80 [.ref 0, .int (nI n)] σ = some (some (.int (nI q)), σ1) := by
        rw [s0, hs]
        simp only [spBest, s80_108, s80_109, s80_110, s80_113, s80_114, s80_115_o0, s80_118, s80_121, s80_122, qn, simprocAttr, if_true, if_false, true_and, and_true, false_and, and_false, not_false_eq_true, not_true_eq_false, gd_T, kont_i, kont_v]
      obtain ⟨σ2, e2, m2, g2⟩ := m_spot d n ln σ1 (σ 88) h.mi (cf 88 (by omega) (by omega)) (h.hot.of (cf 92 (by omega) (by omega)) (cf 93 (by omega) (by omega))) w1
      rw [hs] at e2
      have c2 : callD (d + 100) 186 [.ref 87, .int (nI n)] σ1 = some (some (.int (nI q)), σ2) := e2
      exact ⟨_, _, _, c1, c2, h.am (h.wb.two c1 c2) g2 cf m2⟩
  · have hwf := eq_false hw
    refine Step_err h 1 (v := -1000001) ?_ ?_
    · simp only [c80, s80_0, s80_1, s80_4, s80_7, s80_8, s80_9_o0, s80_12, s80_13, s80_14, s80_15, s80_16, s80_17, s80_18, k_isAhead, hwf, b2_f, k_failed_1, simprocAttr, if_true, if_false, true_and, and_true, false_and, and_false, not_false_eq_true, not_true_eq_false, gd_T, kont_i, kont_v]
    · simp only [c186, s186_0, s186_1, s186_4, s186_7, s186_8, s186_10_o87, s186_13, s186_14, s186_15_o87, s186_18, s186_19_o87, s186_22, s186_25, s186_26, s186_27, s186_28, s186_29, s186_30, m_isAhead, hwf, b2_f, m_fin_1, simprocAttr, if_true, if_false, true_and, and_true, false_and, and_false, not_false_eq_true, not_true_eq_false, gd_T, kont_i, kont_v]
