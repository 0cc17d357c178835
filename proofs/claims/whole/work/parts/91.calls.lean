/-! ===== the call: armfuls ===== -/
theorem PlT.self (T : Nat → Int32) : PlT T T := fun _ _ => rfl
theorem k_armfuls_0 (d qs : Nat) (hq : qs ≤ 24) (F : Nat → Int32) : ∀ m n, n + m = 6 → ∀ (σ1 : Hs) (T : Nat → Int32), HR 2 σ1 T → WI T → σ1 78 = F → σ1 77 2 = nI qs → ∃ v T' σ2, ru (d + 99) 93 46 [.ref 0, .int (nI 0), .int (nI n), .ref 78, .int (nI (4 * n))] [] σ1 = some (some (.int (nI v)), σ2) ∧ HR 2 σ2 T' ∧ WI T' ∧ PlT T T' ∧ sN T' 30 ≤ sN T 30 + 1000 * m ∧ (∀ o, (o < 3 ∨ 8 < o) → σ2 o = σ1 o) ∧ ∀ (τ : Hs) (l4 : Value), τ 88 = T → τ 101 0 = nI qs → (∀ k, k < 24 → τ 102 (0 + k) = F k) → ru (d + 99) 208 37 [.ref 87, .int (nI 0), .int (nI n), .int (nI (0 + 4 * n)), l4] [] τ = some (some (.int (nI v)), rep τ 88 T') := by
  have vs : vp_in (nI 0) 4 = True := vp_nI (by omega) (by omega)
  have cs : (nI 0).toNatClampNeg = 0 := cl_nI (by omega)
  intro m
  induction m with
  | zero =>
    intro n hn σ1 T hH hW e78 e77
    obtain rfl : n = 6 := by omega
    refine ⟨6, T, σ1, ?_, hH, hW, PlT.self T, by omega, fun o ho => rfl, fun τ l4 f88 f101 f102 => ?_⟩
    · have g : ((24 : Int32) ≤ nI (4 * 6)) = True := eq_true (by decide +kernel)
      simp only [s93_46]
      simp only [s93_48, s93_50, s93_53, s93_54_o0, s93_57, s93_58_o76, s93_59, s93_61, s93_62_o77, s93_62_o79, s93_62_o81, s93_62_o83, s93_65, s93_68, s93_69_o0, s93_72_o1, s93_75, s93_76, s93_78_o78, s93_78_o80, s93_78_o82, s93_78_o84, s93_79, s93_80, s93_82, s93_83, s93_84_o78, s93_84_o80, s93_84_o82, s93_84_o84, s93_85, s93_86, s93_88, s93_89, s93_90_o78, s93_90_o80, s93_90_o82, s93_90_o84, s93_91, s93_92, s93_94, s93_95, s93_96_o78, s93_96_o80, s93_96_o82, s93_96_o84, s93_97_o2, s93_100, s93_103, s93_104, s93_105, s93_108, s93_111, s93_114, s93_115, g, simprocAttr, if_true, if_false, true_and, and_true, false_and, and_false, not_false_eq_true, not_true_eq_false, gd_T, kont_i, kont_v]
    · have g : (nI qs < (4 : Int32) * nI 6 + 4) = True := by
        rw [show (4 : Int32) * nI 6 + 4 = nI 28 from by decide +kernel, lt_nn (by omega) (by omega)]
        exact eq_true (by omega)
      have e : rep τ 88 T = τ := by rw [← f88, rep_same]
      rw [e]
      simp only [s208_37]
      simp only [s208_38, s208_39, s208_40, s208_41, s208_42, s208_43_o87, s208_46, s208_47_o101, s208_48, s208_51, s208_52, s208_53_o87, s208_56, s208_57_o102, s208_58, s208_59_o87, s208_62, s208_63, s208_64, s208_65_o102, s208_66, s208_67_o87, s208_70, s208_71, s208_72, s208_73_o102, s208_74, s208_75_o87, s208_78, s208_79, s208_80, s208_81_o102, s208_82_o87, s208_85, s208_88, s208_89, s208_90_o87, s208_93, s208_94, s208_95, s208_96_o102, s208_97_o87, s208_100, s208_101, s208_104, s208_105, s208_106, s208_107, s208_108_o87, s208_111, s208_112_o102, s208_113, s208_114_o87, s208_117, s208_118, s208_119, s208_120_o102, s208_121, s208_122_o87, s208_125, s208_126, s208_127, s208_128_o102, s208_129, s208_130_o87, s208_133, s208_134, s208_135, s208_136_o102, s208_137_o87, s208_140, s208_142, s208_145, s208_148, s208_151, s208_152, vs, cs, f101, g, simprocAttr, if_true, if_false, true_and, and_true, false_and, and_false, not_false_eq_true, not_true_eq_false, gd_T, kont_i, kont_v]
  | succ m ih =>
    intro n hn σ1 T hH hW e78 e77
    have g : ((24 : Int32) ≤ nI (4 * n)) = False := by rw [show (24 : Int32) = nI 24 from rfl, le_nn (by omega) (by omega)]; exact eq_false (by omega)
    have kst := k_stand_0 (d + 98) (nI (4 * n)) 4 σ1 _ e77
    have e4 : (4 : Int32) * nI n + 4 = nI (4 * n + 4) := by rw [show (4 : Int32) = nI 4 from rfl, pk_mul, nI_add]
    by_cases hs : 4 * n + 4 ≤ qs
    · have hst : stQ qs (nI (4 * n)) 4 := (stQ_n hq).mpr ⟨4 * n, 4, rfl, rfl, hs⟩
      rw [b2_T hst] at kst
      have q1 : (nI qs < nI (4 * n + 4)) = False := by rw [lt_nn (by omega) (by omega)]; exact eq_false (by omega)
      have n1 : nI n + 1 = nI (n + 1) := nI_1 n
      have i1 : nI (4 * n) + 1 = nI (4 * n + 1) := by rw [show (1 : Int32) = nI 1 from rfl, nI_add]
      have i2 : nI (4 * n) + 2 = nI (4 * n + 2) := by rw [show (2 : Int32) = nI 2 from rfl, nI_add]
      have i3 : nI (4 * n) + 3 = nI (4 * n + 3) := by rw [show (3 : Int32) = nI 3 from rfl, nI_add]
      have j1 : nI (0 + 4 * n) + 1 = nI (0 + (4 * n + 1)) := by rw [show (1 : Int32) = nI 1 from rfl, nI_add]; rfl
      have j2 : nI (0 + 4 * n) + 2 = nI (0 + (4 * n + 2)) := by rw [show (2 : Int32) = nI 2 from rfl, nI_add]; rfl
      have j3 : nI (0 + 4 * n) + 3 = nI (0 + (4 * n + 3)) := by rw [show (3 : Int32) = nI 3 from rfl, nI_add]; rfl
      have wk := fun (y : Nat) (hy : y < 24) => vp_nI (k := y) (n := 24) hy (by omega)
      have ck := fun (y : Nat) (hy : y < 24) => cl_nI (k := y) (by omega)
      have wm := fun (y : Nat) (hy : y < 24) => vp_nI (k := 0 + y) (n := 96) (by omega) (by omega)
      have cm := fun (y : Nat) (hy : y < 24) => cl_nI (k := 0 + y) (by omega)
      have a0 := wk (4 * n) (by omega)
      have a1 := wk (4 * n + 1) (by omega)
      have a2 := wk (4 * n + 2) (by omega)
      have a3 := wk (4 * n + 3) (by omega)
      have x0 := ck (4 * n) (by omega)
      have x1 := ck (4 * n + 1) (by omega)
      have x2 := ck (4 * n + 2) (by omega)
      have x3 := ck (4 * n + 3) (by omega)
      have y0 := wm (4 * n) (by omega)
      have y1 := wm (4 * n + 1) (by omega)
      have y2 := wm (4 * n + 2) (by omega)
      have y3 := wm (4 * n + 3) (by omega)
      have z0 := cm (4 * n) (by omega)
      have z1 := cm (4 * n + 1) (by omega)
      have z2 := cm (4 * n + 2) (by omega)
      have z3 := cm (4 * n + 3) (by omega)
      by_cases ht : told4 (F (4 * n)) (F (4 * n + 1)) (F (4 * n + 2)) (F (4 * n + 3))
      · obtain ⟨k', c', s', w', r0, r1, r2, r3, lk, lc, l1, ls, lw⟩ := told_n ht
        rw [r0, r1, r2, r3] at ht
        have hle := hiT_le T c'
        by_cases h5 : hiT T c' < 5
        · obtain ⟨σ2, e1, rr, f1⟩ := h2_layOnTop (d + 96) (nI k') (nI s') (nI w') c' lc σ1 T hH hW.P ht h5
          have sn : sN (setT T (6 * hiT T c' + c') (nI k') (nI s') (nI w') 3 0 0) 30 = sN T 30 + s' := sN_set (by omega) ls (hi_not h5)
          have pl : PlT T (setT T (6 * hiT T c' + c') (nI k') (nI s') (nI w') 3 0 0) := PlT_set (by omega)
          obtain ⟨v, T', σ3, o1, o2, o3, o4, o5, o6, o7⟩ := ih (n + 1) (by omega) σ2 _ rr (hW.lay lc h5 lk l1 ls lw) ((f1 78 (by omega)).trans e78) ((congrFun (f1 77 (by omega)) 2).trans e77)
          refine ⟨v, T', σ3, ?_, o2, o3, pl.tr o4, by omega, fun o ho => (o6 o ho).trans (f1 o ho), fun τ l4 f88 f101 f102 => ?_⟩
          · have p31 : 6 * hiT T c' + c' < 2147483648 := by omega
            have p0 : (0 ≤ nI (6 * hiT T c' + c')) = True := eq_true (nI_pos' p31)
            rw [← o1]
            have e5 : nI (4 * (n + 1)) = nI (4 * n) + 4 := by rw [show (4 : Int32) = nI 4 from rfl, nI_add]; rfl
            rw [e5]
            generalize hR : ru (d + 99) 93 46 _ [] σ2 = R
            simp only [s93_46]
            simp only [s93_48, s93_50, s93_53, s93_54_o0, s93_57, s93_58_o76, s93_59, s93_61, s93_62_o77, s93_62_o79, s93_62_o81, s93_62_o83, s93_65, s93_68, s93_69_o0, s93_72_o1, s93_75, s93_76, s93_78_o78, s93_78_o80, s93_78_o82, s93_78_o84, s93_79, s93_80, s93_82, s93_83, s93_84_o78, s93_84_o80, s93_84_o82, s93_84_o84, s93_85, s93_86, s93_88, s93_89, s93_90_o78, s93_90_o80, s93_90_o82, s93_90_o84, s93_91, s93_92, s93_94, s93_95, s93_96_o78, s93_96_o80, s93_96_o82, s93_96_o84, s93_97_o2, s93_100, s93_103, s93_104, s93_105, s93_108, s93_111, g, vs, cs, cr76_0, kst, e78, i1, i2, i3, a0, a1, a2, a3, x0, x1, x2, x3, r0, r1, r2, r3, e1, p0, n1, simprocAttr, if_true, if_false, true_and, and_true, false_and, and_false, not_false_eq_true, not_true_eq_false, gd_T, kont_i, kont_v]
            exact hR
          · have m0 : τ 102 (0 + 4 * n) = nI k' := (f102 (4 * n) (by omega)).trans r0
            have m1 : τ 102 (0 + (4 * n + 1)) = nI c' := (f102 (4 * n + 1) (by omega)).trans r1
            have m2 : τ 102 (0 + (4 * n + 2)) = nI s' := (f102 (4 * n + 2) (by omega)).trans r2
            have m3 : τ 102 (0 + (4 * n + 3)) = nI w' := (f102 (4 * n + 3) (by omega)).trans r3
            have hh := m_highOf (d + 96) c' lc τ
            rw [f88] at hh
            have hl := m_lays (d + 95) c' lc (nI k') (nI s') (nI w') τ (by rw [f88]; exact h5)
            rw [f88] at hl
            have n5 : (nI (hiT T c') = 5) = False := by rw [show (5 : Int32) = nI 5 from rfl, eq_nn (by omega) (by omega)]; exact eq_false (by omega)
            have hi := o7 (rep τ 88 (setT T (6 * hiT T c' + c') (nI k') (nI s') (nI w') 3 0 0)) (.int (nI (6 * hiT T c' + c'))) (rep_self _ _ _) (by rw [rep_ne (by omega)]; exact f101) (fun k hk => by rw [rep_ne (by omega)]; exact f102 k hk)
            rw [rep_rep, show 0 + 4 * (n + 1) = 0 + 4 * n + 4 by omega, ← nI_add (0 + 4 * n) 4, show nI 4 = (4 : Int32) from rfl] at hi
            rw [← hi]
            generalize hR : ru (d + 99) 208 37 _ [] (rep τ 88 (setT T (6 * hiT T c' + c') (nI k') (nI s') (nI w') 3 0 0)) = R
            simp only [s208_37]
            simp only [s208_38, s208_39, s208_40, s208_41, s208_42, s208_43_o87, s208_46, s208_47_o101, s208_48, s208_51, s208_52, s208_53_o87, s208_56, s208_57_o102, s208_58, s208_59_o87, s208_62, s208_63, s208_64, s208_65_o102, s208_66, s208_67_o87, s208_70, s208_71, s208_72, s208_73_o102, s208_74, s208_75_o87, s208_78, s208_79, s208_80, s208_81_o102, s208_82_o87, s208_85, s208_88, s208_89, s208_90_o87, s208_93, s208_94, s208_95, s208_96_o102, s208_97_o87, s208_100, s208_101, s208_104, s208_105, s208_106, s208_107, s208_108_o87, s208_111, s208_112_o102, s208_113, s208_114_o87, s208_117, s208_118, s208_119, s208_120_o102, s208_121, s208_122_o87, s208_125, s208_126, s208_127, s208_128_o102, s208_129, s208_130_o87, s208_133, s208_134, s208_135, s208_136_o102, s208_137_o87, s208_140, s208_142, s208_145, s208_148, e4, q1, vs, cs, f101, j1, j2, j3, y0, y1, y2, y3, z0, z1, z2, z3, m0, m1, m2, m3, m_isAsTold, b2_T ht, hh, n5, hl, n1, simprocAttr, if_true, if_false, true_and, and_true, false_and, and_false, not_false_eq_true, not_true_eq_false, gd_T, kont_i, kont_v]
            exact hR
        · refine ⟨n, T, σ1, ?_, hH, hW, PlT.self T, by omega, fun o ho => rfl, fun τ l4 f88 f101 f102 => ?_⟩
          · have e1 := h2_layOnTop_full (d + 96) (nI k') (nI s') (nI w') c' lc σ1 T hH hW.P ht h5
            simp only [s93_46]
            simp only [s93_48, s93_50, s93_53, s93_54_o0, s93_57, s93_58_o76, s93_59, s93_61, s93_62_o77, s93_62_o79, s93_62_o81, s93_62_o83, s93_65, s93_68, s93_69_o0, s93_72_o1, s93_75, s93_76, s93_78_o78, s93_78_o80, s93_78_o82, s93_78_o84, s93_79, s93_80, s93_82, s93_83, s93_84_o78, s93_84_o80, s93_84_o82, s93_84_o84, s93_85, s93_86, s93_88, s93_89, s93_90_o78, s93_90_o80, s93_90_o82, s93_90_o84, s93_91, s93_92, s93_94, s93_95, s93_96_o78, s93_96_o80, s93_96_o82, s93_96_o84, s93_97_o2, s93_100, s93_103, s93_104, s93_105, s93_108, s93_111, g, vs, cs, cr76_0, kst, e78, i1, i2, i3, a0, a1, a2, a3, x0, x1, x2, x3, r0, r1, r2, r3, e1, simprocAttr, if_true, if_false, true_and, and_true, false_and, and_false, not_false_eq_true, not_true_eq_false, gd_T, kont_i, kont_v]
          · have m0 : τ 102 (0 + 4 * n) = nI k' := (f102 (4 * n) (by omega)).trans r0
            have m1 : τ 102 (0 + (4 * n + 1)) = nI c' := (f102 (4 * n + 1) (by omega)).trans r1
            have m2 : τ 102 (0 + (4 * n + 2)) = nI s' := (f102 (4 * n + 2) (by omega)).trans r2
            have m3 : τ 102 (0 + (4 * n + 3)) = nI w' := (f102 (4 * n + 3) (by omega)).trans r3
            have hh := m_highOf (d + 96) c' lc τ
            rw [f88, show hiT T c' = 5 by omega] at hh
            have e : rep τ 88 T = τ := by rw [← f88, rep_same]
            rw [e]
            simp only [s208_37]
            simp only [s208_38, s208_39, s208_40, s208_41, s208_42, s208_43_o87, s208_46, s208_47_o101, s208_48, s208_51, s208_52, s208_53_o87, s208_56, s208_57_o102, s208_58, s208_59_o87, s208_62, s208_63, s208_64, s208_65_o102, s208_66, s208_67_o87, s208_70, s208_71, s208_72, s208_73_o102, s208_74, s208_75_o87, s208_78, s208_79, s208_80, s208_81_o102, s208_82_o87, s208_85, s208_88, s208_89, s208_90_o87, s208_93, s208_94, s208_95, s208_96_o102, s208_97_o87, s208_100, s208_101, s208_104, s208_105, s208_106, s208_107, s208_108_o87, s208_111, s208_112_o102, s208_113, s208_114_o87, s208_117, s208_118, s208_119, s208_120_o102, s208_121, s208_122_o87, s208_125, s208_126, s208_127, s208_128_o102, s208_129, s208_130_o87, s208_133, s208_134, s208_135, s208_136_o102, s208_137_o87, s208_140, s208_142, s208_145, s208_148, e4, q1, vs, cs, f101, j1, j2, j3, y0, y1, y2, y3, z0, z1, z2, z3, m0, m1, m2, m3, m_isAsTold, b2_T ht, hh, n_5, simprocAttr, if_true, if_false, true_and, and_true, false_and, and_false, not_false_eq_true, not_true_eq_false, gd_T, kont_i, kont_v]
      · refine ⟨n, T, σ1, ?_, hH, hW, PlT.self T, by omega, fun o ho => rfl, fun τ l4 f88 f101 f102 => ?_⟩
        · have e1 := h2_layOnTop_no (d + 96) (F (4 * n)) (F (4 * n + 1)) (F (4 * n + 2)) (F (4 * n + 3)) σ1 ht
          simp only [s93_46]
          simp only [s93_48, s93_50, s93_53, s93_54_o0, s93_57, s93_58_o76, s93_59, s93_61, s93_62_o77, s93_62_o79, s93_62_o81, s93_62_o83, s93_65, s93_68, s93_69_o0, s93_72_o1, s93_75, s93_76, s93_78_o78, s93_78_o80, s93_78_o82, s93_78_o84, s93_79, s93_80, s93_82, s93_83, s93_84_o78, s93_84_o80, s93_84_o82, s93_84_o84, s93_85, s93_86, s93_88, s93_89, s93_90_o78, s93_90_o80, s93_90_o82, s93_90_o84, s93_91, s93_92, s93_94, s93_95, s93_96_o78, s93_96_o80, s93_96_o82, s93_96_o84, s93_97_o2, s93_100, s93_103, s93_104, s93_105, s93_108, s93_111, g, vs, cs, cr76_0, kst, e78, i1, i2, i3, a0, a1, a2, a3, x0, x1, x2, x3, e1, simprocAttr, if_true, if_false, true_and, and_true, false_and, and_false, not_false_eq_true, not_true_eq_false, gd_T, kont_i, kont_v]
        · have m0 := f102 (4 * n) (by omega)
          have m1 := f102 (4 * n + 1) (by omega)
          have m2 := f102 (4 * n + 2) (by omega)
          have m3 := f102 (4 * n + 3) (by omega)
          have e : rep τ 88 T = τ := by rw [← f88, rep_same]
          rw [e]
          simp only [s208_37]
          simp only [s208_38, s208_39, s208_40, s208_41, s208_42, s208_43_o87, s208_46, s208_47_o101, s208_48, s208_51, s208_52, s208_53_o87, s208_56, s208_57_o102, s208_58, s208_59_o87, s208_62, s208_63, s208_64, s208_65_o102, s208_66, s208_67_o87, s208_70, s208_71, s208_72, s208_73_o102, s208_74, s208_75_o87, s208_78, s208_79, s208_80, s208_81_o102, s208_82_o87, s208_85, s208_88, s208_89, s208_90_o87, s208_93, s208_94, s208_95, s208_96_o102, s208_97_o87, s208_100, s208_101, s208_104, s208_105, s208_106, s208_107, s208_108_o87, s208_111, s208_112_o102, s208_113, s208_114_o87, s208_117, s208_118, s208_119, s208_120_o102, s208_121, s208_122_o87, s208_125, s208_126, s208_127, s208_128_o102, s208_129, s208_130_o87, s208_133, s208_134, s208_135, s208_136_o102, s208_137_o87, s208_140, s208_142, s208_145, s208_148, e4, q1, vs, cs, f101, j1, j2, j3, y0, y1, y2, y3, z0, z1, z2, z3, m0, m1, m2, m3, m_isAsTold, b2_F ht, simprocAttr, if_true, if_false, true_and, and_true, false_and, and_false, not_false_eq_true, not_true_eq_false, gd_T, kont_i, kont_v]
    · have hst : ¬ stQ qs (nI (4 * n)) 4 := fun c => by
        obtain ⟨a, b, ea, eb, hab⟩ := (stQ_n hq).mp c
        rw [nI_eq (by omega) (by omega)] at ea
        have eb : nI 4 = nI b := eb
        rw [nI_eq (by omega) (by omega)] at eb
        omega
      rw [b2_F hst] at kst
      have q1 : (nI qs < nI (4 * n + 4)) = True := by rw [lt_nn (by omega) (by omega)]; exact eq_true (by omega)
      refine ⟨n, T, σ1, ?_, hH, hW, PlT.self T, by omega, fun o ho => rfl, fun τ l4 f88 f101 f102 => ?_⟩
      · simp only [s93_46]
        simp only [s93_48, s93_50, s93_53, s93_54_o0, s93_57, s93_58_o76, s93_59, s93_61, s93_62_o77, s93_62_o79, s93_62_o81, s93_62_o83, s93_65, s93_68, s93_69_o0, s93_72_o1, s93_75, s93_76, s93_78_o78, s93_78_o80, s93_78_o82, s93_78_o84, s93_79, s93_80, s93_82, s93_83, s93_84_o78, s93_84_o80, s93_84_o82, s93_84_o84, s93_85, s93_86, s93_88, s93_89, s93_90_o78, s93_90_o80, s93_90_o82, s93_90_o84, s93_91, s93_92, s93_94, s93_95, s93_96_o78, s93_96_o80, s93_96_o82, s93_96_o84, s93_97_o2, s93_100, s93_103, s93_104, s93_105, s93_108, s93_111, s93_114, s93_115, g, vs, cs, cr76_0, kst, simprocAttr, if_true, if_false, true_and, and_true, false_and, and_false, not_false_eq_true, not_true_eq_false, gd_T, kont_i, kont_v]
      · have e : rep τ 88 T = τ := by rw [← f88, rep_same]
        rw [e]
        simp only [s208_37]
        simp only [s208_38, s208_39, s208_40, s208_41, s208_42, s208_43_o87, s208_46, s208_47_o101, s208_48, s208_51, s208_52, s208_53_o87, s208_56, s208_57_o102, s208_58, s208_59_o87, s208_62, s208_63, s208_64, s208_65_o102, s208_66, s208_67_o87, s208_70, s208_71, s208_72, s208_73_o102, s208_74, s208_75_o87, s208_78, s208_79, s208_80, s208_81_o102, s208_82_o87, s208_85, s208_88, s208_89, s208_90_o87, s208_93, s208_94, s208_95, s208_96_o102, s208_97_o87, s208_100, s208_101, s208_104, s208_105, s208_106, s208_107, s208_108_o87, s208_111, s208_112_o102, s208_113, s208_114_o87, s208_117, s208_118, s208_119, s208_120_o102, s208_121, s208_122_o87, s208_125, s208_126, s208_127, s208_128_o102, s208_129, s208_130_o87, s208_133, s208_134, s208_135, s208_136_o102, s208_137_o87, s208_140, s208_142, s208_145, s208_148, s208_151, s208_152, e4, q1, vs, cs, f101, simprocAttr, if_true, if_false, true_and, and_true, false_and, and_false, not_false_eq_true, not_true_eq_false, gd_T, kont_i, kont_v]
theorem L_armfuls_0 {i : Nat} {σ : Hs} (h : RR i σ) (d : Nat) : Step d i 93 208 [.int (nI 0)] σ := by
  have hst : (0 ≤ nI 0 ∧ nI 0 ≤ 3) = True := eq_true (by decide +kernel)
  obtain ⟨⟨a1, a2⟩, qs, p1, p2, p3, p4⟩ := h.2.2.2.2.2.2.1 0 (by omega)
  have a1 : σ 77 1 = σ 100 0 := a1
  have p2 : σ 77 2 = nI qs := p2
  have vs : vp_in (nI 0) 4 = True := vp_nI (by omega) (by omega)
  have cs : (nI 0).toNatClampNeg = 0 := cl_nI (by omega)
  have ms := k_isMissing_0 (d + 98) σ _ a1
  have g100 : ∀ k, erC σ k 100 = σ 100 := fun k => rep_ne (by omega)
  by_cases w1 : σ 100 0 = 0
  · refine Step_err h 2 (v := -1000002) ?_ ?_
    · simp only [c93, s93_0, s93_1, s93_4, s93_7, s93_8, s93_9_o0, s93_12, s93_13, s93_14_o0, s93_17, s93_18_o76, s93_19_o77, s93_19_o79, s93_19_o81, s93_19_o83, s93_22, s93_25, s93_26, s93_27_o0, s93_30, s93_31, s93_32, s93_33, s93_34_o0, s93_37, s93_38_o76, s93_39_o77, s93_39_o79, s93_39_o81, s93_39_o83, s93_42, s93_43, s93_44, s93_48, s93_50, s93_53, s93_54_o0, s93_57, s93_58_o76, s93_59, s93_61, s93_62_o77, s93_62_o79, s93_62_o81, s93_62_o83, s93_65, s93_68, s93_69_o0, s93_72_o1, s93_75, s93_76, s93_78_o78, s93_78_o80, s93_78_o82, s93_78_o84, s93_79, s93_80, s93_82, s93_83, s93_84_o78, s93_84_o80, s93_84_o82, s93_84_o84, s93_85, s93_86, s93_88, s93_89, s93_90_o78, s93_90_o80, s93_90_o82, s93_90_o84, s93_91, s93_92, s93_94, s93_95, s93_96_o78, s93_96_o80, s93_96_o82, s93_96_o84, s93_97_o2, s93_100, s93_103, s93_104, s93_105, s93_108, s93_111, s93_114, s93_115, k_isSheet, hst, b2_t, vs, cs, cr76_0, ms, b2_T w1, k_failed_2, simprocAttr, if_true, if_false, true_and, and_true, false_and, and_false, not_false_eq_true, not_true_eq_false, gd_T, kont_i, kont_v]
    · simp only [c208, s208_0, s208_1, s208_4, s208_7, s208_8, s208_10_o87, s208_13, s208_14, s208_15_o87, s208_18, s208_19_o100, s208_20, s208_23, s208_24, s208_26_o87, s208_29, s208_30, s208_31, s208_32, s208_34, s208_35, s208_36, m_isSheet, hst, b2_t, vs, cs, g100, w1, m_fin_2, simprocAttr, if_true, if_false, true_and, and_true, false_and, and_false, not_false_eq_true, not_true_eq_false, gd_T, kont_i, kont_v]
  · obtain ⟨v, T', σ2, o1, o2, o3, o4, o5, o6, o7⟩ := k_armfuls_0 d qs p1 (σ 78) 6 0 rfl σ (σ 88) h.hr h.wi rfl p2
    have c1 : callD (d + 100) 93 [.ref 0, .int (nI 0)] σ = some (some (.int (nI v)), σ2) := by
      simp only [c93, s93_0, s93_1, s93_4, s93_7, s93_8, s93_9_o0, s93_12, s93_13, s93_14_o0, s93_17, s93_18_o76, s93_19_o77, s93_19_o79, s93_19_o81, s93_19_o83, s93_22, s93_25, s93_26, s93_27_o0, s93_30, s93_31, s93_32, s93_33, s93_34_o0, s93_37, s93_38_o76, s93_39_o77, s93_39_o79, s93_39_o81, s93_39_o83, s93_42, s93_43, s93_44, k_isSheet, hst, b2_t, vs, cs, cr76_0, ms, b2_F w1, simprocAttr, if_true, if_false, true_and, and_true, false_and, and_false, not_false_eq_true, not_true_eq_false, gd_T, kont_i, kont_v]
      exact o1
    have c2 : callD (d + 100) 208 [.ref 87, .int (nI 0)] σ2 = some (some (.int (nI v)), rep σ2 88 T') := by
      have w1' : (σ2 100 0 = 0) = False := by rw [o6 100 (by omega)]; exact eq_false w1
      have e24 : (24 : Int32) * nI 0 = nI 0 := by decide +kernel
      simp only [c208, s208_0, s208_1, s208_4, s208_7, s208_8, s208_10_o87, s208_13, s208_14, s208_15_o87, s208_18, s208_19_o100, s208_20, s208_23, s208_24, s208_26_o87, s208_29, s208_30, s208_31, s208_32, s208_34, s208_35, s208_36, m_isSheet, hst, b2_t, vs, cs, w1', e24, simprocAttr, if_true, if_false, true_and, and_true, false_and, and_false, not_false_eq_true, not_true_eq_false, gd_T, kont_i, kont_v]
      exact o7 σ2 _ (o6 88 (by omega)) ((congrFun (o6 101 (by omega)) _).trans p3) (fun k hk => (congrFun (o6 102 (by omega)) _).trans (p4 k hk).symm)
    refine ⟨_, _, _, c1, c2, h.pl (rep_self _ _ _) (o2.fr (fun o o1 o2 => rep_ne (by omega))) o3 o4 (by omega) (h.wb.two c1 c2) (fun o ho => ?_) ?_ ?_⟩
    · unfold kpO at ho
      rw [rep_ne (by omega)]
      exact o6 o (by omega)
    · rw [rep_ne (by omega), o6 87 (by omega)]
    · rw [rep_ne (by omega), o6 87 (by omega)]
theorem k_armfuls_1 (d qs : Nat) (hq : qs ≤ 24) (F : Nat → Int32) : ∀ m n, n + m = 6 → ∀ (σ1 : Hs) (T : Nat → Int32), HR 2 σ1 T → WI T → σ1 80 = F → σ1 79 2 = nI qs → ∃ v T' σ2, ru (d + 99) 93 46 [.ref 0, .int (nI 1), .int (nI n), .ref 80, .int (nI (4 * n))] [] σ1 = some (some (.int (nI v)), σ2) ∧ HR 2 σ2 T' ∧ WI T' ∧ PlT T T' ∧ sN T' 30 ≤ sN T 30 + 1000 * m ∧ (∀ o, (o < 3 ∨ 8 < o) → σ2 o = σ1 o) ∧ ∀ (τ : Hs) (l4 : Value), τ 88 = T → τ 101 1 = nI qs → (∀ k, k < 24 → τ 102 (24 + k) = F k) → ru (d + 99) 208 37 [.ref 87, .int (nI 1), .int (nI n), .int (nI (24 + 4 * n)), l4] [] τ = some (some (.int (nI v)), rep τ 88 T') := by
  have vs : vp_in (nI 1) 4 = True := vp_nI (by omega) (by omega)
  have cs : (nI 1).toNatClampNeg = 1 := cl_nI (by omega)
  intro m
  induction m with
  | zero =>
    intro n hn σ1 T hH hW e78 e77
    obtain rfl : n = 6 := by omega
    refine ⟨6, T, σ1, ?_, hH, hW, PlT.self T, by omega, fun o ho => rfl, fun τ l4 f88 f101 f102 => ?_⟩
    · have g : ((24 : Int32) ≤ nI (4 * 6)) = True := eq_true (by decide +kernel)
      simp only [s93_46]
      simp only [s93_48, s93_50, s93_53, s93_54_o0, s93_57, s93_58_o76, s93_59, s93_61, s93_62_o77, s93_62_o79, s93_62_o81, s93_62_o83, s93_65, s93_68, s93_69_o0, s93_72_o1, s93_75, s93_76, s93_78_o78, s93_78_o80, s93_78_o82, s93_78_o84, s93_79, s93_80, s93_82, s93_83, s93_84_o78, s93_84_o80, s93_84_o82, s93_84_o84, s93_85, s93_86, s93_88, s93_89, s93_90_o78, s93_90_o80, s93_90_o82, s93_90_o84, s93_91, s93_92, s93_94, s93_95, s93_96_o78, s93_96_o80, s93_96_o82, s93_96_o84, s93_97_o2, s93_100, s93_103, s93_104, s93_105, s93_108, s93_111, s93_114, s93_115, g, simprocAttr, if_true, if_false, true_and, and_true, false_and, and_false, not_false_eq_true, not_true_eq_false, gd_T, kont_i, kont_v]
    · have g : (nI qs < (4 : Int32) * nI 6 + 4) = True := by
        rw [show (4 : Int32) * nI 6 + 4 = nI 28 from by decide +kernel, lt_nn (by omega) (by omega)]
        exact eq_true (by omega)
      have e : rep τ 88 T = τ := by rw [← f88, rep_same]
      rw [e]
      simp only [s208_37]
      simp only [s208_38, s208_39, s208_40, s208_41, s208_42, s208_43_o87, s208_46, s208_47_o101, s208_48, s208_51, s208_52, s208_53_o87, s208_56, s208_57_o102, s208_58, s208_59_o87, s208_62, s208_63, s208_64, s208_65_o102, s208_66, s208_67_o87, s208_70, s208_71, s208_72, s208_73_o102, s208_74, s208_75_o87, s208_78, s208_79, s208_80, s208_81_o102, s208_82_o87, s208_85, s208_88, s208_89, s208_90_o87, s208_93, s208_94, s208_95, s208_96_o102, s208_97_o87, s208_100, s208_101, s208_104, s208_105, s208_106, s208_107, s208_108_o87, s208_111, s208_112_o102, s208_113, s208_114_o87, s208_117, s208_118, s208_119, s208_120_o102, s208_121, s208_122_o87, s208_125, s208_126, s208_127, s208_128_o102, s208_129, s208_130_o87, s208_133, s208_134, s208_135, s208_136_o102, s208_137_o87, s208_140, s208_142, s208_145, s208_148, s208_151, s208_152, vs, cs, f101, g, simprocAttr, if_true, if_false, true_and, and_true, false_and, and_false, not_false_eq_true, not_true_eq_false, gd_T, kont_i, kont_v]
  | succ m ih =>
    intro n hn σ1 T hH hW e78 e77
    have g : ((24 : Int32) ≤ nI (4 * n)) = False := by rw [show (24 : Int32) = nI 24 from rfl, le_nn (by omega) (by omega)]; exact eq_false (by omega)
    have kst := k_stand_1 (d + 98) (nI (4 * n)) 4 σ1 _ e77
    have e4 : (4 : Int32) * nI n + 4 = nI (4 * n + 4) := by rw [show (4 : Int32) = nI 4 from rfl, pk_mul, nI_add]
    by_cases hs : 4 * n + 4 ≤ qs
    · have hst : stQ qs (nI (4 * n)) 4 := (stQ_n hq).mpr ⟨4 * n, 4, rfl, rfl, hs⟩
      rw [b2_T hst] at kst
      have q1 : (nI qs < nI (4 * n + 4)) = False := by rw [lt_nn (by omega) (by omega)]; exact eq_false (by omega)
      have n1 : nI n + 1 = nI (n + 1) := nI_1 n
      have i1 : nI (4 * n) + 1 = nI (4 * n + 1) := by rw [show (1 : Int32) = nI 1 from rfl, nI_add]
      have i2 : nI (4 * n) + 2 = nI (4 * n + 2) := by rw [show (2 : Int32) = nI 2 from rfl, nI_add]
      have i3 : nI (4 * n) + 3 = nI (4 * n + 3) := by rw [show (3 : Int32) = nI 3 from rfl, nI_add]
      have j1 : nI (24 + 4 * n) + 1 = nI (24 + (4 * n + 1)) := by rw [show (1 : Int32) = nI 1 from rfl, nI_add]; rfl
      have j2 : nI (24 + 4 * n) + 2 = nI (24 + (4 * n + 2)) := by rw [show (2 : Int32) = nI 2 from rfl, nI_add]; rfl
      have j3 : nI (24 + 4 * n) + 3 = nI (24 + (4 * n + 3)) := by rw [show (3 : Int32) = nI 3 from rfl, nI_add]; rfl
      have wk := fun (y : Nat) (hy : y < 24) => vp_nI (k := y) (n := 24) hy (by omega)
      have ck := fun (y : Nat) (hy : y < 24) => cl_nI (k := y) (by omega)
      have wm := fun (y : Nat) (hy : y < 24) => vp_nI (k := 24 + y) (n := 96) (by omega) (by omega)
      have cm := fun (y : Nat) (hy : y < 24) => cl_nI (k := 24 + y) (by omega)
      have a0 := wk (4 * n) (by omega)
      have a1 := wk (4 * n + 1) (by omega)
      have a2 := wk (4 * n + 2) (by omega)
      have a3 := wk (4 * n + 3) (by omega)
      have x0 := ck (4 * n) (by omega)
      have x1 := ck (4 * n + 1) (by omega)
      have x2 := ck (4 * n + 2) (by omega)
      have x3 := ck (4 * n + 3) (by omega)
      have y0 := wm (4 * n) (by omega)
      have y1 := wm (4 * n + 1) (by omega)
      have y2 := wm (4 * n + 2) (by omega)
      have y3 := wm (4 * n + 3) (by omega)
      have z0 := cm (4 * n) (by omega)
      have z1 := cm (4 * n + 1) (by omega)
      have z2 := cm (4 * n + 2) (by omega)
      have z3 := cm (4 * n + 3) (by omega)
      by_cases ht : told4 (F (4 * n)) (F (4 * n + 1)) (F (4 * n + 2)) (F (4 * n + 3))
      · obtain ⟨k', c', s', w', r0, r1, r2, r3, lk, lc, l1, ls, lw⟩ := told_n ht
        rw [r0, r1, r2, r3] at ht
        have hle := hiT_le T c'
        by_cases h5 : hiT T c' < 5
        · obtain ⟨σ2, e1, rr, f1⟩ := h2_layOnTop (d + 96) (nI k') (nI s') (nI w') c' lc σ1 T hH hW.P ht h5
          have sn : sN (setT T (6 * hiT T c' + c') (nI k') (nI s') (nI w') 3 0 0) 30 = sN T 30 + s' := sN_set (by omega) ls (hi_not h5)
          have pl : PlT T (setT T (6 * hiT T c' + c') (nI k') (nI s') (nI w') 3 0 0) := PlT_set (by omega)
          obtain ⟨v, T', σ3, o1, o2, o3, o4, o5, o6, o7⟩ := ih (n + 1) (by omega) σ2 _ rr (hW.lay lc h5 lk l1 ls lw) ((f1 80 (by omega)).trans e78) ((congrFun (f1 79 (by omega)) 2).trans e77)
          refine ⟨v, T', σ3, ?_, o2, o3, pl.tr o4, by omega, fun o ho => (o6 o ho).trans (f1 o ho), fun τ l4 f88 f101 f102 => ?_⟩
          · have p31 : 6 * hiT T c' + c' < 2147483648 := by omega
            have p0 : (0 ≤ nI (6 * hiT T c' + c')) = True := eq_true (nI_pos' p31)
            rw [← o1]
            have e5 : nI (4 * (n + 1)) = nI (4 * n) + 4 := by rw [show (4 : Int32) = nI 4 from rfl, nI_add]; rfl
            rw [e5]
            generalize hR : ru (d + 99) 93 46 _ [] σ2 = R
            simp only [s93_46]
            simp only [s93_48, s93_50, s93_53, s93_54_o0, s93_57, s93_58_o76, s93_59, s93_61, s93_62_o77, s93_62_o79, s93_62_o81, s93_62_o83, s93_65, s93_68, s93_69_o0, s93_72_o1, s93_75, s93_76, s93_78_o78, s93_78_o80, s93_78_o82, s93_78_o84, s93_79, s93_80, s93_82, s93_83, s93_84_o78, s93_84_o80, s93_84_o82, s93_84_o84, s93_85, s93_86, s93_88, s93_89, s93_90_o78, s93_90_o80, s93_90_o82, s93_90_o84, s93_91, s93_92, s93_94, s93_95, s93_96_o78, s93_96_o80, s93_96_o82, s93_96_o84, s93_97_o2, s93_100, s93_103, s93_104, s93_105, s93_108, s93_111, g, vs, cs, cr76_1, kst, e78, i1, i2, i3, a0, a1, a2, a3, x0, x1, x2, x3, r0, r1, r2, r3, e1, p0, n1, simprocAttr, if_true, if_false, true_and, and_true, false_and, and_false, not_false_eq_true, not_true_eq_false, gd_T, kont_i, kont_v]
            exact hR
          · have m0 : τ 102 (24 + 4 * n) = nI k' := (f102 (4 * n) (by omega)).trans r0
            have m1 : τ 102 (24 + (4 * n + 1)) = nI c' := (f102 (4 * n + 1) (by omega)).trans r1
            have m2 : τ 102 (24 + (4 * n + 2)) = nI s' := (f102 (4 * n + 2) (by omega)).trans r2
            have m3 : τ 102 (24 + (4 * n + 3)) = nI w' := (f102 (4 * n + 3) (by omega)).trans r3
            have hh := m_highOf (d + 96) c' lc τ
            rw [f88] at hh
            have hl := m_lays (d + 95) c' lc (nI k') (nI s') (nI w') τ (by rw [f88]; exact h5)
            rw [f88] at hl
            have n5 : (nI (hiT T c') = 5) = False := by rw [show (5 : Int32) = nI 5 from rfl, eq_nn (by omega) (by omega)]; exact eq_false (by omega)
            have hi := o7 (rep τ 88 (setT T (6 * hiT T c' + c') (nI k') (nI s') (nI w') 3 0 0)) (.int (nI (6 * hiT T c' + c'))) (rep_self _ _ _) (by rw [rep_ne (by omega)]; exact f101) (fun k hk => by rw [rep_ne (by omega)]; exact f102 k hk)
            rw [rep_rep, show 24 + 4 * (n + 1) = 24 + 4 * n + 4 by omega, ← nI_add (24 + 4 * n) 4, show nI 4 = (4 : Int32) from rfl] at hi
            rw [← hi]
            generalize hR : ru (d + 99) 208 37 _ [] (rep τ 88 (setT T (6 * hiT T c' + c') (nI k') (nI s') (nI w') 3 0 0)) = R
            simp only [s208_37]
            simp only [s208_38, s208_39, s208_40, s208_41, s208_42, s208_43_o87, s208_46, s208_47_o101, s208_48, s208_51, s208_52, s208_53_o87, s208_56, s208_57_o102, s208_58, s208_59_o87, s208_62, s208_63, s208_64, s208_65_o102, s208_66, s208_67_o87, s208_70, s208_71, s208_72, s208_73_o102, s208_74, s208_75_o87, s208_78, s208_79, s208_80, s208_81_o102, s208_82_o87, s208_85, s208_88, s208_89, s208_90_o87, s208_93, s208_94, s208_95, s208_96_o102, s208_97_o87, s208_100, s208_101, s208_104, s208_105, s208_106, s208_107, s208_108_o87, s208_111, s208_112_o102, s208_113, s208_114_o87, s208_117, s208_118, s208_119, s208_120_o102, s208_121, s208_122_o87, s208_125, s208_126, s208_127, s208_128_o102, s208_129, s208_130_o87, s208_133, s208_134, s208_135, s208_136_o102, s208_137_o87, s208_140, s208_142, s208_145, s208_148, e4, q1, vs, cs, f101, j1, j2, j3, y0, y1, y2, y3, z0, z1, z2, z3, m0, m1, m2, m3, m_isAsTold, b2_T ht, hh, n5, hl, n1, simprocAttr, if_true, if_false, true_and, and_true, false_and, and_false, not_false_eq_true, not_true_eq_false, gd_T, kont_i, kont_v]
            exact hR
        · refine ⟨n, T, σ1, ?_, hH, hW, PlT.self T, by omega, fun o ho => rfl, fun τ l4 f88 f101 f102 => ?_⟩
          · have e1 := h2_layOnTop_full (d + 96) (nI k') (nI s') (nI w') c' lc σ1 T hH hW.P ht h5
            simp only [s93_46]
            simp only [s93_48, s93_50, s93_53, s93_54_o0, s93_57, s93_58_o76, s93_59, s93_61, s93_62_o77, s93_62_o79, s93_62_o81, s93_62_o83, s93_65, s93_68, s93_69_o0, s93_72_o1, s93_75, s93_76, s93_78_o78, s93_78_o80, s93_78_o82, s93_78_o84, s93_79, s93_80, s93_82, s93_83, s93_84_o78, s93_84_o80, s93_84_o82, s93_84_o84, s93_85, s93_86, s93_88, s93_89, s93_90_o78, s93_90_o80, s93_90_o82, s93_90_o84, s93_91, s93_92, s93_94, s93_95, s93_96_o78, s93_96_o80, s93_96_o82, s93_96_o84, s93_97_o2, s93_100, s93_103, s93_104, s93_105, s93_108, s93_111, g, vs, cs, cr76_1, kst, e78, i1, i2, i3, a0, a1, a2, a3, x0, x1, x2, x3, r0, r1, r2, r3, e1, simprocAttr, if_true, if_false, true_and, and_true, false_and, and_false, not_false_eq_true, not_true_eq_false, gd_T, kont_i, kont_v]
          · have m0 : τ 102 (24 + 4 * n) = nI k' := (f102 (4 * n) (by omega)).trans r0
            have m1 : τ 102 (24 + (4 * n + 1)) = nI c' := (f102 (4 * n + 1) (by omega)).trans r1
            have m2 : τ 102 (24 + (4 * n + 2)) = nI s' := (f102 (4 * n + 2) (by omega)).trans r2
            have m3 : τ 102 (24 + (4 * n + 3)) = nI w' := (f102 (4 * n + 3) (by omega)).trans r3
            have hh := m_highOf (d + 96) c' lc τ
            rw [f88, show hiT T c' = 5 by omega] at hh
            have e : rep τ 88 T = τ := by rw [← f88, rep_same]
            rw [e]
            simp only [s208_37]
            simp only [s208_38, s208_39, s208_40, s208_41, s208_42, s208_43_o87, s208_46, s208_47_o101, s208_48, s208_51, s208_52, s208_53_o87, s208_56, s208_57_o102, s208_58, s208_59_o87, s208_62, s208_63, s208_64, s208_65_o102, s208_66, s208_67_o87, s208_70, s208_71, s208_72, s208_73_o102, s208_74, s208_75_o87, s208_78, s208_79, s208_80, s208_81_o102, s208_82_o87, s208_85, s208_88, s208_89, s208_90_o87, s208_93, s208_94, s208_95, s208_96_o102, s208_97_o87, s208_100, s208_101, s208_104, s208_105, s208_106, s208_107, s208_108_o87, s208_111, s208_112_o102, s208_113, s208_114_o87, s208_117, s208_118, s208_119, s208_120_o102, s208_121, s208_122_o87, s208_125, s208_126, s208_127, s208_128_o102, s208_129, s208_130_o87, s208_133, s208_134, s208_135, s208_136_o102, s208_137_o87, s208_140, s208_142, s208_145, s208_148, e4, q1, vs, cs, f101, j1, j2, j3, y0, y1, y2, y3, z0, z1, z2, z3, m0, m1, m2, m3, m_isAsTold, b2_T ht, hh, n_5, simprocAttr, if_true, if_false, true_and, and_true, false_and, and_false, not_false_eq_true, not_true_eq_false, gd_T, kont_i, kont_v]
      · refine ⟨n, T, σ1, ?_, hH, hW, PlT.self T, by omega, fun o ho => rfl, fun τ l4 f88 f101 f102 => ?_⟩
        · have e1 := h2_layOnTop_no (d + 96) (F (4 * n)) (F (4 * n + 1)) (F (4 * n + 2)) (F (4 * n + 3)) σ1 ht
          simp only [s93_46]
          simp only [s93_48, s93_50, s93_53, s93_54_o0, s93_57, s93_58_o76, s93_59, s93_61, s93_62_o77, s93_62_o79, s93_62_o81, s93_62_o83, s93_65, s93_68, s93_69_o0, s93_72_o1, s93_75, s93_76, s93_78_o78, s93_78_o80, s93_78_o82, s93_78_o84, s93_79, s93_80, s93_82, s93_83, s93_84_o78, s93_84_o80, s93_84_o82, s93_84_o84, s93_85, s93_86, s93_88, s93_89, s93_90_o78, s93_90_o80, s93_90_o82, s93_90_o84, s93_91, s93_92, s93_94, s93_95, s93_96_o78, s93_96_o80, s93_96_o82, s93_96_o84, s93_97_o2, s93_100, s93_103, s93_104, s93_105, s93_108, s93_111, g, vs, cs, cr76_1, kst, e78, i1, i2, i3, a0, a1, a2, a3, x0, x1, x2, x3, e1, simprocAttr, if_true, if_false, true_and, and_true, false_and, and_false, not_false_eq_true, not_true_eq_false, gd_T, kont_i, kont_v]
        · have m0 := f102 (4 * n) (by omega)
          have m1 := f102 (4 * n + 1) (by omega)
          have m2 := f102 (4 * n + 2) (by omega)
          have m3 := f102 (4 * n + 3) (by omega)
          have e : rep τ 88 T = τ := by rw [← f88, rep_same]
          rw [e]
          simp only [s208_37]
          simp only [s208_38, s208_39, s208_40, s208_41, s208_42, s208_43_o87, s208_46, s208_47_o101, s208_48, s208_51, s208_52, s208_53_o87, s208_56, s208_57_o102, s208_58, s208_59_o87, s208_62, s208_63, s208_64, s208_65_o102, s208_66, s208_67_o87, s208_70, s208_71, s208_72, s208_73_o102, s208_74, s208_75_o87, s208_78, s208_79, s208_80, s208_81_o102, s208_82_o87, s208_85, s208_88, s208_89, s208_90_o87, s208_93, s208_94, s208_95, s208_96_o102, s208_97_o87, s208_100, s208_101, s208_104, s208_105, s208_106, s208_107, s208_108_o87, s208_111, s208_112_o102, s208_113, s208_114_o87, s208_117, s208_118, s208_119, s208_120_o102, s208_121, s208_122_o87, s208_125, s208_126, s208_127, s208_128_o102, s208_129, s208_130_o87, s208_133, s208_134, s208_135, s208_136_o102, s208_137_o87, s208_140, s208_142, s208_145, s208_148, e4, q1, vs, cs, f101, j1, j2, j3, y0, y1, y2, y3, z0, z1, z2, z3, m0, m1, m2, m3, m_isAsTold, b2_F ht, simprocAttr, if_true, if_false, true_and, and_true, false_and, and_false, not_false_eq_true, not_true_eq_false, gd_T, kont_i, kont_v]
    · have hst : ¬ stQ qs (nI (4 * n)) 4 := fun c => by
        obtain ⟨a, b, ea, eb, hab⟩ := (stQ_n hq).mp c
        rw [nI_eq (by omega) (by omega)] at ea
        have eb : nI 4 = nI b := eb
        rw [nI_eq (by omega) (by omega)] at eb
        omega
      rw [b2_F hst] at kst
      have q1 : (nI qs < nI (4 * n + 4)) = True := by rw [lt_nn (by omega) (by omega)]; exact eq_true (by omega)
      refine ⟨n, T, σ1, ?_, hH, hW, PlT.self T, by omega, fun o ho => rfl, fun τ l4 f88 f101 f102 => ?_⟩
      · simp only [s93_46]
        simp only [s93_48, s93_50, s93_53, s93_54_o0, s93_57, s93_58_o76, s93_59, s93_61, s93_62_o77, s93_62_o79, s93_62_o81, s93_62_o83, s93_65, s93_68, s93_69_o0, s93_72_o1, s93_75, s93_76, s93_78_o78, s93_78_o80, s93_78_o82, s93_78_o84, s93_79, s93_80, s93_82, s93_83, s93_84_o78, s93_84_o80, s93_84_o82, s93_84_o84, s93_85, s93_86, s93_88, s93_89, s93_90_o78, s93_90_o80, s93_90_o82, s93_90_o84, s93_91, s93_92, s93_94, s93_95, s93_96_o78, s93_96_o80, s93_96_o82, s93_96_o84, s93_97_o2, s93_100, s93_103, s93_104, s93_105, s93_108, s93_111, s93_114, s93_115, g, vs, cs, cr76_1, kst, simprocAttr, if_true, if_false, true_and, and_true, false_and, and_false, not_false_eq_true, not_true_eq_false, gd_T, kont_i, kont_v]
      · have e : rep τ 88 T = τ := by rw [← f88, rep_same]
        rw [e]
        simp only [s208_37]
        simp only [s208_38, s208_39, s208_40, s208_41, s208_42, s208_43_o87, s208_46, s208_47_o101, s208_48, s208_51, s208_52, s208_53_o87, s208_56, s208_57_o102, s208_58, s208_59_o87, s208_62, s208_63, s208_64, s208_65_o102, s208_66, s208_67_o87, s208_70, s208_71, s208_72, s208_73_o102, s208_74, s208_75_o87, s208_78, s208_79, s208_80, s208_81_o102, s208_82_o87, s208_85, s208_88, s208_89, s208_90_o87, s208_93, s208_94, s208_95, s208_96_o102, s208_97_o87, s208_100, s208_101, s208_104, s208_105, s208_106, s208_107, s208_108_o87, s208_111, s208_112_o102, s208_113, s208_114_o87, s208_117, s208_118, s208_119, s208_120_o102, s208_121, s208_122_o87, s208_125, s208_126, s208_127, s208_128_o102, s208_129, s208_130_o87, s208_133, s208_134, s208_135, s208_136_o102, s208_137_o87, s208_140, s208_142, s208_145, s208_148, s208_151, s208_152, e4, q1, vs, cs, f101, simprocAttr, if_true, if_false, true_and, and_true, false_and, and_false, not_false_eq_true, not_true_eq_false, gd_T, kont_i, kont_v]
theorem L_armfuls_1 {i : Nat} {σ : Hs} (h : RR i σ) (d : Nat) : Step d i 93 208 [.int (nI 1)] σ := by
  have hst : (0 ≤ nI 1 ∧ nI 1 ≤ 3) = True := eq_true (by decide +kernel)
  obtain ⟨⟨a1, a2⟩, qs, p1, p2, p3, p4⟩ := h.2.2.2.2.2.2.1 1 (by omega)
  have a1 : σ 79 1 = σ 100 1 := a1
  have p2 : σ 79 2 = nI qs := p2
  have vs : vp_in (nI 1) 4 = True := vp_nI (by omega) (by omega)
  have cs : (nI 1).toNatClampNeg = 1 := cl_nI (by omega)
  have ms := k_isMissing_1 (d + 98) σ _ a1
  have g100 : ∀ k, erC σ k 100 = σ 100 := fun k => rep_ne (by omega)
  by_cases w1 : σ 100 1 = 0
  · refine Step_err h 2 (v := -1000002) ?_ ?_
    · simp only [c93, s93_0, s93_1, s93_4, s93_7, s93_8, s93_9_o0, s93_12, s93_13, s93_14_o0, s93_17, s93_18_o76, s93_19_o77, s93_19_o79, s93_19_o81, s93_19_o83, s93_22, s93_25, s93_26, s93_27_o0, s93_30, s93_31, s93_32, s93_33, s93_34_o0, s93_37, s93_38_o76, s93_39_o77, s93_39_o79, s93_39_o81, s93_39_o83, s93_42, s93_43, s93_44, s93_48, s93_50, s93_53, s93_54_o0, s93_57, s93_58_o76, s93_59, s93_61, s93_62_o77, s93_62_o79, s93_62_o81, s93_62_o83, s93_65, s93_68, s93_69_o0, s93_72_o1, s93_75, s93_76, s93_78_o78, s93_78_o80, s93_78_o82, s93_78_o84, s93_79, s93_80, s93_82, s93_83, s93_84_o78, s93_84_o80, s93_84_o82, s93_84_o84, s93_85, s93_86, s93_88, s93_89, s93_90_o78, s93_90_o80, s93_90_o82, s93_90_o84, s93_91, s93_92, s93_94, s93_95, s93_96_o78, s93_96_o80, s93_96_o82, s93_96_o84, s93_97_o2, s93_100, s93_103, s93_104, s93_105, s93_108, s93_111, s93_114, s93_115, k_isSheet, hst, b2_t, vs, cs, cr76_1, ms, b2_T w1, k_failed_2, simprocAttr, if_true, if_false, true_and, and_true, false_and, and_false, not_false_eq_true, not_true_eq_false, gd_T, kont_i, kont_v]
    · simp only [c208, s208_0, s208_1, s208_4, s208_7, s208_8, s208_10_o87, s208_13, s208_14, s208_15_o87, s208_18, s208_19_o100, s208_20, s208_23, s208_24, s208_26_o87, s208_29, s208_30, s208_31, s208_32, s208_34, s208_35, s208_36, m_isSheet, hst, b2_t, vs, cs, g100, w1, m_fin_2, simprocAttr, if_true, if_false, true_and, and_true, false_and, and_false, not_false_eq_true, not_true_eq_false, gd_T, kont_i, kont_v]
  · obtain ⟨v, T', σ2, o1, o2, o3, o4, o5, o6, o7⟩ := k_armfuls_1 d qs p1 (σ 80) 6 0 rfl σ (σ 88) h.hr h.wi rfl p2
    have c1 : callD (d + 100) 93 [.ref 0, .int (nI 1)] σ = some (some (.int (nI v)), σ2) := by
      simp only [c93, s93_0, s93_1, s93_4, s93_7, s93_8, s93_9_o0, s93_12, s93_13, s93_14_o0, s93_17, s93_18_o76, s93_19_o77, s93_19_o79, s93_19_o81, s93_19_o83, s93_22, s93_25, s93_26, s93_27_o0, s93_30, s93_31, s93_32, s93_33, s93_34_o0, s93_37, s93_38_o76, s93_39_o77, s93_39_o79, s93_39_o81, s93_39_o83, s93_42, s93_43, s93_44, k_isSheet, hst, b2_t, vs, cs, cr76_1, ms, b2_F w1, simprocAttr, if_true, if_false, true_and, and_true, false_and, and_false, not_false_eq_true, not_true_eq_false, gd_T, kont_i, kont_v]
      exact o1
    have c2 : callD (d + 100) 208 [.ref 87, .int (nI 1)] σ2 = some (some (.int (nI v)), rep σ2 88 T') := by
      have w1' : (σ2 100 1 = 0) = False := by rw [o6 100 (by omega)]; exact eq_false w1
      have e24 : (24 : Int32) * nI 1 = nI 24 := by decide +kernel
      simp only [c208, s208_0, s208_1, s208_4, s208_7, s208_8, s208_10_o87, s208_13, s208_14, s208_15_o87, s208_18, s208_19_o100, s208_20, s208_23, s208_24, s208_26_o87, s208_29, s208_30, s208_31, s208_32, s208_34, s208_35, s208_36, m_isSheet, hst, b2_t, vs, cs, w1', e24, simprocAttr, if_true, if_false, true_and, and_true, false_and, and_false, not_false_eq_true, not_true_eq_false, gd_T, kont_i, kont_v]
      exact o7 σ2 _ (o6 88 (by omega)) ((congrFun (o6 101 (by omega)) _).trans p3) (fun k hk => (congrFun (o6 102 (by omega)) _).trans (p4 k hk).symm)
    refine ⟨_, _, _, c1, c2, h.pl (rep_self _ _ _) (o2.fr (fun o o1 o2 => rep_ne (by omega))) o3 o4 (by omega) (h.wb.two c1 c2) (fun o ho => ?_) ?_ ?_⟩
    · unfold kpO at ho
      rw [rep_ne (by omega)]
      exact o6 o (by omega)
    · rw [rep_ne (by omega), o6 87 (by omega)]
    · rw [rep_ne (by omega), o6 87 (by omega)]
theorem k_armfuls_2 (d qs : Nat) (hq : qs ≤ 24) (F : Nat → Int32) : ∀ m n, n + m = 6 → ∀ (σ1 : Hs) (T : Nat → Int32), HR 2 σ1 T → WI T → σ1 82 = F → σ1 81 2 = nI qs → ∃ v T' σ2, ru (d + 99) 93 46 [.ref 0, .int (nI 2), .int (nI n), .ref 82, .int (nI (4 * n))] [] σ1 = some (some (.int (nI v)), σ2) ∧ HR 2 σ2 T' ∧ WI T' ∧ PlT T T' ∧ sN T' 30 ≤ sN T 30 + 1000 * m ∧ (∀ o, (o < 3 ∨ 8 < o) → σ2 o = σ1 o) ∧ ∀ (τ : Hs) (l4 : Value), τ 88 = T → τ 101 2 = nI qs → (∀ k, k < 24 → τ 102 (48 + k) = F k) → ru (d + 99) 208 37 [.ref 87, .int (nI 2), .int (nI n), .int (nI (48 + 4 * n)), l4] [] τ = some (some (.int (nI v)), rep τ 88 T') := by
  have vs : vp_in (nI 2) 4 = True := vp_nI (by omega) (by omega)
  have cs : (nI 2).toNatClampNeg = 2 := cl_nI (by omega)
  intro m
  induction m with
  | zero =>
    intro n hn σ1 T hH hW e78 e77
    obtain rfl : n = 6 := by omega
    refine ⟨6, T, σ1, ?_, hH, hW, PlT.self T, by omega, fun o ho => rfl, fun τ l4 f88 f101 f102 => ?_⟩
    · have g : ((24 : Int32) ≤ nI (4 * 6)) = True := eq_true (by decide +kernel)
      simp only [s93_46]
      simp only [s93_48, s93_50, s93_53, s93_54_o0, s93_57, s93_58_o76, s93_59, s93_61, s93_62_o77, s93_62_o79, s93_62_o81, s93_62_o83, s93_65, s93_68, s93_69_o0, s93_72_o1, s93_75, s93_76, s93_78_o78, s93_78_o80, s93_78_o82, s93_78_o84, s93_79, s93_80, s93_82, s93_83, s93_84_o78, s93_84_o80, s93_84_o82, s93_84_o84, s93_85, s93_86, s93_88, s93_89, s93_90_o78, s93_90_o80, s93_90_o82, s93_90_o84, s93_91, s93_92, s93_94, s93_95, s93_96_o78, s93_96_o80, s93_96_o82, s93_96_o84, s93_97_o2, s93_100, s93_103, s93_104, s93_105, s93_108, s93_111, s93_114, s93_115, g, simprocAttr, if_true, if_false, true_and, and_true, false_and, and_false, not_false_eq_true, not_true_eq_false, gd_T, kont_i, kont_v]
    · have g : (nI qs < (4 : Int32) * nI 6 + 4) = True := by
        rw [show (4 : Int32) * nI 6 + 4 = nI 28 from by decide +kernel, lt_nn (by omega) (by omega)]
        exact eq_true (by omega)
      have e : rep τ 88 T = τ := by rw [← f88, rep_same]
      rw [e]
      simp only [s208_37]
      simp only [s208_38, s208_39, s208_40, s208_41, s208_42, s208_43_o87, s208_46, s208_47_o101, s208_48, s208_51, s208_52, s208_53_o87, s208_56, s208_57_o102, s208_58, s208_59_o87, s208_62, s208_63, s208_64, s208_65_o102, s208_66, s208_67_o87, s208_70, s208_71, s208_72, s208_73_o102, s208_74, s208_75_o87, s208_78, s208_79, s208_80, s208_81_o102, s208_82_o87, s208_85, s208_88, s208_89, s208_90_o87, s208_93, s208_94, s208_95, s208_96_o102, s208_97_o87, s208_100, s208_101, s208_104, s208_105, s208_106, s208_107, s208_108_o87, s208_111, s208_112_o102, s208_113, s208_114_o87, s208_117, s208_118, s208_119, s208_120_o102, s208_121, s208_122_o87, s208_125, s208_126, s208_127, s208_128_o102, s208_129, s208_130_o87, s208_133, s208_134, s208_135, s208_136_o102, s208_137_o87, s208_140, s208_142, s208_145, s208_148, s208_151, s208_152, vs, cs, f101, g, simprocAttr, if_true, if_false, true_and, and_true, false_and, and_false, not_false_eq_true, not_true_eq_false, gd_T, kont_i, kont_v]
  | succ m ih =>
    intro n hn σ1 T hH hW e78 e77
    have g : ((24 : Int32) ≤ nI (4 * n)) = False := by rw [show (24 : Int32) = nI 24 from rfl, le_nn (by omega) (by omega)]; exact eq_false (by omega)
    have kst := k_stand_2 (d + 98) (nI (4 * n)) 4 σ1 _ e77
    have e4 : (4 : Int32) * nI n + 4 = nI (4 * n + 4) := by rw [show (4 : Int32) = nI 4 from rfl, pk_mul, nI_add]
    by_cases hs : 4 * n + 4 ≤ qs
    · have hst : stQ qs (nI (4 * n)) 4 := (stQ_n hq).mpr ⟨4 * n, 4, rfl, rfl, hs⟩
      rw [b2_T hst] at kst
      have q1 : (nI qs < nI (4 * n + 4)) = False := by rw [lt_nn (by omega) (by omega)]; exact eq_false (by omega)
      have n1 : nI n + 1 = nI (n + 1) := nI_1 n
      have i1 : nI (4 * n) + 1 = nI (4 * n + 1) := by rw [show (1 : Int32) = nI 1 from rfl, nI_add]
      have i2 : nI (4 * n) + 2 = nI (4 * n + 2) := by rw [show (2 : Int32) = nI 2 from rfl, nI_add]
      have i3 : nI (4 * n) + 3 = nI (4 * n + 3) := by rw [show (3 : Int32) = nI 3 from rfl, nI_add]
      have j1 : nI (48 + 4 * n) + 1 = nI (48 + (4 * n + 1)) := by rw [show (1 : Int32) = nI 1 from rfl, nI_add]; rfl
      have j2 : nI (48 + 4 * n) + 2 = nI (48 + (4 * n + 2)) := by rw [show (2 : Int32) = nI 2 from rfl, nI_add]; rfl
      have j3 : nI (48 + 4 * n) + 3 = nI (48 + (4 * n + 3)) := by rw [show (3 : Int32) = nI 3 from rfl, nI_add]; rfl
      have wk := fun (y : Nat) (hy : y < 24) => vp_nI (k := y) (n := 24) hy (by omega)
      have ck := fun (y : Nat) (hy : y < 24) => cl_nI (k := y) (by omega)
      have wm := fun (y : Nat) (hy : y < 24) => vp_nI (k := 48 + y) (n := 96) (by omega) (by omega)
      have cm := fun (y : Nat) (hy : y < 24) => cl_nI (k := 48 + y) (by omega)
      have a0 := wk (4 * n) (by omega)
      have a1 := wk (4 * n + 1) (by omega)
      have a2 := wk (4 * n + 2) (by omega)
      have a3 := wk (4 * n + 3) (by omega)
      have x0 := ck (4 * n) (by omega)
      have x1 := ck (4 * n + 1) (by omega)
      have x2 := ck (4 * n + 2) (by omega)
      have x3 := ck (4 * n + 3) (by omega)
      have y0 := wm (4 * n) (by omega)
      have y1 := wm (4 * n + 1) (by omega)
      have y2 := wm (4 * n + 2) (by omega)
      have y3 := wm (4 * n + 3) (by omega)
      have z0 := cm (4 * n) (by omega)
      have z1 := cm (4 * n + 1) (by omega)
      have z2 := cm (4 * n + 2) (by omega)
      have z3 := cm (4 * n + 3) (by omega)
      by_cases ht : told4 (F (4 * n)) (F (4 * n + 1)) (F (4 * n + 2)) (F (4 * n + 3))
      · obtain ⟨k', c', s', w', r0, r1, r2, r3, lk, lc, l1, ls, lw⟩ := told_n ht
        rw [r0, r1, r2, r3] at ht
        have hle := hiT_le T c'
        by_cases h5 : hiT T c' < 5
        · obtain ⟨σ2, e1, rr, f1⟩ := h2_layOnTop (d + 96) (nI k') (nI s') (nI w') c' lc σ1 T hH hW.P ht h5
          have sn : sN (setT T (6 * hiT T c' + c') (nI k') (nI s') (nI w') 3 0 0) 30 = sN T 30 + s' := sN_set (by omega) ls (hi_not h5)
          have pl : PlT T (setT T (6 * hiT T c' + c') (nI k') (nI s') (nI w') 3 0 0) := PlT_set (by omega)
          obtain ⟨v, T', σ3, o1, o2, o3, o4, o5, o6, o7⟩ := ih (n + 1) (by omega) σ2 _ rr (hW.lay lc h5 lk l1 ls lw) ((f1 82 (by omega)).trans e78) ((congrFun (f1 81 (by omega)) 2).trans e77)
          refine ⟨v, T', σ3, ?_, o2, o3, pl.tr o4, by omega, fun o ho => (o6 o ho).trans (f1 o ho), fun τ l4 f88 f101 f102 => ?_⟩
          · have p31 : 6 * hiT T c' + c' < 2147483648 := by omega
            have p0 : (0 ≤ nI (6 * hiT T c' + c')) = True := eq_true (nI_pos' p31)
            rw [← o1]
            have e5 : nI (4 * (n + 1)) = nI (4 * n) + 4 := by rw [show (4 : Int32) = nI 4 from rfl, nI_add]; rfl
            rw [e5]
            generalize hR : ru (d + 99) 93 46 _ [] σ2 = R
            simp only [s93_46]
            simp only [s93_48, s93_50, s93_53, s93_54_o0, s93_57, s93_58_o76, s93_59, s93_61, s93_62_o77, s93_62_o79, s93_62_o81, s93_62_o83, s93_65, s93_68, s93_69_o0, s93_72_o1, s93_75, s93_76, s93_78_o78, s93_78_o80, s93_78_o82, s93_78_o84, s93_79, s93_80, s93_82, s93_83, s93_84_o78, s93_84_o80, s93_84_o82, s93_84_o84, s93_85, s93_86, s93_88, s93_89, s93_90_o78, s93_90_o80, s93_90_o82, s93_90_o84, s93_91, s93_92, s93_94, s93_95, s93_96_o78, s93_96_o80, s93_96_o82, s93_96_o84, s93_97_o2, s93_100, s93_103, s93_104, s93_105, s93_108, s93_111, g, vs, cs, cr76_2, kst, e78, i1, i2, i3, a0, a1, a2, a3, x0, x1, x2, x3, r0, r1, r2, r3, e1, p0, n1, simprocAttr, if_true, if_false, true_and, and_true, false_and, and_false, not_false_eq_true, not_true_eq_false, gd_T, kont_i, kont_v]
            exact hR
          · have m0 : τ 102 (48 + 4 * n) = nI k' := (f102 (4 * n) (by omega)).trans r0
            have m1 : τ 102 (48 + (4 * n + 1)) = nI c' := (f102 (4 * n + 1) (by omega)).trans r1
            have m2 : τ 102 (48 + (4 * n + 2)) = nI s' := (f102 (4 * n + 2) (by omega)).trans r2
            have m3 : τ 102 (48 + (4 * n + 3)) = nI w' := (f102 (4 * n + 3) (by omega)).trans r3
            have hh := m_highOf (d + 96) c' lc τ
            rw [f88] at hh
            have hl := m_lays (d + 95) c' lc (nI k') (nI s') (nI w') τ (by rw [f88]; exact h5)
            rw [f88] at hl
            have n5 : (nI (hiT T c') = 5) = False := by rw [show (5 : Int32) = nI 5 from rfl, eq_nn (by omega) (by omega)]; exact eq_false (by omega)
            have hi := o7 (rep τ 88 (setT T (6 * hiT T c' + c') (nI k') (nI s') (nI w') 3 0 0)) (.int (nI (6 * hiT T c' + c'))) (rep_self _ _ _) (by rw [rep_ne (by omega)]; exact f101) (fun k hk => by rw [rep_ne (by omega)]; exact f102 k hk)
            rw [rep_rep, show 48 + 4 * (n + 1) = 48 + 4 * n + 4 by omega, ← nI_add (48 + 4 * n) 4, show nI 4 = (4 : Int32) from rfl] at hi
            rw [← hi]
            generalize hR : ru (d + 99) 208 37 _ [] (rep τ 88 (setT T (6 * hiT T c' + c') (nI k') (nI s') (nI w') 3 0 0)) = R
            simp only [s208_37]
            simp only [s208_38, s208_39, s208_40, s208_41, s208_42, s208_43_o87, s208_46, s208_47_o101, s208_48, s208_51, s208_52, s208_53_o87, s208_56, s208_57_o102, s208_58, s208_59_o87, s208_62, s208_63, s208_64, s208_65_o102, s208_66, s208_67_o87, s208_70, s208_71, s208_72, s208_73_o102, s208_74, s208_75_o87, s208_78, s208_79, s208_80, s208_81_o102, s208_82_o87, s208_85, s208_88, s208_89, s208_90_o87, s208_93, s208_94, s208_95, s208_96_o102, s208_97_o87, s208_100, s208_101, s208_104, s208_105, s208_106, s208_107, s208_108_o87, s208_111, s208_112_o102, s208_113, s208_114_o87, s208_117, s208_118, s208_119, s208_120_o102, s208_121, s208_122_o87, s208_125, s208_126, s208_127, s208_128_o102, s208_129, s208_130_o87, s208_133, s208_134, s208_135, s208_136_o102, s208_137_o87, s208_140, s208_142, s208_145, s208_148, e4, q1, vs, cs, f101, j1, j2, j3, y0, y1, y2, y3, z0, z1, z2, z3, m0, m1, m2, m3, m_isAsTold, b2_T ht, hh, n5, hl, n1, simprocAttr, if_true, if_false, true_and, and_true, false_and, and_false, not_false_eq_true, not_true_eq_false, gd_T, kont_i, kont_v]
            exact hR
        · refine ⟨n, T, σ1, ?_, hH, hW, PlT.self T, by omega, fun o ho => rfl, fun τ l4 f88 f101 f102 => ?_⟩
          · have e1 := h2_layOnTop_full (d + 96) (nI k') (nI s') (nI w') c' lc σ1 T hH hW.P ht h5
            simp only [s93_46]
            simp only [s93_48, s93_50, s93_53, s93_54_o0, s93_57, s93_58_o76, s93_59, s93_61, s93_62_o77, s93_62_o79, s93_62_o81, s93_62_o83, s93_65, s93_68, s93_69_o0, s93_72_o1, s93_75, s93_76, s93_78_o78, s93_78_o80, s93_78_o82, s93_78_o84, s93_79, s93_80, s93_82, s93_83, s93_84_o78, s93_84_o80, s93_84_o82, s93_84_o84, s93_85, s93_86, s93_88, s93_89, s93_90_o78, s93_90_o80, s93_90_o82, s93_90_o84, s93_91, s93_92, s93_94, s93_95, s93_96_o78, s93_96_o80, s93_96_o82, s93_96_o84, s93_97_o2, s93_100, s93_103, s93_104, s93_105, s93_108, s93_111, g, vs, cs, cr76_2, kst, e78, i1, i2, i3, a0, a1, a2, a3, x0, x1, x2, x3, r0, r1, r2, r3, e1, simprocAttr, if_true, if_false, true_and, and_true, false_and, and_false, not_false_eq_true, not_true_eq_false, gd_T, kont_i, kont_v]
          · have m0 : τ 102 (48 + 4 * n) = nI k' := (f102 (4 * n) (by omega)).trans r0
            have m1 : τ 102 (48 + (4 * n + 1)) = nI c' := (f102 (4 * n + 1) (by omega)).trans r1
            have m2 : τ 102 (48 + (4 * n + 2)) = nI s' := (f102 (4 * n + 2) (by omega)).trans r2
            have m3 : τ 102 (48 + (4 * n + 3)) = nI w' := (f102 (4 * n + 3) (by omega)).trans r3
            have hh := m_highOf (d + 96) c' lc τ
            rw [f88, show hiT T c' = 5 by omega] at hh
            have e : rep τ 88 T = τ := by rw [← f88, rep_same]
            rw [e]
            simp only [s208_37]
            simp only [s208_38, s208_39, s208_40, s208_41, s208_42, s208_43_o87, s208_46, s208_47_o101, s208_48, s208_51, s208_52, s208_53_o87, s208_56, s208_57_o102, s208_58, s208_59_o87, s208_62, s208_63, s208_64, s208_65_o102, s208_66, s208_67_o87, s208_70, s208_71, s208_72, s208_73_o102, s208_74, s208_75_o87, s208_78, s208_79, s208_80, s208_81_o102, s208_82_o87, s208_85, s208_88, s208_89, s208_90_o87, s208_93, s208_94, s208_95, s208_96_o102, s208_97_o87, s208_100, s208_101, s208_104, s208_105, s208_106, s208_107, s208_108_o87, s208_111, s208_112_o102, s208_113, s208_114_o87, s208_117, s208_118, s208_119, s208_120_o102, s208_121, s208_122_o87, s208_125, s208_126, s208_127, s208_128_o102, s208_129, s208_130_o87, s208_133, s208_134, s208_135, s208_136_o102, s208_137_o87, s208_140, s208_142, s208_145, s208_148, e4, q1, vs, cs, f101, j1, j2, j3, y0, y1, y2, y3, z0, z1, z2, z3, m0, m1, m2, m3, m_isAsTold, b2_T ht, hh, n_5, simprocAttr, if_true, if_false, true_and, and_true, false_and, and_false, not_false_eq_true, not_true_eq_false, gd_T, kont_i, kont_v]
      · refine ⟨n, T, σ1, ?_, hH, hW, PlT.self T, by omega, fun o ho => rfl, fun τ l4 f88 f101 f102 => ?_⟩
        · have e1 := h2_layOnTop_no (d + 96) (F (4 * n)) (F (4 * n + 1)) (F (4 * n + 2)) (F (4 * n + 3)) σ1 ht
          simp only [s93_46]
          simp only [s93_48, s93_50, s93_53, s93_54_o0, s93_57, s93_58_o76, s93_59, s93_61, s93_62_o77, s93_62_o79, s93_62_o81, s93_62_o83, s93_65, s93_68, s93_69_o0, s93_72_o1, s93_75, s93_76, s93_78_o78, s93_78_o80, s93_78_o82, s93_78_o84, s93_79, s93_80, s93_82, s93_83, s93_84_o78, s93_84_o80, s93_84_o82, s93_84_o84, s93_85, s93_86, s93_88, s93_89, s93_90_o78, s93_90_o80, s93_90_o82, s93_90_o84, s93_91, s93_92, s93_94, s93_95, s93_96_o78, s93_96_o80, s93_96_o82, s93_96_o84, s93_97_o2, s93_100, s93_103, s93_104, s93_105, s93_108, s93_111, g, vs, cs, cr76_2, kst, e78, i1, i2, i3, a0, a1, a2, a3, x0, x1, x2, x3, e1, simprocAttr, if_true, if_false, true_and, and_true, false_and, and_false, not_false_eq_true, not_true_eq_false, gd_T, kont_i, kont_v]
        · have m0 := f102 (4 * n) (by omega)
          have m1 := f102 (4 * n + 1) (by omega)
          have m2 := f102 (4 * n + 2) (by omega)
          have m3 := f102 (4 * n + 3) (by omega)
          have e : rep τ 88 T = τ := by rw [← f88, rep_same]
          rw [e]
          simp only [s208_37]
          simp only [s208_38, s208_39, s208_40, s208_41, s208_42, s208_43_o87, s208_46, s208_47_o101, s208_48, s208_51, s208_52, s208_53_o87, s208_56, s208_57_o102, s208_58, s208_59_o87, s208_62, s208_63, s208_64, s208_65_o102, s208_66, s208_67_o87, s208_70, s208_71, s208_72, s208_73_o102, s208_74, s208_75_o87, s208_78, s208_79, s208_80, s208_81_o102, s208_82_o87, s208_85, s208_88, s208_89, s208_90_o87, s208_93, s208_94, s208_95, s208_96_o102, s208_97_o87, s208_100, s208_101, s208_104, s208_105, s208_106, s208_107, s208_108_o87, s208_111, s208_112_o102, s208_113, s208_114_o87, s208_117, s208_118, s208_119, s208_120_o102, s208_121, s208_122_o87, s208_125, s208_126, s208_127, s208_128_o102, s208_129, s208_130_o87, s208_133, s208_134, s208_135, s208_136_o102, s208_137_o87, s208_140, s208_142, s208_145, s208_148, e4, q1, vs, cs, f101, j1, j2, j3, y0, y1, y2, y3, z0, z1, z2, z3, m0, m1, m2, m3, m_isAsTold, b2_F ht, simprocAttr, if_true, if_false, true_and, and_true, false_and, and_false, not_false_eq_true, not_true_eq_false, gd_T, kont_i, kont_v]
    · have hst : ¬ stQ qs (nI (4 * n)) 4 := fun c => by
        obtain ⟨a, b, ea, eb, hab⟩ := (stQ_n hq).mp c
        rw [nI_eq (by omega) (by omega)] at ea
        have eb : nI 4 = nI b := eb
        rw [nI_eq (by omega) (by omega)] at eb
        omega
      rw [b2_F hst] at kst
      have q1 : (nI qs < nI (4 * n + 4)) = True := by rw [lt_nn (by omega) (by omega)]; exact eq_true (by omega)
      refine ⟨n, T, σ1, ?_, hH, hW, PlT.self T, by omega, fun o ho => rfl, fun τ l4 f88 f101 f102 => ?_⟩
      · simp only [s93_46]
        simp only [s93_48, s93_50, s93_53, s93_54_o0, s93_57, s93_58_o76, s93_59, s93_61, s93_62_o77, s93_62_o79, s93_62_o81, s93_62_o83, s93_65, s93_68, s93_69_o0, s93_72_o1, s93_75, s93_76, s93_78_o78, s93_78_o80, s93_78_o82, s93_78_o84, s93_79, s93_80, s93_82, s93_83, s93_84_o78, s93_84_o80, s93_84_o82, s93_84_o84, s93_85, s93_86, s93_88, s93_89, s93_90_o78, s93_90_o80, s93_90_o82, s93_90_o84, s93_91, s93_92, s93_94, s93_95, s93_96_o78, s93_96_o80, s93_96_o82, s93_96_o84, s93_97_o2, s93_100, s93_103, s93_104, s93_105, s93_108, s93_111, s93_114, s93_115, g, vs, cs, cr76_2, kst, simprocAttr, if_true, if_false, true_and, and_true, false_and, and_false, not_false_eq_true, not_true_eq_false, gd_T, kont_i, kont_v]
      · have e : rep τ 88 T = τ := by rw [← f88, rep_same]
        rw [e]
        simp only [s208_37]
        simp only [s208_38, s208_39, s208_40, s208_41, s208_42, s208_43_o87, s208_46, s208_47_o101, s208_48, s208_51, s208_52, s208_53_o87, s208_56, s208_57_o102, s208_58, s208_59_o87, s208_62, s208_63, s208_64, s208_65_o102, s208_66, s208_67_o87, s208_70, s208_71, s208_72, s208_73_o102, s208_74, s208_75_o87, s208_78, s208_79, s208_80, s208_81_o102, s208_82_o87, s208_85, s208_88, s208_89, s208_90_o87, s208_93, s208_94, s208_95, s208_96_o102, s208_97_o87, s208_100, s208_101, s208_104, s208_105, s208_106, s208_107, s208_108_o87, s208_111, s208_112_o102, s208_113, s208_114_o87, s208_117, s208_118, s208_119, s208_120_o102, s208_121, s208_122_o87, s208_125, s208_126, s208_127, s208_128_o102, s208_129, s208_130_o87, s208_133, s208_134, s208_135, s208_136_o102, s208_137_o87, s208_140, s208_142, s208_145, s208_148, s208_151, s208_152, e4, q1, vs, cs, f101, simprocAttr, if_true, if_false, true_and, and_true, false_and, and_false, not_false_eq_true, not_true_eq_false, gd_T, kont_i, kont_v]
theorem L_armfuls_2 {i : Nat} {σ : Hs} (h : RR i σ) (d : Nat) : Step d i 93 208 [.int (nI 2)] σ := by
  have hst : (0 ≤ nI 2 ∧ nI 2 ≤ 3) = True := eq_true (by decide +kernel)
  obtain ⟨⟨a1, a2⟩, qs, p1, p2, p3, p4⟩ := h.2.2.2.2.2.2.1 2 (by omega)
  have a1 : σ 81 1 = σ 100 2 := a1
  have p2 : σ 81 2 = nI qs := p2
  have vs : vp_in (nI 2) 4 = True := vp_nI (by omega) (by omega)
  have cs : (nI 2).toNatClampNeg = 2 := cl_nI (by omega)
  have ms := k_isMissing_2 (d + 98) σ _ a1
  have g100 : ∀ k, erC σ k 100 = σ 100 := fun k => rep_ne (by omega)
  by_cases w1 : σ 100 2 = 0
  · refine Step_err h 2 (v := -1000002) ?_ ?_
    · simp only [c93, s93_0, s93_1, s93_4, s93_7, s93_8, s93_9_o0, s93_12, s93_13, s93_14_o0, s93_17, s93_18_o76, s93_19_o77, s93_19_o79, s93_19_o81, s93_19_o83, s93_22, s93_25, s93_26, s93_27_o0, s93_30, s93_31, s93_32, s93_33, s93_34_o0, s93_37, s93_38_o76, s93_39_o77, s93_39_o79, s93_39_o81, s93_39_o83, s93_42, s93_43, s93_44, s93_48, s93_50, s93_53, s93_54_o0, s93_57, s93_58_o76, s93_59, s93_61, s93_62_o77, s93_62_o79, s93_62_o81, s93_62_o83, s93_65, s93_68, s93_69_o0, s93_72_o1, s93_75, s93_76, s93_78_o78, s93_78_o80, s93_78_o82, s93_78_o84, s93_79, s93_80, s93_82, s93_83, s93_84_o78, s93_84_o80, s93_84_o82, s93_84_o84, s93_85, s93_86, s93_88, s93_89, s93_90_o78, s93_90_o80, s93_90_o82, s93_90_o84, s93_91, s93_92, s93_94, s93_95, s93_96_o78, s93_96_o80, s93_96_o82, s93_96_o84, s93_97_o2, s93_100, s93_103, s93_104, s93_105, s93_108, s93_111, s93_114, s93_115, k_isSheet, hst, b2_t, vs, cs, cr76_2, ms, b2_T w1, k_failed_2, simprocAttr, if_true, if_false, true_and, and_true, false_and, and_false, not_false_eq_true, not_true_eq_false, gd_T, kont_i, kont_v]
    · simp only [c208, s208_0, s208_1, s208_4, s208_7, s208_8, s208_10_o87, s208_13, s208_14, s208_15_o87, s208_18, s208_19_o100, s208_20, s208_23, s208_24, s208_26_o87, s208_29, s208_30, s208_31, s208_32, s208_34, s208_35, s208_36, m_isSheet, hst, b2_t, vs, cs, g100, w1, m_fin_2, simprocAttr, if_true, if_false, true_and, and_true, false_and, and_false, not_false_eq_true, not_true_eq_false, gd_T, kont_i, kont_v]
  · obtain ⟨v, T', σ2, o1, o2, o3, o4, o5, o6, o7⟩ := k_armfuls_2 d qs p1 (σ 82) 6 0 rfl σ (σ 88) h.hr h.wi rfl p2
    have c1 : callD (d + 100) 93 [.ref 0, .int (nI 2)] σ = some (some (.int (nI v)), σ2) := by
      simp only [c93, s93_0, s93_1, s93_4, s93_7, s93_8, s93_9_o0, s93_12, s93_13, s93_14_o0, s93_17, s93_18_o76, s93_19_o77, s93_19_o79, s93_19_o81, s93_19_o83, s93_22, s93_25, s93_26, s93_27_o0, s93_30, s93_31, s93_32, s93_33, s93_34_o0, s93_37, s93_38_o76, s93_39_o77, s93_39_o79, s93_39_o81, s93_39_o83, s93_42, s93_43, s93_44, k_isSheet, hst, b2_t, vs, cs, cr76_2, ms, b2_F w1, simprocAttr, if_true, if_false, true_and, and_true, false_and, and_false, not_false_eq_true, not_true_eq_false, gd_T, kont_i, kont_v]
      exact o1
    have c2 : callD (d + 100) 208 [.ref 87, .int (nI 2)] σ2 = some (some (.int (nI v)), rep σ2 88 T') := by
      have w1' : (σ2 100 2 = 0) = False := by rw [o6 100 (by omega)]; exact eq_false w1
      have e24 : (24 : Int32) * nI 2 = nI 48 := by decide +kernel
      simp only [c208, s208_0, s208_1, s208_4, s208_7, s208_8, s208_10_o87, s208_13, s208_14, s208_15_o87, s208_18, s208_19_o100, s208_20, s208_23, s208_24, s208_26_o87, s208_29, s208_30, s208_31, s208_32, s208_34, s208_35, s208_36, m_isSheet, hst, b2_t, vs, cs, w1', e24, simprocAttr, if_true, if_false, true_and, and_true, false_and, and_false, not_false_eq_true, not_true_eq_false, gd_T, kont_i, kont_v]
      exact o7 σ2 _ (o6 88 (by omega)) ((congrFun (o6 101 (by omega)) _).trans p3) (fun k hk => (congrFun (o6 102 (by omega)) _).trans (p4 k hk).symm)
    refine ⟨_, _, _, c1, c2, h.pl (rep_self _ _ _) (o2.fr (fun o o1 o2 => rep_ne (by omega))) o3 o4 (by omega) (h.wb.two c1 c2) (fun o ho => ?_) ?_ ?_⟩
    · unfold kpO at ho
      rw [rep_ne (by omega)]
      exact o6 o (by omega)
    · rw [rep_ne (by omega), o6 87 (by omega)]
    · rw [rep_ne (by omega), o6 87 (by omega)]
theorem k_armfuls_3 (d qs : Nat) (hq : qs ≤ 24) (F : Nat → Int32) : ∀ m n, n + m = 6 → ∀ (σ1 : Hs) (T : Nat → Int32), HR 2 σ1 T → WI T → σ1 84 = F → σ1 83 2 = nI qs → ∃ v T' σ2, ru (d + 99) 93 46 [.ref 0, .int (nI 3), .int (nI n), .ref 84, .int (nI (4 * n))] [] σ1 = some (some (.int (nI v)), σ2) ∧ HR 2 σ2 T' ∧ WI T' ∧ PlT T T' ∧ sN T' 30 ≤ sN T 30 + 1000 * m ∧ (∀ o, (o < 3 ∨ 8 < o) → σ2 o = σ1 o) ∧ ∀ (τ : Hs) (l4 : Value), τ 88 = T → τ 101 3 = nI qs → (∀ k, k < 24 → τ 102 (72 + k) = F k) → ru (d + 99) 208 37 [.ref 87, .int (nI 3), .int (nI n), .int (nI (72 + 4 * n)), l4] [] τ = some (some (.int (nI v)), rep τ 88 T') := by
  have vs : vp_in (nI 3) 4 = True := vp_nI (by omega) (by omega)
  have cs : (nI 3).toNatClampNeg = 3 := cl_nI (by omega)
  intro m
  induction m with
  | zero =>
    intro n hn σ1 T hH hW e78 e77
    obtain rfl : n = 6 := by omega
    refine ⟨6, T, σ1, ?_, hH, hW, PlT.self T, by omega, fun o ho => rfl, fun τ l4 f88 f101 f102 => ?_⟩
    · have g : ((24 : Int32) ≤ nI (4 * 6)) = True := eq_true (by decide +kernel)
      simp only [s93_46]
      simp only [s93_48, s93_50, s93_53, s93_54_o0, s93_57, s93_58_o76, s93_59, s93_61, s93_62_o77, s93_62_o79, s93_62_o81, s93_62_o83, s93_65, s93_68, s93_69_o0, s93_72_o1, s93_75, s93_76, s93_78_o78, s93_78_o80, s93_78_o82, s93_78_o84, s93_79, s93_80, s93_82, s93_83, s93_84_o78, s93_84_o80, s93_84_o82, s93_84_o84, s93_85, s93_86, s93_88, s93_89, s93_90_o78, s93_90_o80, s93_90_o82, s93_90_o84, s93_91, s93_92, s93_94, s93_95, s93_96_o78, s93_96_o80, s93_96_o82, s93_96_o84, s93_97_o2, s93_100, s93_103, s93_104, s93_105, s93_108, s93_111, s93_114, s93_115, g, simprocAttr, if_true, if_false, true_and, and_true, false_and, and_false, not_false_eq_true, not_true_eq_false, gd_T, kont_i, kont_v]
    · have g : (nI qs < (4 : Int32) * nI 6 + 4) = True := by
        rw [show (4 : Int32) * nI 6 + 4 = nI 28 from by decide +kernel, lt_nn (by omega) (by omega)]
        exact eq_true (by omega)
      have e : rep τ 88 T = τ := by rw [← f88, rep_same]
      rw [e]
      simp only [s208_37]
      simp only [s208_38, s208_39, s208_40, s208_41, s208_42, s208_43_o87, s208_46, s208_47_o101, s208_48, s208_51, s208_52, s208_53_o87, s208_56, s208_57_o102, s208_58, s208_59_o87, s208_62, s208_63, s208_64, s208_65_o102, s208_66, s208_67_o87, s208_70, s208_71, s208_72, s208_73_o102, s208_74, s208_75_o87, s208_78, s208_79, s208_80, s208_81_o102, s208_82_o87, s208_85, s208_88, s208_89, s208_90_o87, s208_93, s208_94, s208_95, s208_96_o102, s208_97_o87, s208_100, s208_101, s208_104, s208_105, s208_106, s208_107, s208_108_o87, s208_111, s208_112_o102, s208_113, s208_114_o87, s208_117, s208_118, s208_119, s208_120_o102, s208_121, s208_122_o87, s208_125, s208_126, s208_127, s208_128_o102, s208_129, s208_130_o87, s208_133, s208_134, s208_135, s208_136_o102, s208_137_o87, s208_140, s208_142, s208_145, s208_148, s208_151, s208_152, vs, cs, f101, g, simprocAttr, if_true, if_false, true_and, and_true, false_and, and_false, not_false_eq_true, not_true_eq_false, gd_T, kont_i, kont_v]
  | succ m ih =>
    intro n hn σ1 T hH hW e78 e77
    have g : ((24 : Int32) ≤ nI (4 * n)) = False := by rw [show (24 : Int32) = nI 24 from rfl, le_nn (by omega) (by omega)]; exact eq_false (by omega)
    have kst := k_stand_3 (d + 98) (nI (4 * n)) 4 σ1 _ e77
    have e4 : (4 : Int32) * nI n + 4 = nI (4 * n + 4) := by rw [show (4 : Int32) = nI 4 from rfl, pk_mul, nI_add]
    by_cases hs : 4 * n + 4 ≤ qs
    · have hst : stQ qs (nI (4 * n)) 4 := (stQ_n hq).mpr ⟨4 * n, 4, rfl, rfl, hs⟩
      rw [b2_T hst] at kst
      have q1 : (nI qs < nI (4 * n + 4)) = False := by rw [lt_nn (by omega) (by omega)]; exact eq_false (by omega)
      have n1 : nI n + 1 = nI (n + 1) := nI_1 n
      have i1 : nI (4 * n) + 1 = nI (4 * n + 1) := by rw [show (1 : Int32) = nI 1 from rfl, nI_add]
      have i2 : nI (4 * n) + 2 = nI (4 * n + 2) := by rw [show (2 : Int32) = nI 2 from rfl, nI_add]
      have i3 : nI (4 * n) + 3 = nI (4 * n + 3) := by rw [show (3 : Int32) = nI 3 from rfl, nI_add]
      have j1 : nI (72 + 4 * n) + 1 = nI (72 + (4 * n + 1)) := by rw [show (1 : Int32) = nI 1 from rfl, nI_add]; rfl
      have j2 : nI (72 + 4 * n) + 2 = nI (72 + (4 * n + 2)) := by rw [show (2 : Int32) = nI 2 from rfl, nI_add]; rfl
      have j3 : nI (72 + 4 * n) + 3 = nI (72 + (4 * n + 3)) := by rw [show (3 : Int32) = nI 3 from rfl, nI_add]; rfl
      have wk := fun (y : Nat) (hy : y < 24) => vp_nI (k := y) (n := 24) hy (by omega)
      have ck := fun (y : Nat) (hy : y < 24) => cl_nI (k := y) (by omega)
      have wm := fun (y : Nat) (hy : y < 24) => vp_nI (k := 72 + y) (n := 96) (by omega) (by omega)
      have cm := fun (y : Nat) (hy : y < 24) => cl_nI (k := 72 + y) (by omega)
      have a0 := wk (4 * n) (by omega)
      have a1 := wk (4 * n + 1) (by omega)
      have a2 := wk (4 * n + 2) (by omega)
      have a3 := wk (4 * n + 3) (by omega)
      have x0 := ck (4 * n) (by omega)
      have x1 := ck (4 * n + 1) (by omega)
      have x2 := ck (4 * n + 2) (by omega)
      have x3 := ck (4 * n + 3) (by omega)
      have y0 := wm (4 * n) (by omega)
      have y1 := wm (4 * n + 1) (by omega)
      have y2 := wm (4 * n + 2) (by omega)
      have y3 := wm (4 * n + 3) (by omega)
      have z0 := cm (4 * n) (by omega)
      have z1 := cm (4 * n + 1) (by omega)
      have z2 := cm (4 * n + 2) (by omega)
      have z3 := cm (4 * n + 3) (by omega)
      by_cases ht : told4 (F (4 * n)) (F (4 * n + 1)) (F (4 * n + 2)) (F (4 * n + 3))
      · obtain ⟨k', c', s', w', r0, r1, r2, r3, lk, lc, l1, ls, lw⟩ := told_n ht
        rw [r0, r1, r2, r3] at ht
        have hle := hiT_le T c'
        by_cases h5 : hiT T c' < 5
        · obtain ⟨σ2, e1, rr, f1⟩ := h2_layOnTop (d + 96) (nI k') (nI s') (nI w') c' lc σ1 T hH hW.P ht h5
          have sn : sN (setT T (6 * hiT T c' + c') (nI k') (nI s') (nI w') 3 0 0) 30 = sN T 30 + s' := sN_set (by omega) ls (hi_not h5)
          have pl : PlT T (setT T (6 * hiT T c' + c') (nI k') (nI s') (nI w') 3 0 0) := PlT_set (by omega)
          obtain ⟨v, T', σ3, o1, o2, o3, o4, o5, o6, o7⟩ := ih (n + 1) (by omega) σ2 _ rr (hW.lay lc h5 lk l1 ls lw) ((f1 84 (by omega)).trans e78) ((congrFun (f1 83 (by omega)) 2).trans e77)
          refine ⟨v, T', σ3, ?_, o2, o3, pl.tr o4, by omega, fun o ho => (o6 o ho).trans (f1 o ho), fun τ l4 f88 f101 f102 => ?_⟩
          · have p31 : 6 * hiT T c' + c' < 2147483648 := by omega
            have p0 : (0 ≤ nI (6 * hiT T c' + c')) = True := eq_true (nI_pos' p31)
            rw [← o1]
            have e5 : nI (4 * (n + 1)) = nI (4 * n) + 4 := by rw [show (4 : Int32) = nI 4 from rfl, nI_add]; rfl
            rw [e5]
            generalize hR : ru (d + 99) 93 46 _ [] σ2 = R
            simp only [s93_46]
            simp only [s93_48, s93_50, s93_53, s93_54_o0, s93_57, s93_58_o76, s93_59, s93_61, s93_62_o77, s93_62_o79, s93_62_o81, s93_62_o83, s93_65, s93_68, s93_69_o0, s93_72_o1, s93_75, s93_76, s93_78_o78, s93_78_o80, s93_78_o82, s93_78_o84, s93_79, s93_80, s93_82, s93_83, s93_84_o78, s93_84_o80, s93_84_o82, s93_84_o84, s93_85, s93_86, s93_88, s93_89, s93_90_o78, s93_90_o80, s93_90_o82, s93_90_o84, s93_91, s93_92, s93_94, s93_95, s93_96_o78, s93_96_o80, s93_96_o82, s93_96_o84, s93_97_o2, s93_100, s93_103, s93_104, s93_105, s93_108, s93_111, g, vs, cs, cr76_3, kst, e78, i1, i2, i3, a0, a1, a2, a3, x0, x1, x2, x3, r0, r1, r2, r3, e1, p0, n1, simprocAttr, if_true, if_false, true_and, and_true, false_and, and_false, not_false_eq_true, not_true_eq_false, gd_T, kont_i, kont_v]
            exact hR
          · have m0 : τ 102 (72 + 4 * n) = nI k' := (f102 (4 * n) (by omega)).trans r0
            have m1 : τ 102 (72 + (4 * n + 1)) = nI c' := (f102 (4 * n + 1) (by omega)).trans r1
            have m2 : τ 102 (72 + (4 * n + 2)) = nI s' := (f102 (4 * n + 2) (by omega)).trans r2
            have m3 : τ 102 (72 + (4 * n + 3)) = nI w' := (f102 (4 * n + 3) (by omega)).trans r3
            have hh := m_highOf (d + 96) c' lc τ
            rw [f88] at hh
            have hl := m_lays (d + 95) c' lc (nI k') (nI s') (nI w') τ (by rw [f88]; exact h5)
            rw [f88] at hl
            have n5 : (nI (hiT T c') = 5) = False := by rw [show (5 : Int32) = nI 5 from rfl, eq_nn (by omega) (by omega)]; exact eq_false (by omega)
            have hi := o7 (rep τ 88 (setT T (6 * hiT T c' + c') (nI k') (nI s') (nI w') 3 0 0)) (.int (nI (6 * hiT T c' + c'))) (rep_self _ _ _) (by rw [rep_ne (by omega)]; exact f101) (fun k hk => by rw [rep_ne (by omega)]; exact f102 k hk)
            rw [rep_rep, show 72 + 4 * (n + 1) = 72 + 4 * n + 4 by omega, ← nI_add (72 + 4 * n) 4, show nI 4 = (4 : Int32) from rfl] at hi
            rw [← hi]
            generalize hR : ru (d + 99) 208 37 _ [] (rep τ 88 (setT T (6 * hiT T c' + c') (nI k') (nI s') (nI w') 3 0 0)) = R
            simp only [s208_37]
            simp only [s208_38, s208_39, s208_40, s208_41, s208_42, s208_43_o87, s208_46, s208_47_o101, s208_48, s208_51, s208_52, s208_53_o87, s208_56, s208_57_o102, s208_58, s208_59_o87, s208_62, s208_63, s208_64, s208_65_o102, s208_66, s208_67_o87, s208_70, s208_71, s208_72, s208_73_o102, s208_74, s208_75_o87, s208_78, s208_79, s208_80, s208_81_o102, s208_82_o87, s208_85, s208_88, s208_89, s208_90_o87, s208_93, s208_94, s208_95, s208_96_o102, s208_97_o87, s208_100, s208_101, s208_104, s208_105, s208_106, s208_107, s208_108_o87, s208_111, s208_112_o102, s208_113, s208_114_o87, s208_117, s208_118, s208_119, s208_120_o102, s208_121, s208_122_o87, s208_125, s208_126, s208_127, s208_128_o102, s208_129, s208_130_o87, s208_133, s208_134, s208_135, s208_136_o102, s208_137_o87, s208_140, s208_142, s208_145, s208_148, e4, q1, vs, cs, f101, j1, j2, j3, y0, y1, y2, y3, z0, z1, z2, z3, m0, m1, m2, m3, m_isAsTold, b2_T ht, hh, n5, hl, n1, simprocAttr, if_true, if_false, true_and, and_true, false_and, and_false, not_false_eq_true, not_true_eq_false, gd_T, kont_i, kont_v]
            exact hR
        · refine ⟨n, T, σ1, ?_, hH, hW, PlT.self T, by omega, fun o ho => rfl, fun τ l4 f88 f101 f102 => ?_⟩
          · have e1 := h2_layOnTop_full (d + 96) (nI k') (nI s') (nI w') c' lc σ1 T hH hW.P ht h5
            simp only [s93_46]
            simp only [s93_48, s93_50, s93_53, s93_54_o0, s93_57, s93_58_o76, s93_59, s93_61, s93_62_o77, s93_62_o79, s93_62_o81, s93_62_o83, s93_65, s93_68, s93_69_o0, s93_72_o1, s93_75, s93_76, s93_78_o78, s93_78_o80, s93_78_o82, s93_78_o84, s93_79, s93_80, s93_82, s93_83, s93_84_o78, s93_84_o80, s93_84_o82, s93_84_o84, s93_85, s93_86, s93_88, s93_89, s93_90_o78, s93_90_o80, s93_90_o82, s93_90_o84, s93_91, s93_92, s93_94, s93_95, s93_96_o78, s93_96_o80, s93_96_o82, s93_96_o84, s93_97_o2, s93_100, s93_103, s93_104, s93_105, s93_108, s93_111, g, vs, cs, cr76_3, kst, e78, i1, i2, i3, a0, a1, a2, a3, x0, x1, x2, x3, r0, r1, r2, r3, e1, simprocAttr, if_true, if_false, true_and, and_true, false_and, and_false, not_false_eq_true, not_true_eq_false, gd_T, kont_i, kont_v]
          · have m0 : τ 102 (72 + 4 * n) = nI k' := (f102 (4 * n) (by omega)).trans r0
            have m1 : τ 102 (72 + (4 * n + 1)) = nI c' := (f102 (4 * n + 1) (by omega)).trans r1
            have m2 : τ 102 (72 + (4 * n + 2)) = nI s' := (f102 (4 * n + 2) (by omega)).trans r2
            have m3 : τ 102 (72 + (4 * n + 3)) = nI w' := (f102 (4 * n + 3) (by omega)).trans r3
            have hh := m_highOf (d + 96) c' lc τ
            rw [f88, show hiT T c' = 5 by omega] at hh
            have e : rep τ 88 T = τ := by rw [← f88, rep_same]
            rw [e]
            simp only [s208_37]
            simp only [s208_38, s208_39, s208_40, s208_41, s208_42, s208_43_o87, s208_46, s208_47_o101, s208_48, s208_51, s208_52, s208_53_o87, s208_56, s208_57_o102, s208_58, s208_59_o87, s208_62, s208_63, s208_64, s208_65_o102, s208_66, s208_67_o87, s208_70, s208_71, s208_72, s208_73_o102, s208_74, s208_75_o87, s208_78, s208_79, s208_80, s208_81_o102, s208_82_o87, s208_85, s208_88, s208_89, s208_90_o87, s208_93, s208_94, s208_95, s208_96_o102, s208_97_o87, s208_100, s208_101, s208_104, s208_105, s208_106, s208_107, s208_108_o87, s208_111, s208_112_o102, s208_113, s208_114_o87, s208_117, s208_118, s208_119, s208_120_o102, s208_121, s208_122_o87, s208_125, s208_126, s208_127, s208_128_o102, s208_129, s208_130_o87, s208_133, s208_134, s208_135, s208_136_o102, s208_137_o87, s208_140, s208_142, s208_145, s208_148, e4, q1, vs, cs, f101, j1, j2, j3, y0, y1, y2, y3, z0, z1, z2, z3, m0, m1, m2, m3, m_isAsTold, b2_T ht, hh, n_5, simprocAttr, if_true, if_false, true_and, and_true, false_and, and_false, not_false_eq_true, not_true_eq_false, gd_T, kont_i, kont_v]
      · refine ⟨n, T, σ1, ?_, hH, hW, PlT.self T, by omega, fun o ho => rfl, fun τ l4 f88 f101 f102 => ?_⟩
        · have e1 := h2_layOnTop_no (d + 96) (F (4 * n)) (F (4 * n + 1)) (F (4 * n + 2)) (F (4 * n + 3)) σ1 ht
          simp only [s93_46]
          simp only [s93_48, s93_50, s93_53, s93_54_o0, s93_57, s93_58_o76, s93_59, s93_61, s93_62_o77, s93_62_o79, s93_62_o81, s93_62_o83, s93_65, s93_68, s93_69_o0, s93_72_o1, s93_75, s93_76, s93_78_o78, s93_78_o80, s93_78_o82, s93_78_o84, s93_79, s93_80, s93_82, s93_83, s93_84_o78, s93_84_o80, s93_84_o82, s93_84_o84, s93_85, s93_86, s93_88, s93_89, s93_90_o78, s93_90_o80, s93_90_o82, s93_90_o84, s93_91, s93_92, s93_94, s93_95, s93_96_o78, s93_96_o80, s93_96_o82, s93_96_o84, s93_97_o2, s93_100, s93_103, s93_104, s93_105, s93_108, s93_111, g, vs, cs, cr76_3, kst, e78, i1, i2, i3, a0, a1, a2, a3, x0, x1, x2, x3, e1, simprocAttr, if_true, if_false, true_and, and_true, false_and, and_false, not_false_eq_true, not_true_eq_false, gd_T, kont_i, kont_v]
        · have m0 := f102 (4 * n) (by omega)
          have m1 := f102 (4 * n + 1) (by omega)
          have m2 := f102 (4 * n + 2) (by omega)
          have m3 := f102 (4 * n + 3) (by omega)
          have e : rep τ 88 T = τ := by rw [← f88, rep_same]
          rw [e]
          simp only [s208_37]
          simp only [s208_38, s208_39, s208_40, s208_41, s208_42, s208_43_o87, s208_46, s208_47_o101, s208_48, s208_51, s208_52, s208_53_o87, s208_56, s208_57_o102, s208_58, s208_59_o87, s208_62, s208_63, s208_64, s208_65_o102, s208_66, s208_67_o87, s208_70, s208_71, s208_72, s208_73_o102, s208_74, s208_75_o87, s208_78, s208_79, s208_80, s208_81_o102, s208_82_o87, s208_85, s208_88, s208_89, s208_90_o87, s208_93, s208_94, s208_95, s208_96_o102, s208_97_o87, s208_100, s208_101, s208_104, s208_105, s208_106, s208_107, s208_108_o87, s208_111, s208_112_o102, s208_113, s208_114_o87, s208_117, s208_118, s208_119, s208_120_o102, s208_121, s208_122_o87, s208_125, s208_126, s208_127, s208_128_o102, s208_129, s208_130_o87, s208_133, s208_134, s208_135, s208_136_o102, s208_137_o87, s208_140, s208_142, s208_145, s208_148, e4, q1, vs, cs, f101, j1, j2, j3, y0, y1, y2, y3, z0, z1, z2, z3, m0, m1, m2, m3, m_isAsTold, b2_F ht, simprocAttr, if_true, if_false, true_and, and_true, false_and, and_false, not_false_eq_true, not_true_eq_false, gd_T, kont_i, kont_v]
    · have hst : ¬ stQ qs (nI (4 * n)) 4 := fun c => by
        obtain ⟨a, b, ea, eb, hab⟩ := (stQ_n hq).mp c
        rw [nI_eq (by omega) (by omega)] at ea
        have eb : nI 4 = nI b := eb
        rw [nI_eq (by omega) (by omega)] at eb
        omega
      rw [b2_F hst] at kst
      have q1 : (nI qs < nI (4 * n + 4)) = True := by rw [lt_nn (by omega) (by omega)]; exact eq_true (by omega)
      refine ⟨n, T, σ1, ?_, hH, hW, PlT.self T, by omega, fun o ho => rfl, fun τ l4 f88 f101 f102 => ?_⟩
      · simp only [s93_46]
        simp only [s93_48, s93_50, s93_53, s93_54_o0, s93_57, s93_58_o76, s93_59, s93_61, s93_62_o77, s93_62_o79, s93_62_o81, s93_62_o83, s93_65, s93_68, s93_69_o0, s93_72_o1, s93_75, s93_76, s93_78_o78, s93_78_o80, s93_78_o82, s93_78_o84, s93_79, s93_80, s93_82, s93_83, s93_84_o78, s93_84_o80, s93_84_o82, s93_84_o84, s93_85, s93_86, s93_88, s93_89, s93_90_o78, s93_90_o80, s93_90_o82, s93_90_o84, s93_91, s93_92, s93_94, s93_95, s93_96_o78, s93_96_o80, s93_96_o82, s93_96_o84, s93_97_o2, s93_100, s93_103, s93_104, s93_105, s93_108, s93_111, s93_114, s93_115, g, vs, cs, cr76_3, kst, simprocAttr, if_true, if_false, true_and, and_true, false_and, and_false, not_false_eq_true, not_true_eq_false, gd_T, kont_i, kont_v]
      · have e : rep τ 88 T = τ := by rw [← f88, rep_same]
        rw [e]
        simp only [s208_37]
        simp only [s208_38, s208_39, s208_40, s208_41, s208_42, s208_43_o87, s208_46, s208_47_o101, s208_48, s208_51, s208_52, s208_53_o87, s208_56, s208_57_o102, s208_58, s208_59_o87, s208_62, s208_63, s208_64, s208_65_o102, s208_66, s208_67_o87, s208_70, s208_71, s208_72, s208_73_o102, s208_74, s208_75_o87, s208_78, s208_79, s208_80, s208_81_o102, s208_82_o87, s208_85, s208_88, s208_89, s208_90_o87, s208_93, s208_94, s208_95, s208_96_o102, s208_97_o87, s208_100, s208_101, s208_104, s208_105, s208_106, s208_107, s208_108_o87, s208_111, s208_112_o102, s208_113, s208_114_o87, s208_117, s208_118, s208_119, s208_120_o102, s208_121, s208_122_o87, s208_125, s208_126, s208_127, s208_128_o102, s208_129, s208_130_o87, s208_133, s208_134, s208_135, s208_136_o102, s208_137_o87, s208_140, s208_142, s208_145, s208_148, s208_151, s208_152, e4, q1, vs, cs, f101, simprocAttr, if_true, if_false, true_and, and_true, false_and, and_false, not_false_eq_true, not_true_eq_false, gd_T, kont_i, kont_v]
theorem L_armfuls_3 {i : Nat} {σ : Hs} (h : RR i σ) (d : Nat) : Step d i 93 208 [.int (nI 3)] σ := by
  have hst : (0 ≤ nI 3 ∧ nI 3 ≤ 3) = True := eq_true (by decide +kernel)
  obtain ⟨⟨a1, a2⟩, qs, p1, p2, p3, p4⟩ := h.2.2.2.2.2.2.1 3 (by omega)
  have a1 : σ 83 1 = σ 100 3 := a1
  have p2 : σ 83 2 = nI qs := p2
  have vs : vp_in (nI 3) 4 = True := vp_nI (by omega) (by omega)
  have cs : (nI 3).toNatClampNeg = 3 := cl_nI (by omega)
  have ms := k_isMissing_3 (d + 98) σ _ a1
  have g100 : ∀ k, erC σ k 100 = σ 100 := fun k => rep_ne (by omega)
  by_cases w1 : σ 100 3 = 0
  · refine Step_err h 2 (v := -1000002) ?_ ?_
    · simp only [c93, s93_0, s93_1, s93_4, s93_7, s93_8, s93_9_o0, s93_12, s93_13, s93_14_o0, s93_17, s93_18_o76, s93_19_o77, s93_19_o79, s93_19_o81, s93_19_o83, s93_22, s93_25, s93_26, s93_27_o0, s93_30, s93_31, s93_32, s93_33, s93_34_o0, s93_37, s93_38_o76, s93_39_o77, s93_39_o79, s93_39_o81, s93_39_o83, s93_42, s93_43, s93_44, s93_48, s93_50, s93_53, s93_54_o0, s93_57, s93_58_o76, s93_59, s93_61, s93_62_o77, s93_62_o79, s93_62_o81, s93_62_o83, s93_65, s93_68, s93_69_o0, s93_72_o1, s93_75, s93_76, s93_78_o78, s93_78_o80, s93_78_o82, s93_78_o84, s93_79, s93_80, s93_82, s93_83, s93_84_o78, s93_84_o80, s93_84_o82, s93_84_o84, s93_85, s93_86, s93_88, s93_89, s93_90_o78, s93_90_o80, s93_90_o82, s93_90_o84, s93_91, s93_92, s93_94, s93_95, s93_96_o78, s93_96_o80, s93_96_o82, s93_96_o84, s93_97_o2, s93_100, s93_103, s93_104, s93_105, s93_108, s93_111, s93_114, s93_115, k_isSheet, hst, b2_t, vs, cs, cr76_3, ms, b2_T w1, k_failed_2, simprocAttr, if_true, if_false, true_and, and_true, false_and, and_false, not_false_eq_true, not_true_eq_false, gd_T, kont_i, kont_v]
    · simp only [c208, s208_0, s208_1, s208_4, s208_7, s208_8, s208_10_o87, s208_13, s208_14, s208_15_o87, s208_18, s208_19_o100, s208_20, s208_23, s208_24, s208_26_o87, s208_29, s208_30, s208_31, s208_32, s208_34, s208_35, s208_36, m_isSheet, hst, b2_t, vs, cs, g100, w1, m_fin_2, simprocAttr, if_true, if_false, true_and, and_true, false_and, and_false, not_false_eq_true, not_true_eq_false, gd_T, kont_i, kont_v]
  · obtain ⟨v, T', σ2, o1, o2, o3, o4, o5, o6, o7⟩ := k_armfuls_3 d qs p1 (σ 84) 6 0 rfl σ (σ 88) h.hr h.wi rfl p2
    have c1 : callD (d + 100) 93 [.ref 0, .int (nI 3)] σ = some (some (.int (nI v)), σ2) := by
      simp only [c93, s93_0, s93_1, s93_4, s93_7, s93_8, s93_9_o0, s93_12, s93_13, s93_14_o0, s93_17, s93_18_o76, s93_19_o77, s93_19_o79, s93_19_o81, s93_19_o83, s93_22, s93_25, s93_26, s93_27_o0, s93_30, s93_31, s93_32, s93_33, s93_34_o0, s93_37, s93_38_o76, s93_39_o77, s93_39_o79, s93_39_o81, s93_39_o83, s93_42, s93_43, s93_44, k_isSheet, hst, b2_t, vs, cs, cr76_3, ms, b2_F w1, simprocAttr, if_true, if_false, true_and, and_true, false_and, and_false, not_false_eq_true, not_true_eq_false, gd_T, kont_i, kont_v]
      exact o1
    have c2 : callD (d + 100) 208 [.ref 87, .int (nI 3)] σ2 = some (some (.int (nI v)), rep σ2 88 T') := by
      have w1' : (σ2 100 3 = 0) = False := by rw [o6 100 (by omega)]; exact eq_false w1
      have e24 : (24 : Int32) * nI 3 = nI 72 := by decide +kernel
      simp only [c208, s208_0, s208_1, s208_4, s208_7, s208_8, s208_10_o87, s208_13, s208_14, s208_15_o87, s208_18, s208_19_o100, s208_20, s208_23, s208_24, s208_26_o87, s208_29, s208_30, s208_31, s208_32, s208_34, s208_35, s208_36, m_isSheet, hst, b2_t, vs, cs, w1', e24, simprocAttr, if_true, if_false, true_and, and_true, false_and, and_false, not_false_eq_true, not_true_eq_false, gd_T, kont_i, kont_v]
      exact o7 σ2 _ (o6 88 (by omega)) ((congrFun (o6 101 (by omega)) _).trans p3) (fun k hk => (congrFun (o6 102 (by omega)) _).trans (p4 k hk).symm)
    refine ⟨_, _, _, c1, c2, h.pl (rep_self _ _ _) (o2.fr (fun o o1 o2 => rep_ne (by omega))) o3 o4 (by omega) (h.wb.two c1 c2) (fun o ho => ?_) ?_ ?_⟩
    · unfold kpO at ho
      rw [rep_ne (by omega)]
      exact o6 o (by omega)
    · rw [rep_ne (by omega), o6 87 (by omega)]
    · rw [rep_ne (by omega), o6 87 (by omega)]
theorem L_armfuls {i : Nat} {σ : Hs} (h : RR i σ) (d : Nat) (s : Int32) : Step d i 93 208 [.int s] σ := by
  by_cases hs : 0 ≤ s ∧ s ≤ 3
  · obtain ⟨u, lu, rfl⟩ := she_n hs
    have hu : u = 0 ∨ u = 1 ∨ u = 2 ∨ u = 3 := by omega
    rcases hu with rfl | rfl | rfl | rfl
    · exact L_armfuls_0 h d
    · exact L_armfuls_1 h d
    · exact L_armfuls_2 h d
    · exact L_armfuls_3 h d
  · have hsf := eq_false hs
    refine Step_err h 1 (v := -1000001) ?_ ?_
    · simp only [c93, s93_0, s93_1, s93_4, s93_7, s93_8, s93_9_o0, s93_12, s93_13, s93_14_o0, s93_17, s93_18_o76, s93_19_o77, s93_19_o79, s93_19_o81, s93_19_o83, s93_22, s93_25, s93_26, s93_27_o0, s93_30, s93_31, s93_32, s93_33, s93_34_o0, s93_37, s93_38_o76, s93_39_o77, s93_39_o79, s93_39_o81, s93_39_o83, s93_42, s93_43, s93_44, k_isSheet, hsf, b2_f, k_failed_1, simprocAttr, if_true, if_false, true_and, and_true, false_and, and_false, not_false_eq_true, not_true_eq_false, gd_T, kont_i, kont_v]
    · simp only [c208, s208_0, s208_1, s208_4, s208_7, s208_8, s208_10_o87, s208_13, s208_14, s208_15_o87, s208_18, s208_19_o100, s208_20, s208_23, s208_24, s208_26_o87, s208_29, s208_30, s208_31, s208_32, s208_34, s208_35, s208_36, m_isSheet, hsf, b2_f, m_fin_1, simprocAttr, if_true, if_false, true_and, and_true, false_and, and_false, not_false_eq_true, not_true_eq_false, gd_T, kont_i, kont_v]
