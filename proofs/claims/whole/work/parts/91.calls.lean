/-! ===== the call: armfuls ===== -/
theorem PlT.self (T : Nat → Int32) : PlT T T := fun _ _ => rfl
theorem k_armfuls_0 (d qs : Nat) (hq : qs ≤ 24) (F : Nat → Int32) : ∀ m n, n + m = 6 → ∀ (σ1 : Hs) (T : Nat → Int32), HR 2 σ1 T → WI T → σ1 78 = F → σ1 77 2 = nI qs → ∃ v T' σ2, ru (d + 99) 92 46 [.ref 0, .int (nI 0), .int (nI n), .ref 78, .int (nI (4 * n))] [] σ1 = some (some (.int (nI v)), σ2) ∧ HR 2 σ2 T' ∧ WI T' ∧ PlT T T' ∧ sN T' 30 ≤ sN T 30 + 1000 * m ∧ (∀ o, (o < 3 ∨ 8 < o) → σ2 o = σ1 o) ∧ ∀ (τ : Hs) (l4 : Value), τ 88 = T → τ 101 0 = nI qs → (∀ k, k < 24 → τ 102 (0 + k) = F k) → ru (d + 99) 207 37 [.ref 87, .int (nI 0), .int (nI n), .int (nI (0 + 4 * n)), l4] [] τ = some (some (.int (nI v)), rep τ 88 T') := by
  have vs : vp_in (nI 0) 4 = True := vp_nI (by omega) (by omega)
  have cs : (nI 0).toNatClampNeg = 0 := cl_nI (by omega)
  intro m
  induction m with
  | zero =>
    intro n hn σ1 T hH hW e78 e77
    obtain rfl : n = 6 := by omega
    refine ⟨6, T, σ1, ?_, hH, hW, PlT.self T, by omega, fun o ho => rfl, fun τ l4 f88 f101 f102 => ?_⟩
    · have g : ((24 : Int32) ≤ nI (4 * 6)) = True := eq_true (by decide +kernel)
      simp only [s92_46]
      simp only [s92_48, s92_50, s92_53, s92_54_o0, s92_57, s92_58_o76, s92_59, s92_61, s92_62_o77, s92_62_o79, s92_62_o81, s92_62_o83, s92_65, s92_68, s92_69_o0, s92_72_o1, s92_75, s92_76, s92_78_o78, s92_78_o80, s92_78_o82, s92_78_o84, s92_79, s92_80, s92_82, s92_83, s92_84_o78, s92_84_o80, s92_84_o82, s92_84_o84, s92_85, s92_86, s92_88, s92_89, s92_90_o78, s92_90_o80, s92_90_o82, s92_90_o84, s92_91, s92_92, s92_94, s92_95, s92_96_o78, s92_96_o80, s92_96_o82, s92_96_o84, s92_97_o2, s92_100, s92_103, s92_104, s92_105, s92_108, s92_111, s92_114, s92_115, g, simprocAttr, if_true, if_false, true_and, and_true, false_and, and_false, not_false_eq_true, not_true_eq_false, gd_T, kont_i, kont_v]
    · have g : (nI qs < (4 : Int32) * nI 6 + 4) = True := by
        rw [show (4 : Int32) * nI 6 + 4 = nI 28 from by decide +kernel, lt_nn (by omega) (by omega)]
        exact eq_true (by omega)
      have e : rep τ 88 T = τ := by rw [← f88, rep_same]
      rw [e]
      simp only [s207_37]
      simp only [s207_38, s207_39, s207_40, s207_41, s207_42, s207_43_o87, s207_46, s207_47_o101, s207_48, s207_51, s207_52, s207_53_o87, s207_56, s207_57_o102, s207_58, s207_59_o87, s207_62, s207_63, s207_64, s207_65_o102, s207_66, s207_67_o87, s207_70, s207_71, s207_72, s207_73_o102, s207_74, s207_75_o87, s207_78, s207_79, s207_80, s207_81_o102, s207_82_o87, s207_85, s207_88, s207_89, s207_90_o87, s207_93, s207_94, s207_95, s207_96_o102, s207_97_o87, s207_100, s207_101, s207_104, s207_105, s207_106, s207_107, s207_108_o87, s207_111, s207_112_o102, s207_113, s207_114_o87, s207_117, s207_118, s207_119, s207_120_o102, s207_121, s207_122_o87, s207_125, s207_126, s207_127, s207_128_o102, s207_129, s207_130_o87, s207_133, s207_134, s207_135, s207_136_o102, s207_137_o87, s207_140, s207_142, s207_145, s207_148, s207_151, s207_152, vs, cs, f101, g, simprocAttr, if_true, if_false, true_and, and_true, false_and, and_false, not_false_eq_true, not_true_eq_false, gd_T, kont_i, kont_v]
  | succ m ih =>
    intro n hn σ1 T hH hW e78 e77
    have g : ((24 : Int32) ≤ nI (4 * n)) = False := by rw [show (24 : Int32) = nI 24 from rfl, le_nn (by omega) (by omega)]; exact eq_false (by omega)
    have kst := k_stand_0 (d + 98) (nI (4 * n)) 4 σ1 _ e77
    have e4 : (4 : Int32) * nI n + 4 = nI (4 * n + 4) := by rw [show (4 : Int32) = nI 4 from rfl, pk_mul, nI_add]
    by_cases hs : 4 * n + 4 ≤ qs
    · have hst : stQ qs (nI (4 * n)) 4 := (stQ_n hq).mpr ⟨4 * n, 4, rfl, rfl, hs⟩
      rw [b2_T hst] at kst
      have q1 : (nI qs < nI (4 * n + 4)) = False := by rw [lt_nn (by omega) (by omega)]; exact eq_false (by omega)
      have n1 : nI n + 1 = nI (n + 1) := nI_1 n
      have i1 : nI (4 * n) + 1 = nI (4 * n + 1) := by rw [show (1 : Int32) = nI 1 from rfl, nI_add]
      have i2 : nI (4 * n) + 2 = nI (4 * n + 2) := by rw [show (2 : Int32) = nI 2 from rfl, nI_add]
      have i3 : nI (4 * n) + 3 = nI (4 * n + 3) := by rw [show (3 : Int32) = nI 3 from rfl, nI_add]
      have j1 : nI (0 + 4 * n) + 1 = nI (0 + (4 * n + 1)) := by rw [show (1 : Int32) = nI 1 from rfl, nI_add]; rfl
      have j2 : nI (0 + 4 * n) + 2 = nI (0 + (4 * n + 2)) := by rw [show (2 : Int32) = nI 2 from rfl, nI_add]; rfl
      have j3 : nI (0 + 4 * n) + 3 = nI (0 + (4 * n + 3)) := by rw [show (3 : Int32) = nI 3 from rfl, nI_add]; rfl
      have wk := fun (y : Nat) (hy : y < 24) => vp_nI (k := y) (n := 24) hy (by omega)
      have ck := fun (y : Nat) (hy : y < 24) => cl_nI (k := y) (by omega)
      have wm := fun (y : Nat) (hy : y < 24) => vp_nI (k := 0 + y) (n := 96) (by omega) (by omega)
      have cm := fun (y : Nat) (hy : y < 24) => cl_nI (k := 0 + y) (by omega)
      have a0 := wk (4 * n) (by omega)
      have a1 := wk (4 * n + 1) (by omega)
      have a2 := wk (4 * n + 2) (by omega)
      have a3 := wk (4 * n + 3) (by omega)
      have x0 := ck (4 * n) (by omega)
      have x1 := ck (4 * n + 1) (by omega)
      have x2 := ck (4 * n + 2) (by omega)
      have x3 := ck (4 * n + 3) (by omega)
      have y0 := wm (4 * n) (by omega)
      have y1 := wm (4 * n + 1) (by omega)
      have y2 := wm (4 * n + 2) (by omega)
      have y3 := wm (4 * n + 3) (by omega)
      have z0 := cm (4 * n) (by omega)
      have z1 := cm (4 * n + 1) (by omega)
      have z2 := cm (4 * n + 2) (by omega)
      have z3 := cm (4 * n + 3) (by omega)
      by_cases ht : told4 (F (4 * n)) (F (4 * n + 1)) (F (4 * n + 2)) (F (4 * n + 3))
      · obtain ⟨k', c', s', w', r0, r1, r2, r3, lk, lc, l1, ls, lw⟩ := told_n ht
        rw [r0, r1, r2, r3] at ht
        have hle := hiT_le T c'
        by_cases h5 : hiT T c' < 5
        · obtain ⟨σ2, e1, rr, f1⟩ := h2_layOnTop (d + 96) (nI k') (nI s') (nI w') c' lc σ1 T hH hW.P ht h5
          have sn : sN (setT T (6 * hiT T c' + c') (nI k') (nI s') (nI w') 3 0 0) 30 = sN T 30 + s' := sN_set (by omega) ls (hi_not h5)
          have pl : PlT T (setT T (6 * hiT T c' + c') (nI k') (nI s') (nI w') 3 0 0) := PlT_set (by omega)
          obtain ⟨v, T', σ3, o1, o2, o3, o4, o5, o6, o7⟩ := ih (n + 1) (by omega) σ2 _ rr (hW.lay lc h5 lk l1 ls lw) ((f1 78 (by omega)).trans e78) ((congrFun (f1 77 (by omega)) 2).trans e77)
          refine ⟨v, T', σ3, ?_, o2, o3, pl.tr o4, by omega, fun o ho => (o6 o ho).trans (f1 o ho), fun τ l4 f88 f101 f102 => ?_⟩
          · have p31 : 6 * hiT T c' + c' < 2147483648 := by omega
            have p0 : (0 ≤ nI (6 * hiT T c' + c')) = True := eq_true (nI_pos' p31)
            rw [← o1]
            have e5 : nI (4 * (n + 1)) = nI (4 * n) + 4 := by rw [show (4 : Int32) = nI 4 from rfl, nI_add]; rfl
            rw [e5]
            generalize hR : ru (d + 99) 92 46 _ [] σ2 = R
            simp only [s92_46]
            simp only [s92_48, s92_50, s92_53, s92_54_o0, s92_57, s92_58_o76, s92_59, s92_61, s92_62_o77, s92_62_o79, s92_62_o81, s92_62_o83, s92_65, s92_68, s92_69_o0, s92_72_o1, s92_75, s92_76, s92_78_o78, s92_78_o80, s92_78_o82, s92_78_o84, s92_79, s92_80, s92_82, s92_83, s92_84_o78, s92_84_o80, s92_84_o82, s92_84_o84, s92_85, s92_86, s92_88, s92_89, s92_90_o78, s92_90_o80, s92_90_o82, s92_90_o84, s92_91, s92_92, s92_94, s92_95, s92_96_o78, s92_96_o80, s92_96_o82, s92_96_o84, s92_97_o2, s92_100, s92_103, s92_104, s92_105, s92_108, s92_111, g, vs, cs, cr76_0, kst, e78, i1, i2, i3, a0, a1, a2, a3, x0, x1, x2, x3, r0, r1, r2, r3, e1, p0, n1, simprocAttr, if_true, if_false, true_and, and_true, false_and, and_false, not_false_eq_true, not_true_eq_false, gd_T, kont_i, kont_v]
            exact hR
          · have m0 : τ 102 (0 + 4 * n) = nI k' := (f102 (4 * n) (by omega)).trans r0
            have m1 : τ 102 (0 + (4 * n + 1)) = nI c' := (f102 (4 * n + 1) (by omega)).trans r1
            have m2 : τ 102 (0 + (4 * n + 2)) = nI s' := (f102 (4 * n + 2) (by omega)).trans r2
            have m3 : τ 102 (0 + (4 * n + 3)) = nI w' := (f102 (4 * n + 3) (by omega)).trans r3
            have hh := m_highOf (d + 96) c' lc τ
            rw [f88] at hh
            have hl := m_lays (d + 95) c' lc (nI k') (nI s') (nI w') τ (by rw [f88]; exact h5)
            rw [f88] at hl
            have n5 : (nI (hiT T c') = 5) = False := by rw [show (5 : Int32) = nI 5 from rfl, eq_nn (by omega) (by omega)]; exact eq_false (by omega)
            have hi := o7 (rep τ 88 (setT T (6 * hiT T c' + c') (nI k') (nI s') (nI w') 3 0 0)) (.int (nI (6 * hiT T c' + c'))) (rep_self _ _ _) (by rw [rep_ne (by omega)]; exact f101) (fun k hk => by rw [rep_ne (by omega)]; exact f102 k hk)
            rw [rep_rep, show 0 + 4 * (n + 1) = 0 + 4 * n + 4 by omega, ← nI_add (0 + 4 * n) 4, show nI 4 = (4 : Int32) from rfl] at hi
            rw [← hi]
            generalize hR : ru (d + 99) 207 37 _ [] (rep τ 88 (setT T (6 * hiT T c' + c') (nI k') (nI s') (nI w') 3 0 0)) = R
            simp only [s207_37]
            simp only [s207_38, s207_39, s207_40, s207_41, s207_42, s207_43_o87, s207_46, s207_47_o101, s207_48, s207_51, s207_52, s207_53_o87, s207_56, s207_57_o102, s207_58, s207_59_o87, s207_62, s207_63, s207_64, s207_65_o102, s207_66, s207_67_o87, s207_70, s207_71, s207_72, s207_73_o102, s207_74, s207_75_o87, s207_78, s207_79, s207_80, s207_81_o102, s207_82_o87, s207_85, s207_88, s207_89, s207_90_o87, s207_93, s207_94, s207_95, s207_96_o102, s207_97_o87, s207_100, s207_101, s207_104, s207_105, s207_106, s207_107, s207_108_o87, s207_111, s207_112_o102, s207_113, s207_114_o87, s207_117, s207_118, s207_119, s207_120_o102, s207_121, s207_122_o87, s207_125, s207_126, s207_127, s207_128_o102, s207_129, s207_130_o87, s207_133, s207_134, s207_135, s207_136_o102, s207_137_o87, s207_140, s207_142, s207_145, s207_148, e4, q1, vs, cs, f101, j1, j2, j3, y0, y1, y2, y3, z0, z1, z2, z3, m0, m1, m2, m3, m_isAsTold, b2_T ht, hh, n5, hl, n1, simprocAttr, if_true, if_false, true_and, and_true, false_and, and_false, not_false_eq_true, not_true_eq_false, gd_T, kont_i, kont_v]
            exact hR
        · refine ⟨n, T, σ1, ?_, hH, hW, PlT.self T, by omega, fun o ho => rfl, fun τ l4 f88 f101 f102 => ?_⟩
          · have e1 := h2_layOnTop_full (d + 96) (nI k') (nI s') (nI w') c' lc σ1 T hH hW.P ht h5
            simp only [s92_46]
            simp only [s92_48, s92_50, s92_53, s92_54_o0, s92_57, s92_58_o76, s92_59, s92_61, s92_62_o77, s92_62_o79, s92_62_o81, s92_62_o83, s92_65, s92_68, s92_69_o0, s92_72_o1, s92_75, s92_76, s92_78_o78, s92_78_o80, s92_78_o82, s92_78_o84, s92_79, s92_80, s92_82, s92_83, s92_84_o78, s92_84_o80, s92_84_o82, s92_84_o84, s92_85, s92_86, s92_88, s92_89, s92_90_o78, s92_90_o80, s92_90_o82, s92_90_o84, s92_91, s92_92, s92_94, s92_95, s92_96_o78, s92_96_o80, s92_96_o82, s92_96_o84, s92_97_o2, s92_100, s92_103, s92_104, s92_105, s92_108, s92_111, g, vs, cs, cr76_0, kst, e78, i1, i2, i3, a0, a1, a2, a3, x0, x1, x2, x3, r0, r1, r2, r3, e1, simprocAttr, if_true, if_false, true_and, and_true, false_and, and_false, not_false_eq_true, not_true_eq_false, gd_T, kont_i, kont_v]
          · have m0 : τ 102 (0 + 4 * n) = nI k' := (f102 (4 * n) (by omega)).trans r0
            have m1 : τ 102 (0 + (4 * n + 1)) = nI c' := (f102 (4 * n + 1) (by omega)).trans r1
            have m2 : τ 102 (0 + (4 * n + 2)) = nI s' := (f102 (4 * n + 2) (by omega)).trans r2
            have m3 : τ 102 (0 + (4 * n + 3)) = nI w' := (f102 (4 * n + 3) (by omega)).trans r3
            have hh := m_highOf (d + 96) c' lc τ
            rw [f88, show hiT T c' = 5 by omega] at hh
            have e : rep τ 88 T = τ := by rw [← f88, rep_same]
            rw [e]
            simp only [s207_37]
            simp only [s207_38, s207_39, s207_40, s207_41, s207_42, s207_43_o87, s207_46, s207_47_o101, s207_48, s207_51, s207_52, s207_53_o87, s207_56, s207_57_o102, s207_58, s207_59_o87, s207_62, s207_63, s207_64, s207_65_o102, s207_66, s207_67_o87, s207_70, s207_71, s207_72, s207_73_o102, s207_74, s207_75_o87, s207_78, s207_79, s207_80, s207_81_o102, s207_82_o87, s207_85, s207_88, s207_89, s207_90_o87, s207_93, s207_94, s207_95, s207_96_o102, s207_97_o87, s207_100, s207_101, s207_104, s207_105, s207_106, s207_107, s207_108_o87, s207_111, s207_112_o102, s207_113, s207_114_o87, s207_117, s207_118, s207_119, s207_120_o102, s207_121, s207_122_o87, s207_125, s207_126, s207_127, s207_128_o102, s207_129, s207_130_o87, s207_133, s207_134, s207_135, s207_136_o102, s207_137_o87, s207_140, s207_142, s207_145, s207_148, e4, q1, vs, cs, f101, j1, j2, j3, y0, y1, y2, y3, z0, z1, z2, z3, m0, m1, m2, m3, m_isAsTold, b2_T ht, hh, n_5, simprocAttr, if_true, if_false, true_and, and_true, false_and, and_false, not_false_eq_true, not_true_eq_false, gd_T, kont_i, kont_v]
      · refine ⟨n, T, σ1, ?_, hH, hW, PlT.self T, by omega, fun o ho => rfl, fun τ l4 f88 f101 f102 => ?_⟩
        · have e1 := h2_layOnTop_no (d + 96) (F (4 * n)) (F (4 * n + 1)) (F (4 * n + 2)) (F (4 * n + 3)) σ1 ht
          simp only [s92_46]
          simp only [s92_48, s92_50, s92_53, s92_54_o0, s92_57, s92_58_o76, s92_59, s92_61, s92_62_o77, s92_62_o79, s92_62_o81, s92_62_o83, s92_65, s92_68, s92_69_o0, s92_72_o1, s92_75, s92_76, s92_78_o78, s92_78_o80, s92_78_o82, s92_78_o84, s92_79, s92_80, s92_82, s92_83, s92_84_o78, s92_84_o80, s92_84_o82, s92_84_o84, s92_85, s92_86, s92_88, s92_89, s92_90_o78, s92_90_o80, s92_90_o82, s92_90_o84, s92_91, s92_92, s92_94, s92_95, s92_96_o78, s92_96_o80, s92_96_o82, s92_96_o84, s92_97_o2, s92_100, s92_103, s92_104, s92_105, s92_108, s92_111, g, vs, cs, cr76_0, kst, e78, i1, i2, i3, a0, a1, a2, a3, x0, x1, x2, x3, e1, simprocAttr, if_true, if_false, true_and, and_true, false_and, and_false, not_false_eq_true, not_true_eq_false, gd_T, kont_i, kont_v]
        · have m0 := f102 (4 * n) (by omega)
          have m1 := f102 (4 * n + 1) (by omega)
          have m2 := f102 (4 * n + 2) (by omega)
          have m3 := f102 (4 * n + 3) (by omega)
          have e : rep τ 88 T = τ := by rw [← f88, rep_same]
          rw [e]
          simp only [s207_37]
          simp only [s207_38, s207_39, s207_40, s207_41, s207_42, s207_43_o87, s207_46, s207_47_o101, s207_48, s207_51, s207_52, s207_53_o87, s207_56, s207_57_o102, s207_58, s207_59_o87, s207_62, s207_63, s207_64, s207_65_o102, s207_66, s207_67_o87, s207_70, s207_71, s207_72, s207_73_o102, s207_74, s207_75_o87, s207_78, s207_79, s207_80, s207_81_o102, s207_82_o87, s207_85, s207_88, s207_89, s207_90_o87, s207_93, s207_94, s207_95, s207_96_o102, s207_97_o87, s207_100, s207_101, s207_104, s207_105, s207_106, s207_107, s207_108_o87, s207_111, s207_112_o102, s207_113, s207_114_o87, s207_117, s207_118, s207_119, s207_120_o102, s207_121, s207_122_o87, s207_125, s207_126, s207_127, s207_128_o102, s207_129, s207_130_o87, s207_133, s207_134, s207_135, s207_136_o102, s207_137_o87, s207_140, s207_142, s207_145, s207_148, e4, q1, vs, cs, f101, j1, j2, j3, y0, y1, y2, y3, z0, z1, z2, z3, m0, m1, m2, m3, m_isAsTold, b2_F ht, simprocAttr, if_true, if_false, true_and, and_true, false_and, and_false, not_false_eq_true, not_true_eq_false, gd_T, kont_i, kont_v]
    · have hst : ¬ stQ qs (nI (4 * n)) 4 := fun c => by
        obtain ⟨a, b, ea, eb, hab⟩ := (stQ_n hq).mp c
        rw [nI_eq (by omega) (by omega)] at ea
        have eb : nI 4 = nI b := eb
        rw [nI_eq (by omega) (by omega)] at eb
        omega
      rw [b2_F hst] at kst
      have q1 : (nI qs < nI (4 * n + 4)) = True := by rw [lt_nn (by omega) (by omega)]; exact eq_true (by omega)
      refine ⟨n, T, σ1, ?_, hH, hW, PlT.self T, by omega, fun o ho => rfl, fun τ l4 f88 f101 f102 => ?_⟩
      · simp only [s92_46]
        simp only [s92_48, s92_50, s92_53, s92_54_o0, s92_57, s92_58_o76, s92_59, s92_61, s92_62_o77, s92_62_o79, s92_62_o81, s92_62_o83, s92_65, s92_68, s92_69_o0, s92_72_o1, s92_75, s92_76, s92_78_o78, s92_78_o80, s92_78_o82, s92_78_o84, s92_79, s92_80, s92_82, s92_83, s92_84_o78, s92_84_o80, s92_84_o82, s92_84_o84, s92_85, s92_86, s92_88, s92_89, s92_90_o78, s92_90_o80, s92_90_o82, s92_90_o84, s92_91, s92_92, s92_94, s92_95, s92_96_o78, s92_96_o80, s92_96_o82, s92_96_o84, s92_97_o2, s92_100, s92_103, s92_104, s92_105, s92_108, s92_111, s92_114, s92_115, g, vs, cs, cr76_0, kst, simprocAttr, if_true, if_false, true_and, and_true, false_and, and_false, not_false_eq_true, not_true_eq_false, gd_T, kont_i, kont_v]
      · have e : rep τ 88 T = τ := by rw [← f88, rep_same]
        rw [e]
        simp only [s207_37]
        simp only [s207_38, s207_39, s207_40, s207_41, s207_42, s207_43_o87, s207_46, s207_47_o101, s207_48, s207_51, s207_52, s207_53_o87, s207_56, s207_57_o102, s207_58, s207_59_o87, s207_62, s207_63, s207_64, s207_65_o102, s207_66, s207_67_o87, s207_70, s207_71, s207_72, s207_73_o102, s207_74, s207_75_o87, s207_78, s207_79, s207_80, s207_81_o102, s207_82_o87, s207_85, s207_88, s207_89, s207_90_o87, s207_93, s207_94, s207_95, s207_96_o102, s207_97_o87, s207_100, s207_101, s207_104, s207_105, s207_106, s207_107, s207_108_o87, s207_111, s207_112_o102, s207_113, s207_114_o87, s207_117, s207_118, s207_119, s207_120_o102, s207_121, s207_122_o87, s207_125, s207_126, s207_127, s207_128_o102, s207_129, s207_130_o87, s207_133, s207_134, s207_135, s207_136_o102, s207_137_o87, s207_140, s207_142, s207_145, s207_148, s207_151, s207_152, e4, q1, vs, cs, f101, simprocAttr, if_true, if_false, true_and, and_true, false_and, and_false, not_false_eq_true, not_true_eq_false, gd_T, kont_i, kont_v]
theorem L_armfuls_0 {i : Nat} {σ : Hs} (h : RR i σ) (d : Nat) : Step d i 92 207 [.int (nI 0)] σ := by
  have hst : (0 ≤ nI 0 ∧ nI 0 ≤ 3) = True := eq_true (by decide +kernel)
  obtain ⟨⟨a1, a2⟩, qs, p1, p2, p3, p4⟩ := h.2.2.2.2.2.2.1 0 (by omega)
  have a1 : σ 77 1 = σ 100 0 := a1
  have p2 : σ 77 2 = nI qs := p2
  have vs : vp_in (nI 0) 4 = True := vp_nI (by omega) (by omega)
  have cs : (nI 0).toNatClampNeg = 0 := cl_nI (by omega)
  have ms := k_isMissing_0 (d + 98) σ _ a1
  have g100 : ∀ k, erC σ k 100 = σ 100 := fun k => rep_ne (by omega)
  by_cases w1 : σ 100 0 = 0
  · refine Step_err h 2 (v := -1000002) ?_ ?_
    · simp only [c92, s92_0, s92_1, s92_4, s92_7, s92_8, s92_9_o0, s92_12, s92_13, s92_14_o0, s92_17, s92_18_o76, s92_19_o77, s92_19_o79, s92_19_o81, s92_19_o83, s92_22, s92_25, s92_26, s92_27_o0, s92_30, s92_31, s92_32, s92_33, s92_34_o0, s92_37, s92_38_o76, s92_39_o77, s92_39_o79, s92_39_o81, s92_39_o83, s92_42, s92_43, s92_44, s92_48, s92_50, s92_53, s92_54_o0, s92_57, s92_58_o76, s92_59, s92_61, s92_62_o77, s92_62_o79, s92_62_o81, s92_62_o83, s92_65, s92_68, s92_69_o0, s92_72_o1, s92_75, s92_76, s92_78_o78, s92_78_o80, s92_78_o82, s92_78_o84, s92_79, s92_80, s92_82, s92_83, s92_84_o78, s92_84_o80, s92_84_o82, s92_84_o84, s92_85, s92_86, s92_88, s92_89, s92_90_o78, s92_90_o80, s92_90_o82, s92_90_o84, s92_91, s92_92, s92_94, s92_95, s92_96_o78, s92_96_o80, s92_96_o82, s92_96_o84, s92_97_o2, s92_100, s92_103, s92_104, s92_105, s92_108, s92_111, s92_114, s92_115, k_isSheet, hst, b2_t, vs, cs, cr76_0, ms, b2_T w1, k_failed_2, simprocAttr, if_true, if_false, true_and, and_true, false_and, and_false, not_false_eq_true, not_true_eq_false, gd_T, kont_i, kont_v]
    · simp only [c207, s207_0, s207_1, s207_4, s207_7, s207_8, s207_10_o87, s207_13, s207_14, s207_15_o87, s207_18, s207_19_o100, s207_20, s207_23, s207_24, s207_26_o87, s207_29, s207_30, s207_31, s207_32, s207_34, s207_35, s207_36, m_isSheet, hst, b2_t, vs, cs, g100, w1, m_fin_2, simprocAttr, if_true, if_false, true_and, and_true, false_and, and_false, not_false_eq_true, not_true_eq_false, gd_T, kont_i, kont_v]
  · obtain ⟨v, T', σ2, o1, o2, o3, o4, o5, o6, o7⟩ := k_armfuls_0 d qs p1 (σ 78) 6 0 rfl σ (σ 88) h.hr h.wi rfl p2
    have c1 : callD (d + 100) 92 [.ref 0, .int (nI 0)] σ = some (some (.int (nI v)), σ2) := by
      simp only [c92, s92_0, s92_1, s92_4, s92_7, s92_8, s92_9_o0, s92_12, s92_13, s92_14_o0, s92_17, s92_18_o76, s92_19_o77, s92_19_o79, s92_19_o81, s92_19_o83, s92_22, s92_25, s92_26, s92_27_o0, s92_30, s92_31, s92_32, s92_33, s92_34_o0, s92_37, s92_38_o76, s92_39_o77, s92_39_o79, s92_39_o81, s92_39_o83, s92_42, s92_43, s92_44, k_isSheet, hst, b2_t, vs, cs, cr76_0, ms, b2_F w1, simprocAttr, if_true, if_false, true_and, and_true, false_and, and_false, not_false_eq_true, not_true_eq_false, gd_T, kont_i, kont_v]
      exact o1
    have c2 : callD (d + 100) 207 [.ref 87, .int (nI 0)] σ2 = some (some (.int (nI v)), rep σ2 88 T') := by
      have w1' : (σ2 100 0 = 0) = False := by rw [o6 100 (by omega)]; exact eq_false w1
      have e24 : (24 : Int32) * nI 0 = nI 0 := by decide +kernel
      simp only [c207, s207_0, s207_1, s207_4, s207_7, s207_8, s207_10_o87, s207_13, s207_14, s207_15_o87, s207_18, s207_19_o100, s207_20, s207_23, s207_24, s207_26_o87, s207_29, s207_30, s207_31, s207_32, s207_34, s207_35, s207_36, m_isSheet, hst, b2_t, vs, cs, w1', e24, simprocAttr, if_true, if_false, true_and, and_true, false_and, and_false, not_false_eq_true, not_true_eq_false, gd_T, kont_i, kont_v]
      exact o7 σ2 _ (o6 88 (by omega)) ((congrFun (o6 101 (by omega)) _).trans p3) (fun k hk => (congrFun (o6 102 (by omega)) _).trans (p4 k hk).symm)
    refine ⟨_, _, _, c1, c2, h.pl (rep_self _ _ _) (o2.fr (fun o o1 o2 => rep_ne (by omega))) o3 o4 (by omega) (h.wb.two c1 c2) (fun o ho => ?_) ?_ ?_⟩
    · unfold kpO at ho
      rw [rep_ne (by omega)]
      exact o6 o (by omega)
    · rw [rep_ne (by omega), o6 87 (by omega)]
    · rw [rep_ne (by omega), o6 87 (by omega)]
theorem k_armfuls_1 (d qs : Nat) (hq : qs ≤ 24) (F : Nat → Int32) : ∀ m n, n + m = 6 → ∀ (σ1 : Hs) (T : Nat → Int32), HR 2 σ1 T → WI T → σ1 80 = F → σ1 79 2 = nI qs → ∃ v T' σ2, ru (d + 99) 92 46 [.ref 0, .int (nI 1), .int (nI n), .ref 80, .int (nI (4 * n))] [] σ1 = some (some (.int (nI v)), σ2) ∧ HR 2 σ2 T' ∧ WI T' ∧ PlT T T' ∧ sN T' 30 ≤ sN T 30 + 1000 * m ∧ (∀ o, (o < 3 ∨ 8 < o) → σ2 o = σ1 o) ∧ ∀ (τ : Hs) (l4 : Value), τ 88 = T → τ 101 1 = nI qs → (∀ k, k < 24 → τ 102 (24 + k) = F k) → ru (d + 99) 207 37 [.ref 87, .int (nI 1), .int (nI n), .int (nI (24 + 4 * n)), l4] [] τ = some (some (.int (nI v)), rep τ 88 T') := by
  have vs : vp_in (nI 1) 4 = True := vp_nI (by omega) (by omega)
  have cs : (nI 1).toNatClampNeg = 1 := cl_nI (by omega)
  intro m
  induction m with
  | zero =>
    intro n hn σ1 T hH hW e78 e77
    obtain rfl : n = 6 := by omega
    refine ⟨6, T, σ1, ?_, hH, hW, PlT.self T, by omega, fun o ho => rfl, fun τ l4 f88 f101 f102 => ?_⟩
    · have g : ((24 : Int32) ≤ nI (4 * 6)) = True := eq_true (by decide +kernel)
      simp only [s92_46]
      simp only [s92_48, s92_50, s92_53, s92_54_o0, s92_57, s92_58_o76, s92_59, s92_61, s92_62_o77, s92_62_o79, s92_62_o81, s92_62_o83, s92_65, s92_68, s92_69_o0, s92_72_o1, s92_75, s92_76, s92_78_o78, s92_78_o80, s92_78_o82, s92_78_o84, s92_79, s92_80, s92_82, s92_83, s92_84_o78, s92_84_o80, s92_84_o82, s92_84_o84, s92_85, s92_86, s92_88, s92_89, s92_90_o78, s92_90_o80, s92_90_o82, s92_90_o84, s92_91, s92_92, s92_94, s92_95, s92_96_o78, s92_96_o80, s92_96_o82, s92_96_o84, s92_97_o2, s92_100, s92_103, s92_104, s92_105, s92_108, s92_111, s92_114, s92_115, g, simprocAttr, if_true, if_false, true_and, and_true, false_and, and_false, not_false_eq_true, not_true_eq_false, gd_T, kont_i, kont_v]
    · have g : (nI qs < (4 : Int32) * nI 6 + 4) = True := by
        rw [show (4 : Int32) * nI 6 + 4 = nI 28 from by decide +kernel, lt_nn (by omega) (by omega)]
        exact eq_true (by omega)
      have e : rep τ 88 T = τ := by rw [← f88, rep_same]
      rw [e]
      simp only [s207_37]
      simp only [s207_38, s207_39, s207_40, s207_41, s207_42, s207_43_o87, s207_46, s207_47_o101, s207_48, s207_51, s207_52, s207_53_o87, s207_56, s207_57_o102, s207_58, s207_59_o87, s207_62, s207_63, s207_64, s207_65_o102, s207_66, s207_67_o87, s207_70, s207_71, s207_72, s207_73_o102, s207_74, s207_75_o87, s207_78, s207_79, s207_80, s207_81_o102, s207_82_o87, s207_85, s207_88, s207_89, s207_90_o87, s207_93, s207_94, s207_95, s207_96_o102, s207_97_o87, s207_100, s207_101, s207_104, s207_105, s207_106, s207_107, s207_108_o87, s207_111, s207_112_o102, s207_113, s207_114_o87, s207_117, s207_118, s207_119, s207_120_o102, s207_121, s207_122_o87, s207_125, s207_126, s207_127, s207_128_o102, s207_129, s207_130_o87, s207_133, s207_134, s207_135, s207_136_o102, s207_137_o87, s207_140, s207_142, s207_145, s207_148, s207_151, s207_152, vs, cs, f101, g, simprocAttr, if_true, if_false, true_and, and_true, false_and, and_false, not_false_eq_true, not_true_eq_false, gd_T, kont_i, kont_v]
  | succ m ih =>
    intro n hn σ1 T hH hW e78 e77
    have g : ((24 : Int32) ≤ nI (4 * n)) = False := by rw [show (24 : Int32) = nI 24 from rfl, le_nn (by omega) (by omega)]; exact eq_false (by omega)
    have kst := k_stand_1 (d + 98) (nI (4 * n)) 4 σ1 _ e77
    have e4 : (4 : Int32) * nI n + 4 = nI (4 * n + 4) := by rw [show (4 : Int32) = nI 4 from rfl, pk_mul, nI_add]
    by_cases hs : 4 * n + 4 ≤ qs
    · have hst : stQ qs (nI (4 * n)) 4 := (stQ_n hq).mpr ⟨4 * n, 4, rfl, rfl, hs⟩
      rw [b2_T hst] at kst
      have q1 : (nI qs < nI (4 * n + 4)) = False := by rw [lt_nn (by omega) (by omega)]; exact eq_false (by omega)
      have n1 : nI n + 1 = nI (n + 1) := nI_1 n
      have i1 : nI (4 * n) + 1 = nI (4 * n + 1) := by rw [show (1 : Int32) = nI 1 from rfl, nI_add]
      have i2 : nI (4 * n) + 2 = nI (4 * n + 2) := by rw [show (2 : Int32) = nI 2 from rfl, nI_add]
      have i3 : nI (4 * n) + 3 = nI (4 * n + 3) := by rw [show (3 : Int32) = nI 3 from rfl, nI_add]
      have j1 : nI (24 + 4 * n) + 1 = nI (24 + (4 * n + 1)) := by rw [show (1 : Int32) = nI 1 from rfl, nI_add]; rfl
      have j2 : nI (24 + 4 * n) + 2 = nI (24 + (4 * n + 2)) := by rw [show (2 : Int32) = nI 2 from rfl, nI_add]; rfl
      have j3 : nI (24 + 4 * n) + 3 = nI (24 + (4 * n + 3)) := by rw [show (3 : Int32) = nI 3 from rfl, nI_add]; rfl
      have wk := fun (y : Nat) (hy : y < 24) => vp_nI (k := y) (n := 24) hy (by omega)
      have ck := fun (y : Nat) (hy : y < 24) => cl_nI (k := y) (by omega)
      have wm := fun (y : Nat) (hy : y < 24) => vp_nI (k := 24 + y) (n := 96) (by omega) (by omega)
      have cm := fun (y : Nat) (hy : y < 24) => cl_nI (k := 24 + y) (by omega)
      have a0 := wk (4 * n) (by omega)
      have a1 := wk (4 * n + 1) (by omega)
      have a2 := wk (4 * n + 2) (by omega)
      have a3 := wk (4 * n + 3) (by omega)
      have x0 := ck (4 * n) (by omega)
      have x1 := ck (4 * n + 1) (by omega)
      have x2 := ck (4 * n + 2) (by omega)
      have x3 := ck (4 * n + 3) (by omega)
      have y0 := wm (4 * n) (by omega)
      have y1 := wm (4 * n + 1) (by omega)
      have y2 := wm (4 * n + 2) (by omega)
      have y3 := wm (4 * n + 3) (by omega)
      have z0 := cm (4 * n) (by omega)
      have z1 := cm (4 * n + 1) (by omega)
      have z2 := cm (4 * n + 2) (by omega)
      have z3 := cm (4 * n + 3) (by omega)
      by_cases ht : told4 (F (4 * n)) (F (4 * n + 1)) (F (4 * n + 2)) (F (4 * n + 3))
      · obtain ⟨k', c', s', w', r0, r1, r2, r3, lk, lc, l1, ls, lw⟩ := told_n ht
        rw [r0, r1, r2, r3] at ht
        have hle := hiT_le T c'
        by_cases h5 : hiT T c' < 5
        · obtain ⟨σ2, e1, rr, f1⟩ := h2_layOnTop (d + 96) (nI k') (nI s') (nI w') c' lc σ1 T hH hW.P ht h5
          have sn : sN (setT T (6 * hiT T c' + c') (nI k') (nI s') (nI w') 3 0 0) 30 = sN T 30 + s' := sN_set (by omega) ls (hi_not h5)
          have pl : PlT T (setT T (6 * hiT T c' + c') (nI k') (nI s') (nI w') 3 0 0) := PlT_set (by omega)
          obtain ⟨v, T', σ3, o1, o2, o3, o4, o5, o6, o7⟩ := ih (n + 1) (by omega) σ2 _ rr (hW.lay lc h5 lk l1 ls lw) ((f1 80 (by omega)).trans e78) ((congrFun (f1 79 (by omega)) 2).trans e77)
          refine ⟨v, T', σ3, ?_, o2, o3, pl.tr o4, by omega, fun o ho => (o6 o ho).trans (f1 o ho), fun τ l4 f88 f101 f102 => ?_⟩
          · have p31 : 6 * hiT T c' + c' < 2147483648 := by omega
            have p0 : (0 ≤ nI (6 * hiT T c' + c')) = True := eq_true (nI_pos' p31)
            rw [← o1]
            have e5 : nI (4 * (n + 1)) = nI (4 * n) + 4 := by rw [show (4 : Int32) = nI 4 from rfl, nI_add]; rfl
            rw [e5]
            generalize hR : ru (d + 99) 92 46 _ [] σ2 = R
            simp only [s92_46]
            simp only [s92_48, s92_50, s92_53, s92_54_o0, s92_57, s92_58_o76, s92_59, s92_61, s92_62_o77, s92_62_o79, s92_62_o81, s92_62_o83, s92_65, s92_68, s92_69_o0, s92_72_o1, s92_75, s92_76, s92_78_o78, s92_78_o80, s92_78_o82, s92_78_o84, s92_79, s92_80, s92_82, s92_83, s92_84_o78, s92_84_o80, s92_84_o82, s92_84_o84, s92_85, s92_86, s92_88, s92_89, s92_90_o78, s92_90_o80, s92_90_o82, s92_90_o84, s92_91, s92_92, s92_94, s92_95, s92_96_o78, s92_96_o80, s92_96_o82, s92_96_o84, s92_97_o2, s92_100, s92_103, s92_104, s92_105, s92_108, s92_111, g, vs, cs, cr76_1, kst, e78, i1, i2, i3, a0, a1, a2, a3, x0, x1, x2, x3, r0, r1, r2, r3, e1, p0, n1, simprocAttr, if_true, if_false, true_and, and_true, false_and, and_false, not_false_eq_true, not_true_eq_false, gd_T, kont_i, kont_v]
            exact hR
          · have m0 : τ 102 (24 + 4 * n) = nI k' := (f102 (4 * n) (by omega)).trans r0
            have m1 : τ 102 (24 + (4 * n + 1)) = nI c' := (f102 (4 * n + 1) (by omega)).trans r1
            have m2 : τ 102 (24 + (4 * n + 2)) = nI s' := (f102 (4 * n + 2) (by omega)).trans r2
            have m3 : τ 102 (24 + (4 * n + 3)) = nI w' := (f102 (4 * n + 3) (by omega)).trans r3
            have hh := m_highOf (d + 96) c' lc τ
            rw [f88] at hh
            have hl := m_lays (d + 95) c' lc (nI k') (nI s') (nI w') τ (by rw [f88]; exact h5)
            rw [f88] at hl
            have n5 : (nI (hiT T c') = 5) = False := by rw [show (5 : Int32) = nI 5 from rfl, eq_nn (by omega) (by omega)]; exact eq_false (by omega)
            have hi := o7 (rep τ 88 (setT T (6 * hiT T c' + c') (nI k') (nI s') (nI w') 3 0 0)) (.int (nI (6 * hiT T c' + c'))) (rep_self _ _ _) (by rw [rep_ne (by omega)]; exact f101) (fun k hk => by rw [rep_ne (by omega)]; exact f102 k hk)
            rw [rep_rep, show 24 + 4 * (n + 1) = 24 + 4 * n + 4 by omega, ← nI_add (24 + 4 * n) 4, show nI 4 = (4 : Int32) from rfl] at hi
            rw [← hi]
            generalize hR : ru (d + 99) 207 37 _ [] (rep τ 88 (setT T (6 * hiT T c' + c') (nI k') (nI s') (nI w') 3 0 0)) = R
            simp only [s207_37]
            simp only [s207_38, s207_39, s207_40, s207_41, s207_42, s207_43_o87, s207_46, s207_47_o101, s207_48, s207_51, s207_52, s207_53_o87, s207_56, s207_57_o102, s207_58, s207_59_o87, s207_62, s207_63, s207_64, s207_65_o102, s207_66, s207_67_o87, s207_70, s207_71, s207_72, s207_73_o102, s207_74, s207_75_o87, s207_78, s207_79, s207_80, s207_81_o102, s207_82_o87, s207_85, s207_88, s207_89, s207_90_o87, s207_93, s207_94, s207_95, s207_96_o102, s207_97_o87, s207_100, s207_101, s207_104, s207_105, s207_106, s207_107, s207_108_o87, s207_111, s207_112_o102, s207_113, s207_114_o87, s207_117, s207_118, s207_119, s207_120_o102, s207_121, s207_122_o87, s207_125, s207_126, s207_127, s207_128_o102, s207_129, s207_130_o87, s207_133, s207_134, s207_135, s207_136_o102, s207_137_o87, s207_140, s207_142, s207_145, s207_148, e4, q1, vs, cs, f101, j1, j2, j3, y0, y1, y2, y3, z0, z1, z2, z3, m0, m1, m2, m3, m_isAsTold, b2_T ht, hh, n5, hl, n1, simprocAttr, if_true, if_false, true_and, and_true, false_and, and_false, not_false_eq_true, not_true_eq_false, gd_T, kont_i, kont_v]
            exact hR
        · refine ⟨n, T, σ1, ?_, hH, hW, PlT.self T, by omega, fun o ho => rfl, fun τ l4 f88 f101 f102 => ?_⟩
          · have e1 := h2_layOnTop_full (d + 96) (nI k') (nI s') (nI w') c' lc σ1 T hH hW.P ht h5
            simp only [s92_46]
            simp only [s92_48, s92_50, s92_53, s92_54_o0, s92_57, s92_58_o76, s92_59, s92_61, s92_62_o77, s92_62_o79, s92_62_o81, s92_62_o83, s92_65, s92_68, s92_69_o0, s92_72_o1, s92_75, s92_76, s92_78_o78, s92_78_o80, s92_78_o82, s92_78_o84, s92_79, s92_80, s92_82, s92_83, s92_84_o78, s92_84_o80, s92_84_o82, s92_84_o84, s92_85, s92_86, s92_88, s92_89, s92_90_o78, s92_90_o80, s92_90_o82, s92_90_o84, s92_91, s92_92, s92_94, s92_95, s92_96_o78, s92_96_o80, s92_96_o82, s92_96_o84, s92_97_o2, s92_100, s92_103, s92_104, s92_105, s92_108, s92_111, g, vs, cs, cr76_1, kst, e78, i1, i2, i3, a0, a1, a2, a3, x0, x1, x2, x3, r0, r1, r2, r3, e1, simprocAttr, if_true, if_false, true_and, and_true, false_and, and_false, not_false_eq_true, not_true_eq_false, gd_T, kont_i, kont_v]
          · have m0 : τ 102 (24 + 4 * n) = nI k' := (f102 (4 * n) (by omega)).trans r0
            have m1 : τ 102 (24 + (4 * n + 1)) = nI c' := (f102 (4 * n + 1) (by omega)).trans r1
            have m2 : τ 102 (24 + (4 * n + 2)) = nI s' := (f102 (4 * n + 2) (by omega)).trans r2
            have m3 : τ 102 (24 + (4 * n + 3)) = nI w' := (f102 (4 * n + 3) (by omega)).trans r3
            have hh := m_highOf (d + 96) c' lc τ
            rw [f88, show hiT T c' = 5 by omega] at hh
            have e : rep τ 88 T = τ := by rw [← f88, rep_same]
            rw [e]
            simp only [s207_37]
            simp only [s207_38, s207_39, s207_40, s207_41, s207_42, s207_43_o87, s207_46, s207_47_o101, s207_48, s207_51, s207_52, s207_53_o87, s207_56, s207_57_o102, s207_58, s207_59_o87, s207_62, s207_63, s207_64, s207_65_o102, s207_66, s207_67_o87, s207_70, s207_71, s207_72, s207_73_o102, s207_74, s207_75_o87, s207_78, s207_79, s207_80, s207_81_o102, s207_82_o87, s207_85, s207_88, s207_89, s207_90_o87, s207_93, s207_94, s207_95, s207_96_o102, s207_97_o87, s207_100, s207_101, s207_104, s207_105, s207_106, s207_107, s207_108_o87, s207_111, s207_112_o102, s207_113, s207_114_o87, s207_117, s207_118, s207_119, s207_120_o102, s207_121, s207_122_o87, s207_125, s207_126, s207_127, s207_128_o102, s207_129, s207_130_o87, s207_133, s207_134, s207_135, s207_136_o102, s207_137_o87, s207_140, s207_142, s207_145, s207_148, e4, q1, vs, cs, f101, j1, j2, j3, y0, y1, y2, y3, z0, z1, z2, z3, m0, m1, m2, m3, m_isAsTold, b2_T ht, hh, n_5, simprocAttr, if_true, if_false, true_and, and_true, false_and, and_false, not_false_eq_true, not_true_eq_false, gd_T, kont_i, kont_v]
      · refine ⟨n, T, σ1, ?_, hH, hW, PlT.self T, by omega, fun o ho => rfl, fun τ l4 f88 f101 f102 => ?_⟩
        · have e1 := h2_layOnTop_no (d + 96) (F (4 * n)) (F (4 * n + 1)) (F (4 * n + 2)) (F (4 * n + 3)) σ1 ht
          simp only [s92_46]
          simp only [s92_48, s92_50, s92_53, s92_54_o0, s92_57, s92_58_o76, s92_59, s92_61, s92_62_o77, s92_62_o79, s92_62_o81, s92_62_o83, s92_65, s92_68, s92_69_o0, s92_72_o1, s92_75, s92_76, s92_78_o78, s92_78_o80, s92_78_o82, s92_78_o84, s92_79, s92_80, s92_82, s92_83, s92_84_o78, s92_84_o80, s92_84_o82, s92_84_o84, s92_85, s92_86, s92_88, s92_89, s92_90_o78, s92_90_o80, s92_90_o82, s92_90_o84, s92_91, s92_92, s92_94, s92_95, s92_96_o78, s92_96_o80, s92_96_o82, s92_96_o84, s92_97_o2, s92_100, s92_103, s92_104, s92_105, s92_108, s92_111, g, vs, cs, cr76_1, kst, e78, i1, i2, i3, a0, a1, a2, a3, x0, x1, x2, x3, e1, simprocAttr, if_true, if_false, true_and, and_true, false_and, and_false, not_false_eq_true, not_true_eq_false, gd_T, kont_i, kont_v]
        · have m0 := f102 (4 * n) (by omega)
          have m1 := f102 (4 * n + 1) (by omega)
          have m2 := f102 (4 * n + 2) (by omega)
          have m3 := f102 (4 * n + 3) (by omega)
          have e : rep τ 88 T = τ := by rw [← f88, rep_same]
          rw [e]
          simp only [s207_37]
          simp only [s207_38, s207_39, s207_40, s207_41, s207_42, s207_43_o87, s207_46, s207_47_o101, s207_48, s207_51, s207_52, s207_53_o87, s207_56, s207_57_o102, s207_58, s207_59_o87, s207_62, s207_63, s207_64, s207_65_o102, s207_66, s207_67_o87, s207_70, s207_71, s207_72, s207_73_o102, s207_74, s207_75_o87, s207_78, s207_79, s207_80, s207_81_o102, s207_82_o87, s207_85, s207_88, s207_89, s207_90_o87, s207_93, s207_94, s207_95, s207_96_o102, s207_97_o87, s207_100, s207_101, s207_104, s207_105, s207_106, s207_107, s207_108_o87, s207_111, s207_112_o102, s207_113, s207_114_o87, s207_117, s207_118, s207_119, s207_120_o102, s207_121, s207_122_o87, s207_125, s207_126, s207_127, s207_128_o102, s207_129, s207_130_o87, s207_133, s207_134, s207_135, s207_136_o102, s207_137_o87, s207_140, s207_142, s207_145, s207_148, e4, q1, vs, cs, f101, j1, j2, j3, y0, y1, y2, y3, z0, z1, z2, z3, m0, m1, m2, m3, m_isAsTold, b2_F ht, simprocAttr, if_true, if_false, true_and, and_true, false_and, and_false, not_false_eq_true, not_true_eq_false, gd_T, kont_i, kont_v]
    · have hst : ¬ stQ qs (nI (4 * n)) 4 := fun c => by
        obtain ⟨a, b, ea, eb, hab⟩ := (stQ_n hq).mp c
        rw [nI_eq (by omega) (by omega)] at ea
        have eb : nI 4 = nI b := eb
        rw [nI_eq (by omega) (by omega)] at eb
        omega
      rw [b2_F hst] at kst
      have q1 : (nI qs < nI (4 * n + 4)) = True := by rw [lt_nn (by omega) (by omega)]; exact eq_true (by omega)
      refine ⟨n, T, σ1, ?_, hH, hW, PlT.self T, by omega, fun o ho => rfl, fun τ l4 f88 f101 f102 => ?_⟩
      · simp only [s92_46]
        simp only [s92_48, s92_50, s92_53, s92_54_o0, s92_57, s92_58_o76, s92_59, s92_61, s92_62_o77, s92_62_o79, s92_62_o81, s92_62_o83, s92_65, s92_68, s92_69_o0, s92_72_o1, s92_75, s92_76, s92_78_o78, s92_78_o80, s92_78_o82, s92_78_o84, s92_79, s92_80, s92_82, s92_83, s92_84_o78, s92_84_o80, s92_84_o82, s92_84_o84, s92_85, s92_86, s92_88, s92_89, s92_90_o78, s92_90_o80, s92_90_o82, s92_90_o84, s92_91, s92_92, s92_94, s92_95, s92_96_o78, s92_96_o80, s92_96_o82, s92_96_o84, s92_97_o2, s92_100, s92_103, s92_104, s92_105, s92_108, s92_111, s92_114, s92_115, g, vs, cs, cr76_1, kst, simprocAttr, if_true, if_false, true_and, and_true, false_and, and_false, not_false_eq_true, not_true_eq_false, gd_T, kont_i, kont_v]
      · have e : rep τ 88 T = τ := by rw [← f88, rep_same]
        rw [e]
        simp only [s207_37]
        simp only [s207_38, s207_39, s207_40, s207_41, s207_42, s207_43_o87, s207_46, s207_47_o101, s207_48, s207_51, s207_52, s207_53_o87, s207_56, s207_57_o102, s207_58, s207_59_o87, s207_62, s207_63, s207_64, s207_65_o102, s207_66, s207_67_o87, s207_70, s207_71, s207_72, s207_73_o102, s207_74, s207_75_o87, s207_78, s207_79, s207_80, s207_81_o102, s207_82_o87, s207_85, s207_88, s207_89, s207_90_o87, s207_93, s207_94, s207_95, s207_96_o102, s207_97_o87, s207_100, s207_101, s207_104, s207_105, s207_106, s207_107, s207_108_o87, s207_111, s207_112_o102, s207_113, s207_114_o87, s207_117, s207_118, s207_119, s207_120_o102, s207_121, s207_122_o87, s207_125, s207_126, s207_127, s207_128_o102, s207_129, s207_130_o87, s207_133, s207_134, s207_135, s207_136_o102, s207_137_o87, s207_140, s207_142, s207_145, s207_148, s207_151, s207_152, e4, q1, vs, cs, f101, simprocAttr, if_true, if_false, true_and, and_true, false_and, and_false, not_false_eq_true, not_true_eq_false, gd_T, kont_i, kont_v]
theorem L_armfuls_1 {i : Nat} {σ : Hs} (h : RR i σ) (d : Nat) : Step d i 92 207 [.int (nI 1)] σ := by
  have hst : (0 ≤ nI 1 ∧ nI 1 ≤ 3) = True := eq_true (by decide +kernel)
  obtain ⟨⟨a1, a2⟩, qs, p1, p2, p3, p4⟩ := h.2.2.2.2.2.2.1 1 (by omega)
  have a1 : σ 79 1 = σ 100 1 := a1
  have p2 : σ 79 2 = nI qs := p2
  have vs : vp_in (nI 1) 4 = True := vp_nI (by omega) (by omega)
  have cs : (nI 1).toNatClampNeg = 1 := cl_nI (by omega)
  have ms := k_isMissing_1 (d + 98) σ _ a1
  have g100 : ∀ k, erC σ k 100 = σ 100 := fun k => rep_ne (by omega)
  by_cases w1 : σ 100 1 = 0
  · refine Step_err h 2 (v := -1000002) ?_ ?_
    · simp only [c92, s92_0, s92_1, s92_4, s92_7, s92_8, s92_9_o0, s92_12, s92_13, s92_14_o0, s92_17, s92_18_o76, s92_19_o77, s92_19_o79, s92_19_o81, s92_19_o83, s92_22, s92_25, s92_26, s92_27_o0, s92_30, s92_31, s92_32, s92_33, s92_34_o0, s92_37, s92_38_o76, s92_39_o77, s92_39_o79, s92_39_o81, s92_39_o83, s92_42, s92_43, s92_44, s92_48, s92_50, s92_53, s92_54_o0, s92_57, s92_58_o76, s92_59, s92_61, s92_62_o77, s92_62_o79, s92_62_o81, s92_62_o83, s92_65, s92_68, s92_69_o0, s92_72_o1, s92_75, s92_76, s92_78_o78, s92_78_o80, s92_78_o82, s92_78_o84, s92_79, s92_80, s92_82, s92_83, s92_84_o78, s92_84_o80, s92_84_o82, s92_84_o84, s92_85, s92_86, s92_88, s92_89, s92_90_o78, s92_90_o80, s92_90_o82, s92_90_o84, s92_91, s92_92, s92_94, s92_95, s92_96_o78, s92_96_o80, s92_96_o82, s92_96_o84, s92_97_o2, s92_100, s92_103, s92_104, s92_105, s92_108, s92_111, s92_114, s92_115, k_isSheet, hst, b2_t, vs, cs, cr76_1, ms, b2_T w1, k_failed_2, simprocAttr, if_true, if_false, true_and, and_true, false_and, and_false, not_false_eq_true, not_true_eq_false, gd_T, kont_i, kont_v]
    · simp only [c207, s207_0, s207_1, s207_4, s207_7, s207_8, s207_10_o87, s207_13, s207_14, s207_15_o87, s207_18, s207_19_o100, s207_20, s207_23, s207_24, s207_26_o87, s207_29, s207_30, s207_31, s207_32, s207_34, s207_35, s207_36, m_isSheet, hst, b2_t, vs, cs, g100, w1, m_fin_2, simprocAttr, if_true, if_false, true_and, and_true, false_and, and_false, not_false_eq_true, not_true_eq_false, gd_T, kont_i, kont_v]
  · obtain ⟨v, T', σ2, o1, o2, o3, o4, o5, o6, o7⟩ := k_armfuls_1 d qs p1 (σ 80) 6 0 rfl σ (σ 88) h.hr h.wi rfl p2
    have c1 : callD (d + 100) 92 [.ref 0, .int (nI 1)] σ = some (some (.int (nI v)), σ2) := by
      simp only [c92, s92_0, s92_1, s92_4, s92_7, s92_8, s92_9_o0, s92_12, s92_13, s92_14_o0, s92_17, s92_18_o76, s92_19_o77, s92_19_o79, s92_19_o81, s92_19_o83, s92_22, s92_25, s92_26, s92_27_o0, s92_30, s92_31, s92_32, s92_33, s92_34_o0, s92_37, s92_38_o76, s92_39_o77, s92_39_o79, s92_39_o81, s92_39_o83, s92_42, s92_43, s92_44, k_isSheet, hst, b2_t, vs, cs, cr76_1, ms, b2_F w1, simprocAttr, if_true, if_false, true_and, and_true, false_and, and_false, not_false_eq_true, not_true_eq_false, gd_T, kont_i, kont_v]
      exact o1
    have c2 : callD (d + 100) 207 [.ref 87, .int (nI 1)] σ2 = some (some (.int (nI v)), rep σ2 88 T') := by
      have w1' : (σ2 100 1 = 0) = False := by rw [o6 100 (by omega)]; exact eq_false w1
      have e24 : (24 : Int32) * nI 1 = nI 24 := by decide +kernel
      simp only [c207, s207_0, s207_1, s207_4, s207_7, s207_8, s207_10_o87, s207_13, s207_14, s207_15_o87, s207_18, s207_19_o100, s207_20, s207_23, s207_24, s207_26_o87, s207_29, s207_30, s207_31, s207_32, s207_34, s207_35, s207_36, m_isSheet, hst, b2_t, vs, cs, w1', e24, simprocAttr, if_true, if_false, true_and, and_true, false_and, and_false, not_false_eq_true, not_true_eq_false, gd_T, kont_i, kont_v]
      exact o7 σ2 _ (o6 88 (by omega)) ((congrFun (o6 101 (by omega)) _).trans p3) (fun k hk => (congrFun (o6 102 (by omega)) _).trans (p4 k hk).symm)
    refine ⟨_, _, _, c1, c2, h.pl (rep_self _ _ _) (o2.fr (fun o o1 o2 => rep_ne (by omega))) o3 o4 (by omega) (h.wb.two c1 c2) (fun o ho => ?_) ?_ ?_⟩
    · unfold kpO at ho
      rw [rep_ne (by omega)]
      exact o6 o (by omega)
    · rw [rep_ne (by omega), o6 87 (by omega)]
    · rw [rep_ne (by omega), o6 87 (by omega)]
theorem k_armfuls_2 (d qs : Nat) (hq : qs ≤ 24) (F : Nat → Int32) : ∀ m n, n + m = 6 → ∀ (σ1 : Hs) (T : Nat → Int32), HR 2 σ1 T → WI T → σ1 82 = F → σ1 81 2 = nI qs → ∃ v T' σ2, ru (d + 99) 92 46 [.ref 0, .int (nI 2), .int (nI n), .ref 82, .int (nI (4 * n))] [] σ1 = some (some (.int (nI v)), σ2) ∧ HR 2 σ2 T' ∧ WI T' ∧ PlT T T' ∧ sN T' 30 ≤ sN T 30 + 1000 * m ∧ (∀ o, (o < 3 ∨ 8 < o) → σ2 o = σ1 o) ∧ ∀ (τ : Hs) (l4 : Value), τ 88 = T → τ 101 2 = nI qs → (∀ k, k < 24 → τ 102 (48 + k) = F k) → ru (d + 99) 207 37 [.ref 87, .int (nI 2), .int (nI n), .int (nI (48 + 4 * n)), l4] [] τ = some (some (.int (nI v)), rep τ 88 T') := by
  have vs : vp_in (nI 2) 4 = True := vp_nI (by omega) (by omega)
  have cs : (nI 2).toNatClampNeg = 2 := cl_nI (by omega)
  intro m
  induction m with
  | zero =>
    intro n hn σ1 T hH hW e78 e77
    obtain rfl : n = 6 := by omega
    refine ⟨6, T, σ1, ?_, hH, hW, PlT.self T, by omega, fun o ho => rfl, fun τ l4 f88 f101 f102 => ?_⟩
    · have g : ((24 : Int32) ≤ nI (4 * 6)) = True := eq_true (by decide +kernel)
      simp only [s92_46]
      simp only [s92_48, s92_50, s92_53, s92_54_o0, s92_57, s92_58_o76, s92_59, s92_61, s92_62_o77, s92_62_o79, s92_62_o81, s92_62_o83, s92_65, s92_68, s92_69_o0, s92_72_o1, s92_75, s92_76, s92_78_o78, s92_78_o80, s92_78_o82, s92_78_o84, s92_79, s92_80, s92_82, s92_83, s92_84_o78, s92_84_o80, s92_84_o82, s92_84_o84, s92_85, s92_86, s92_88, s92_89, s92_90_o78, s92_90_o80, s92_90_o82, s92_90_o84, s92_91, s92_92, s92_94, s92_95, s92_96_o78, s92_96_o80, s92_96_o82, s92_96_o84, s92_97_o2, s92_100, s92_103, s92_104, s92_105, s92_108, s92_111, s92_114, s92_115, g, simprocAttr, if_true, if_false, true_and, and_true, false_and, and_false, not_false_eq_true, not_true_eq_false, gd_T, kont_i, kont_v]
    · have g : (nI qs < (4 : Int32) * nI 6 + 4) = True := by
        rw [show (4 : Int32) * nI 6 + 4 = nI 28 from by decide +kernel, lt_nn (by omega) (by omega)]
        exact eq_true (by omega)
      have e : rep τ 88 T = τ := by rw [← f88, rep_same]
      rw [e]
      simp only [s207_37]
      simp only [s207_38, s207_39, s207_40, s207_41, s207_42, s207_43_o87, s207_46, s207_47_o101, s207_48, s207_51, s207_52, s207_53_o87, s207_56, s207_57_o102, s207_58, s207_59_o87, s207_62, s207_63, s207_64, s207_65_o102, s207_66, s207_67_o87, s207_70, s207_71, s207_72, s207_73_o102, s207_74, s207_75_o87, s207_78, s207_79, s207_80, s207_81_o102, s207_82_o87, s207_85, s207_88, s207_89, s207_90_o87, s207_93, s207_94, s207_95, s207_96_o102, s207_97_o87, s207_100, s207_101, s207_104, s207_105, s207_106, s207_107, s207_108_o87, s207_111, s207_112_o102, s207_113, s207_114_o87, s207_117, s207_118, s207_119, s207_120_o102, s207_121, s207_122_o87, s207_125, s207_126, s207_127, s207_128_o102, s207_129, s207_130_o87, s207_133, s207_134, s207_135, s207_136_o102, s207_137_o87, s207_140, s207_142, s207_145, s207_148, s207_151, s207_152, vs, cs, f101, g, simprocAttr, if_true, if_false, true_and, and_true, false_and, and_false, not_false_eq_true, not_true_eq_false, gd_T, kont_i, kont_v]
  | succ m ih =>
    intro n hn σ1 T hH hW e78 e77
    have g : ((24 : Int32) ≤ nI (4 * n)) = False := by rw [show (24 : Int32) = nI 24 from rfl, le_nn (by omega) (by omega)]; exact eq_false (by omega)
    have kst := k_stand_2 (d + 98) (nI (4 * n)) 4 σ1 _ e77
    have e4 : (4 : Int32) * nI n + 4 = nI (4 * n + 4) := by rw [show (4 : Int32) = nI 4 from rfl, pk_mul, nI_add]
    by_cases hs : 4 * n + 4 ≤ qs
    · have hst : stQ qs (nI (4 * n)) 4 := (stQ_n hq).mpr ⟨4 * n, 4, rfl, rfl, hs⟩
      rw [b2_T hst] at kst
      have q1 : (nI qs < nI (4 * n + 4)) = False := by rw [lt_nn (by omega) (by omega)]; exact eq_false (by omega)
      have n1 : nI n + 1 = nI (n + 1) := nI_1 n
      have i1 : nI (4 * n) + 1 = nI (4 * n + 1) := by rw [show (1 : Int32) = nI 1 from rfl, nI_add]
      have i2 : nI (4 * n) + 2 = nI (4 * n + 2) := by rw [show (2 : Int32) = nI 2 from rfl, nI_add]
      have i3 : nI (4 * n) + 3 = nI (4 * n + 3) := by rw [show (3 : Int32) = nI 3 from rfl, nI_add]
      have j1 : nI (48 + 4 * n) + 1 = nI (48 + (4 * n + 1)) := by rw [show (1 : Int32) = nI 1 from rfl, nI_add]; rfl
      have j2 : nI (48 + 4 * n) + 2 = nI (48 + (4 * n + 2)) := by rw [show (2 : Int32) = nI 2 from rfl, nI_add]; rfl
      have j3 : nI (48 + 4 * n) + 3 = nI (48 + (4 * n + 3)) := by rw [show (3 : Int32) = nI 3 from rfl, nI_add]; rfl
      have wk := fun (y : Nat) (hy : y < 24) => vp_nI (k := y) (n := 24) hy (by omega)
      have ck := fun (y : Nat) (hy : y < 24) => cl_nI (k := y) (by omega)
      have wm := fun (y : Nat) (hy : y < 24) => vp_nI (k := 48 + y) (n := 96) (by omega) (by omega)
      have cm := fun (y : Nat) (hy : y < 24) => cl_nI (k := 48 + y) (by omega)
      have a0 := wk (4 * n) (by omega)
      have a1 := wk (4 * n + 1) (by omega)
      have a2 := wk (4 * n + 2) (by omega)
      have a3 := wk (4 * n + 3) (by omega)
      have x0 := ck (4 * n) (by omega)
      have x1 := ck (4 * n + 1) (by omega)
      have x2 := ck (4 * n + 2) (by omega)
      have x3 := ck (4 * n + 3) (by omega)
      have y0 := wm (4 * n) (by omega)
      have y1 := wm (4 * n + 1) (by omega)
      have y2 := wm (4 * n + 2) (by omega)
      have y3 := wm (4 * n + 3) (by omega)
      have z0 := cm (4 * n) (by omega)
      have z1 := cm (4 * n + 1) (by omega)
      have z2 := cm (4 * n + 2) (by omega)
      have z3 := cm (4 * n + 3) (by omega)
      by_cases ht : told4 (F (4 * n)) (F (4 * n + 1)) (F (4 * n + 2)) (F (4 * n + 3))
      · obtain ⟨k', c', s', w', r0, r1, r2, r3, lk, lc, l1, ls, lw⟩ := told_n ht
        rw [r0, r1, r2, r3] at ht
        have hle := hiT_le T c'
        by_cases h5 : hiT T c' < 5
        · obtain ⟨σ2, e1, rr, f1⟩ := h2_layOnTop (d + 96) (nI k') (nI s') (nI w') c' lc σ1 T hH hW.P ht h5
          have sn : sN (setT T (6 * hiT T c' + c') (nI k') (nI s') (nI w') 3 0 0) 30 = sN T 30 + s' := sN_set (by omega) ls (hi_not h5)
          have pl : PlT T (setT T (6 * hiT T c' + c') (nI k') (nI s') (nI w') 3 0 0) := PlT_set (by omega)
          obtain ⟨v, T', σ3, o1, o2, o3, o4, o5, o6, o7⟩ := ih (n + 1) (by omega) σ2 _ rr (hW.lay lc h5 lk l1 ls lw) ((f1 82 (by omega)).trans e78) ((congrFun (f1 81 (by omega)) 2).trans e77)
          refine ⟨v, T', σ3, ?_, o2, o3, pl.tr o4, by omega, fun o ho => (o6 o ho).trans (f1 o ho), fun τ l4 f88 f101 f102 => ?_⟩
          · have p31 : 6 * hiT T c' + c' < 2147483648 := by omega
            have p0 : (0 ≤ nI (6 * hiT T c' + c')) = True := eq_true (nI_pos' p31)
            rw [← o1]
            have e5 : nI (4 * (n + 1)) = nI (4 * n) + 4 := by rw [show (4 : Int32) = nI 4 from rfl, nI_add]; rfl
            rw [e5]
            generalize hR : ru (d + 99) 92 46 _ [] σ2 = R
            simp only [s92_46]
            simp only [s92_48, s92_50, s92_53, s92_54_o0, s92_57, s92_58_o76, s92_59, s92_61, s92_62_o77, s92_62_o79, s92_62_o81, s92_62_o83, s92_65, s92_68, s92_69_o0, s92_72_o1, s92_75, s92_76, s92_78_o78, s92_78_o80, s92_78_o82, s92_78_o84, s92_79, s92_80, s92_82, s92_83, s92_84_o78, s92_84_o80, s92_84_o82, s92_84_o84, s92_85, s92_86, s92_88, s92_89, s92_90_o78, s92_90_o80, s92_90_o82, s92_90_o84, s92_91, s92_92, s92_94, s92_95, s92_96_o78, s92_96_o80, s92_96_o82, s92_96_o84, s92_97_o2, s92_100, s92_103, s92_104, s92_105, s92_108, s92_111, g, vs, cs, cr76_2, kst, e78, i1, i2, i3, a0, a1, a2, a3, x0, x1, x2, x3, r0, r1, r2, r3, e1, p0, n1, simprocAttr, if_true, if_false, true_and, and_true, false_and, and_false, not_false_eq_true, not_true_eq_false, gd_T, kont_i, kont_v]
            exact hR
          · have m0 : τ 102 (48 + 4 * n) = nI k' := (f102 (4 * n) (by omega)).trans r0
            have m1 : τ 102 (48 + (4 * n + 1)) = nI c' := (f102 (4 * n + 1) (by omega)).trans r1
            have m2 : τ 102 (48 + (4 * n + 2)) = nI s' := (f102 (4 * n + 2) (by omega)).trans r2
            have m3 : τ 102 (48 + (4 * n + 3)) = nI w' := (f102 (4 * n + 3) (by omega)).trans r3
            have hh := m_highOf (d + 96) c' lc τ
            rw [f88] at hh
            have hl := m_lays (d + 95) c' lc (nI k') (nI s') (nI w') τ (by rw [f88]; exact h5)
            rw [f88] at hl
            have n5 : (nI (hiT T c') = 5) = False := by rw [show (5 : Int32) = nI 5 from rfl, eq_nn (by omega) (by omega)]; exact eq_false (by omega)
            have hi := o7 (rep τ 88 (setT T (6 * hiT T c' + c') (nI k') (nI s') (nI w') 3 0 0)) (.int (nI (6 * hiT T c' + c'))) (rep_self _ _ _) (by rw [rep_ne (by omega)]; exact f101) (fun k hk => by rw [rep_ne (by omega)]; exact f102 k hk)
            rw [rep_rep, show 48 + 4 * (n + 1) = 48 + 4 * n + 4 by omega, ← nI_add (48 + 4 * n) 4, show nI 4 = (4 : Int32) from rfl] at hi
            rw [← hi]
            generalize hR : ru (d + 99) 207 37 _ [] (rep τ 88 (setT T (6 * hiT T c' + c') (nI k') (nI s') (nI w') 3 0 0)) = R
            simp only [s207_37]
            simp only [s207_38, s207_39, s207_40, s207_41, s207_42, s207_43_o87, s207_46, s207_47_o101, s207_48, s207_51, s207_52, s207_53_o87, s207_56, s207_57_o102, s207_58, s207_59_o87, s207_62, s207_63, s207_64, s207_65_o102, s207_66, s207_67_o87, s207_70, s207_71, s207_72, s207_73_o102, s207_74, s207_75_o87, s207_78, s207_79, s207_80, s207_81_o102, s207_82_o87, s207_85, s207_88, s207_89, s207_90_o87, s207_93, s207_94, s207_95, s207_96_o102, s207_97_o87, s207_100, s207_101, s207_104, s207_105, s207_106, s207_107, s207_108_o87, s207_111, s207_112_o102, s207_113, s207_114_o87, s207_117, s207_118, s207_119, s207_120_o102, s207_121, s207_122_o87, s207_125, s207_126, s207_127, s207_128_o102, s207_129, s207_130_o87, s207_133, s207_134, s207_135, s207_136_o102, s207_137_o87, s207_140, s207_142, s207_145, s207_148, e4, q1, vs, cs, f101, j1, j2, j3, y0, y1, y2, y3, z0, z1, z2, z3, m0, m1, m2, m3, m_isAsTold, b2_T ht, hh, n5, hl, n1, simprocAttr, if_true, if_false, true_and, and_true, false_and, and_false, not_false_eq_true, not_true_eq_false, gd_T, kont_i, kont_v]
            exact hR
        · refine ⟨n, T, σ1, ?_, hH, hW, PlT.self T, by omega, fun o ho => rfl, fun τ l4 f88 f101 f102 => ?_⟩
          · have e1 := h2_layOnTop_full (d + 96) (nI k') (nI s') (nI w') c' lc σ1 T hH hW.P ht h5
            simp only [s92_46]
            simp only [s92_48, s92_50, s92_53, s92_54_o0, s92_57, s92_58_o76, s92_59, s92_61, s92_62_o77, s92_62_o79, s92_62_o81, s92_62_o83, s92_65, s92_68, s92_69_o0, s92_72_o1, s92_75, s92_76, s92_78_o78, s92_78_o80, s92_78_o82, s92_78_o84, s92_79, s92_80, s92_82, s92_83, s92_84_o78, s92_84_o80, s92_84_o82, s92_84_o84, s92_85, s92_86, s92_88, s92_89, s92_90_o78, s92_90_o80, s92_90_o82, s92_90_o84, s92_91, s92_92, s92_94, s92_95, s92_96_o78, s92_96_o80, s92_96_o82, s92_96_o84, s92_97_o2, s92_100, s92_103, s92_104, s92_105, s92_108, s92_111, g, vs, cs, cr76_2, kst, e78, i1, i2, i3, a0, a1, a2, a3, x0, x1, x2, x3, r0, r1, r2, r3, e1, simprocAttr, if_true, if_false, true_and, and_true, false_and, and_false, not_false_eq_true, not_true_eq_false, gd_T, kont_i, kont_v]
          · have m0 : τ 102 (48 + 4 * n) = nI k' := (f102 (4 * n) (by omega)).trans r0
            have m1 : τ 102 (48 + (4 * n + 1)) = nI c' := (f102 (4 * n + 1) (by omega)).trans r1
            have m2 : τ 102 (48 + (4 * n + 2)) = nI s' := (f102 (4 * n + 2) (by omega)).trans r2
            have m3 : τ 102 (48 + (4 * n + 3)) = nI w' := (f102 (4 * n + 3) (by omega)).trans r3
            have hh := m_highOf (d + 96) c' lc τ
            rw [f88, show hiT T c' = 5 by omega] at hh
            have e : rep τ 88 T = τ := by rw [← f88, rep_same]
            rw [e]
            simp only [s207_37]
            simp only [s207_38, s207_39, s207_40, s207_41, s207_42, s207_43_o87, s207_46, s207_47_o101, s207_48, s207_51, s207_52, s207_53_o87, s207_56, s207_57_o102, s207_58, s207_59_o87, s207_62, s207_63, s207_64, s207_65_o102, s207_66, s207_67_o87, s207_70, s207_71, s207_72, s207_73_o102, s207_74, s207_75_o87, s207_78, s207_79, s207_80, s207_81_o102, s207_82_o87, s207_85, s207_88, s207_89, s207_90_o87, s207_93, s207_94, s207_95, s207_96_o102, s207_97_o87, s207_100, s207_101, s207_104, s207_105, s207_106, s207_107, s207_108_o87, s207_111, s207_112_o102, s207_113, s207_114_o87, s207_117, s207_118, s207_119, s207_120_o102, s207_121, s207_122_o87, s207_125, s207_126, s207_127, s207_128_o102, s207_129, s207_130_o87, s207_133, s207_134, s207_135, s207_136_o102, s207_137_o87, s207_140, s207_142, s207_145, s207_148, e4, q1, vs, cs, f101, j1, j2, j3, y0, y1, y2, y3, z0, z1, z2, z3, m0, m1, m2, m3, m_isAsTold, b2_T ht, hh, n_5, simprocAttr, if_true, if_false, true_and, and_true, false_and, and_false, not_false_eq_true, not_true_eq_false, gd_T, kont_i, kont_v]
      · refine ⟨n, T, σ1, ?_, hH, hW, PlT.self T, by omega, fun o ho => rfl, fun τ l4 f88 f101 f102 => ?_⟩
        · have e1 := h2_layOnTop_no (d + 96) (F (4 * n)) (F (4 * n + 1)) (F (4 * n + 2)) (F (4 * n + 3)) σ1 ht
          simp only [s92_46]
          simp only [s92_48, s92_50, s92_53, s92_54_o0, s92_57, s92_58_o76, s92_59, s92_61, s92_62_o77, s92_62_o79, s92_62_o81, s92_62_o83, s92_65, s92_68, s92_69_o0, s92_72_o1, s92_75, s92_76, s92_78_o78, s92_78_o80, s92_78_o82, s92_78_o84, s92_79, s92_80, s92_82, s92_83, s92_84_o78, s92_84_o80, s92_84_o82, s92_84_o84, s92_85, s92_86, s92_88, s92_89, s92_90_o78, s92_90_o80, s92_90_o82, s92_90_o84, s92_91, s92_92, s92_94, s92_95, s92_96_o78, s92_96_o80, s92_96_o82, s92_96_o84, s92_97_o2, s92_100, s92_103, s92_104, s92_105, s92_108, s92_111, g, vs, cs, cr76_2, kst, e78, i1, i2, i3, a0, a1, a2, a3, x0, x1, x2, x3, e1, simprocAttr, if_true, if_false, true_and, and_true, false_and, and_false, not_false_eq_true, not_true_eq_false, gd_T, kont_i, kont_v]
        · have m0 := f102 (4 * n) (by omega)
          have m1 := f102 (4 * n + 1) (by omega)
          have m2 := f102 (4 * n + 2) (by omega)
          have m3 := f102 (4 * n + 3) (by omega)
          have e : rep τ 88 T = τ := by rw [← f88, rep_same]
          rw [e]
          simp only [s207_37]
          simp only [s207_38, s207_39, s207_40, s207_41, s207_42, s207_43_o87, s207_46, s207_47_o101, s207_48, s207_51, s207_52, s207_53_o87, s207_56, s207_57_o102, s207_58, s207_59_o87, s207_62, s207_63, s207_64, s207_65_o102, s207_66, s207_67_o87, s207_70, s207_71, s207_72, s207_73_o102, s207_74, s207_75_o87, s207_78, s207_79, s207_80, s207_81_o102, s207_82_o87, s207_85, s207_88, s207_89, s207_90_o87, s207_93, s207_94, s207_95, s207_96_o102, s207_97_o87, s207_100, s207_101, s207_104, s207_105, s207_106, s207_107, s207_108_o87, s207_111, s207_112_o102, s207_113, s207_114_o87, s207_117, s207_118, s207_119, s207_120_o102, s207_121, s207_122_o87, s207_125, s207_126, s207_127, s207_128_o102, s207_129, s207_130_o87, s207_133, s207_134, s207_135, s207_136_o102, s207_137_o87, s207_140, s207_142, s207_145, s207_148, e4, q1, vs, cs, f101, j1, j2, j3, y0, y1, y2, y3, z0, z1, z2, z3, m0, m1, m2, m3, m_isAsTold, b2_F ht, simprocAttr, if_true, if_false, true_and, and_true, false_and, and_false, not_false_eq_true, not_true_eq_false, gd_T, kont_i, kont_v]
    · have hst : ¬ stQ qs (nI (4 * n)) 4 := fun c => by
        obtain ⟨a, b, ea, eb, hab⟩ := (stQ_n hq).mp c
        rw [nI_eq (by omega) (by omega)] at ea
        have eb : nI 4 = nI b := eb
        rw [nI_eq (by omega) (by omega)] at eb
        omega
      rw [b2_F hst] at kst
      have q1 : (nI qs < nI (4 * n + 4)) = True := by rw [lt_nn (by omega) (by omega)]; exact eq_true (by omega)
      refine ⟨n, T, σ1, ?_, hH, hW, PlT.self T, by omega, fun o ho => rfl, fun τ l4 f88 f101 f102 => ?_⟩
      · simp only [s92_46]
        simp only [s92_48, s92_50, s92_53, s92_54_o0, s92_57, s92_58_o76, s92_59, s92_61, s92_62_o77, s92_62_o79, s92_62_o81, s92_62_o83, s92_65, s92_68, s92_69_o0, s92_72_o1, s92_75, s92_76, s92_78_o78, s92_78_o80, s92_78_o82, s92_78_o84, s92_79, s92_80, s92_82, s92_83, s92_84_o78, s92_84_o80, s92_84_o82, s92_84_o84, s92_85, s92_86, s92_88, s92_89, s92_90_o78, s92_90_o80, s92_90_o82, s92_90_o84, s92_91, s92_92, s92_94, s92_95, s92_96_o78, s92_96_o80, s92_96_o82, s92_96_o84, s92_97_o2, s92_100, s92_103, s92_104, s92_105, s92_108, s92_111, s92_114, s92_115, g, vs, cs, cr76_2, kst, simprocAttr, if_true, if_false, true_and, and_true, false_and, and_false, not_false_eq_true, not_true_eq_false, gd_T, kont_i, kont_v]
      · have e : rep τ 88 T = τ := by rw [← f88, rep_same]
        rw [e]
        simp only [s207_37]
        simp only [s207_38, s207_39, s207_40, s207_41, s207_42, s207_43_o87, s207_46, s207_47_o101, s207_48, s207_51, s207_52, s207_53_o87, s207_56, s207_57_o102, s207_58, s207_59_o87, s207_62, s207_63, s207_64, s207_65_o102, s207_66, s207_67_o87, s207_70, s207_71, s207_72, s207_73_o102, s207_74, s207_75_o87, s207_78, s207_79, s207_80, s207_81_o102, s207_82_o87, s207_85, s207_88, s207_89, s207_90_o87, s207_93, s207_94, s207_95, s207_96_o102, s207_97_o87, s207_100, s207_101, s207_104, s207_105, s207_106, s207_107, s207_108_o87, s207_111, s207_112_o102, s207_113, s207_114_o87, s207_117, s207_118, s207_119, s207_120_o102, s207_121, s207_122_o87, s207_125, s207_126, s207_127, s207_128_o102, s207_129, s207_130_o87, s207_133, s207_134, s207_135, s207_136_o102, s207_137_o87, s207_140, s207_142, s207_145, s207_148, s207_151, s207_152, e4, q1, vs, cs, f101, simprocAttr, if_true, if_false, true_and, and_true, false_and, and_false, not_false_eq_true, not_true_eq_false, gd_T, kont_i, kont_v]
theorem L_armfuls_2 {i : Nat} {σ : Hs} (h : RR i σ) (d : Nat) : Step d i 92 207 [.int (nI 2)] σ := by
  have hst : (0 ≤ nI 2 ∧ nI 2 ≤ 3) = True := eq_true (by decide +kernel)
  obtain ⟨⟨a1, a2⟩, qs, p1, p2, p3, p4⟩ := h.2.2.2.2.2.2.1 2 (by omega)
  have a1 : σ 81 1 = σ 100 2 := a1
  have p2 : σ 81 2 = nI qs := p2
  have vs : vp_in (nI 2) 4 = True := vp_nI (by omega) (by omega)
  have cs : (nI 2).toNatClampNeg = 2 := cl_nI (by omega)
  have ms := k_isMissing_2 (d + 98) σ _ a1
  have g100 : ∀ k, erC σ k 100 = σ 100 := fun k => rep_ne (by omega)
  by_cases w1 : σ 100 2 = 0
  · refine Step_err h 2 (v := -1000002) ?_ ?_
    · simp only [c92, s92_0, s92_1, s92_4, s92_7, s92_8, s92_9_o0, s92_12, s92_13, s92_14_o0, s92_17, s92_18_o76, s92_19_o77, s92_19_o79, s92_19_o81, s92_19_o83, s92_22, s92_25, s92_26, s92_27_o0, s92_30, s92_31, s92_32, s92_33, s92_34_o0, s92_37, s92_38_o76, s92_39_o77, s92_39_o79, s92_39_o81, s92_39_o83, s92_42, s92_43, s92_44, s92_48, s92_50, s92_53, s92_54_o0, s92_57, s92_58_o76, s92_59, s92_61, s92_62_o77, s92_62_o79, s92_62_o81, s92_62_o83, s92_65, s92_68, s92_69_o0, s92_72_o1, s92_75, s92_76, s92_78_o78, s92_78_o80, s92_78_o82, s92_78_o84, s92_79, s92_80, s92_82, s92_83, s92_84_o78, s92_84_o80, s92_84_o82, s92_84_o84, s92_85, s92_86, s92_88, s92_89, s92_90_o78, s92_90_o80, s92_90_o82, s92_90_o84, s92_91, s92_92, s92_94, s92_95, s92_96_o78, s92_96_o80, s92_96_o82, s92_96_o84, s92_97_o2, s92_100, s92_103, s92_104, s92_105, s92_108, s92_111, s92_114, s92_115, k_isSheet, hst, b2_t, vs, cs, cr76_2, ms, b2_T w1, k_failed_2, simprocAttr, if_true, if_false, true_and, and_true, false_and, and_false, not_false_eq_true, not_true_eq_false, gd_T, kont_i, kont_v]
    · simp only [c207, s207_0, s207_1, s207_4, s207_7, s207_8, s207_10_o87, s207_13, s207_14, s207_15_o87, s207_18, s207_19_o100, s207_20, s207_23, s207_24, s207_26_o87, s207_29, s207_30, s207_31, s207_32, s207_34, s207_35, s207_36, m_isSheet, hst, b2_t, vs, cs, g100, w1, m_fin_2, simprocAttr, if_true, if_false, true_and, and_true, false_and, and_false, not_false_eq_true, not_true_eq_false, gd_T, kont_i, kont_v]
  · obtain ⟨v, T', σ2, o1, o2, o3, o4, o5, o6, o7⟩ := k_armfuls_2 d qs p1 (σ 82) 6 0 rfl σ (σ 88) h.hr h.wi rfl p2
    have c1 : callD (d + 100) 92 [.ref 0, .int (nI 2)] σ = some (some (.int (nI v)), σ2) := by
      simp only [c92, s92_0, s92_1, s92_4, s92_7, s92_8, s92_9_o0, s92_12, s92_13, s92_14_o0, s92_17, s92_18_o76, s92_19_o77, s92_19_o79, s92_19_o81, s92_19_o83, s92_22, s92_25, s92_26, s92_27_o0, s92_30, s92_31, s92_32, s92_33, s92_34_o0, s92_37, s92_38_o76, s92_39_o77, s92_39_o79, s92_39_o81, s92_39_o83, s92_42, s92_43, s92_44, k_isSheet, hst, b2_t, vs, cs, cr76_2, ms, b2_F w1, simprocAttr, if_true, if_false, true_and, and_true, false_and, and_false, not_false_eq_true, not_true_eq_false, gd_T, kont_i, kont_v]
      exact o1
    have c2 : callD (d + 100) 207 [.ref 87, .int (nI 2)] σ2 = some (some (.int (nI v)), rep σ2 88 T') := by
      have w1' : (σ2 100 2 = 0) = False := by rw [o6 100 (by omega)]; exact eq_false w1
      have e24 : (24 : Int32) * nI 2 = nI 48 := by decide +kernel
      simp only [c207, s207_0, s207_1, s207_4, s207_7, s207_8, s207_10_o87, s207_13, s207_14, s207_15_o87, s207_18, s207_19_o100, s207_20, s207_23, s207_24, s207_26_o87, s207_29, s207_30, s207_31, s207_32, s207_34, s207_35, s207_36, m_isSheet, hst, b2_t, vs, cs, w1', e24, simprocAttr, if_true, if_false, true_and, and_true, false_and, and_false, not_false_eq_true, not_true_eq_false, gd_T, kont_i, kont_v]
      exact o7 σ2 _ (o6 88 (by omega)) ((congrFun (o6 101 (by omega)) _).trans p3) (fun k hk => (congrFun (o6 102 (by omega)) _).trans (p4 k hk).symm)
    refine ⟨_, _, _, c1, c2, h.pl (rep_self _ _ _) (o2.fr (fun o o1 o2 => rep_ne (by omega))) o3 o4 (by omega) (h.wb.two c1 c2) (fun o ho => ?_) ?_ ?_⟩
    · unfold kpO at ho
      rw [rep_ne (by omega)]
      exact o6 o (by omega)
    · rw [rep_ne (by omega), o6 87 (by omega)]
    · rw [rep_ne (by omega), o6 87 (by omega)]
theorem k_armfuls_3 (d qs : Nat) (hq : qs ≤ 24) (F : Nat → Int32) : ∀ m n, n + m = 6 → ∀ (σ1 : Hs) (T : Nat → Int32), HR 2 σ1 T → WI T → σ1 84 = F → σ1 83 2 = nI qs → ∃ v T' σ2, ru (d + 99) 92 46 [.ref 0, .int (nI 3), .int (nI n), .ref 84, .int (nI (4 * n))] [] σ1 = some (some (.int (nI v)), σ2) ∧ HR 2 σ2 T' ∧ WI T' ∧ PlT T T' ∧ sN T' 30 ≤ sN T 30 + 1000 * m ∧ (∀ o, (o < 3 ∨ 8 < o) → σ2 o = σ1 o) ∧ ∀ (τ : Hs) (l4 : Value), τ 88 = T → τ 101 3 = nI qs → (∀ k, k < 24 → τ 102 (72 + k) = F k) → ru (d + 99) 207 37 [.ref 87, .int (nI 3), .int (nI n), .int (nI (72 + 4 * n)), l4] [] τ = some (some (.int (nI v)), rep τ 88 T') := by
  have vs : vp_in (nI 3) 4 = True := vp_nI (by omega) (by omega)
  have cs : (nI 3).toNatClampNeg = 3 := cl_nI (by omega)
  intro m
  induction m with
  | zero =>
    intro n hn σ1 T hH hW e78 e77
    obtain rfl : n = 6 := by omega
    refine ⟨6, T, σ1, ?_, hH, hW, PlT.self T, by omega, fun o ho => rfl, fun τ l4 f88 f101 f102 => ?_⟩
    · have g : ((24 : Int32) ≤ nI (4 * 6)) = True := eq_true (by decide +kernel)
      simp only [s92_46]
      simp only [s92_48, s92_50, s92_53, s92_54_o0, s92_57, s92_58_o76, s92_59, s92_61, s92_62_o77, s92_62_o79, s92_62_o81, s92_62_o83, s92_65, s92_68, s92_69_o0, s92_72_o1, s92_75, s92_76, s92_78_o78, s92_78_o80, s92_78_o82, s92_78_o84, s92_79, s92_80, s92_82, s92_83, s92_84_o78, s92_84_o80, s92_84_o82, s92_84_o84, s92_85, s92_86, s92_88, s92_89, s92_90_o78, s92_90_o80, s92_90_o82, s92_90_o84, s92_91, s92_92, s92_94, s92_95, s92_96_o78, s92_96_o80, s92_96_o82, s92_96_o84, s92_97_o2, s92_100, s92_103, s92_104, s92_105, s92_108, s92_111, s92_114, s92_115, g, simprocAttr, if_true, if_false, true_and, and_true, false_and, and_false, not_false_eq_true, not_true_eq_false, gd_T, kont_i, kont_v]
    · have g : (nI qs < (4 : Int32) * nI 6 + 4) = True := by
        rw [show (4 : Int32) * nI 6 + 4 = nI 28 from by decide +kernel, lt_nn (by omega) (by omega)]
        exact eq_true (by omega)
      have e : rep τ 88 T = τ := by rw [← f88, rep_same]
      rw [e]
      simp only [s207_37]
      simp only [s207_38, s207_39, s207_40, s207_41, s207_42, s207_43_o87, s207_46, s207_47_o101, s207_48, s207_51, s207_52, s207_53_o87, s207_56, s207_57_o102, s207_58, s207_59_o87, s207_62, s207_63, s207_64, s207_65_o102, s207_66, s207_67_o87, s207_70, s207_71, s207_72, s207_73_o102, s207_74, s207_75_o87, s207_78, s207_79, s207_80, s207_81_o102, s207_82_o87, s207_85, s207_88, s207_89, s207_90_o87, s207_93, s207_94, s207_95, s207_96_o102, s207_97_o87, s207_100, s207_101, s207_104, s207_105, s207_106, s207_107, s207_108_o87, s207_111, s207_112_o102, s207_113, s207_114_o87, s207_117, s207_118, s207_119, s207_120_o102, s207_121, s207_122_o87, s207_125, s207_126, s207_127, s207_128_o102, s207_129, s207_130_o87, s207_133, s207_134, s207_135, s207_136_o102, s207_137_o87, s207_140, s207_142, s207_145, s207_148, s207_151, s207_152, vs, cs, f101, g, simprocAttr, if_true, if_false, true_and, and_true, false_and, and_false, not_false_eq_true, not_true_eq_false, gd_T, kont_i, kont_v]
  | succ m ih =>
    intro n hn σ1 T hH hW e78 e77
    have g : ((24 : Int32) ≤ nI (4 * n)) = False := by rw [show (24 : Int32) = nI 24 from rfl, le_nn (by omega) (by omega)]; exact eq_false (by omega)
    have kst := k_stand_3 (d + 98) (nI (4 * n)) 4 σ1 _ e77
    have e4 : (4 : Int32) * nI n + 4 = nI (4 * n + 4) := by rw [show (4 : Int32) = nI 4 from rfl, pk_mul, nI_add]
    by_cases hs : 4 * n + 4 ≤ qs
    · have hst : stQ qs (nI (4 * n)) 4 := (stQ_n hq).mpr ⟨4 * n, 4, rfl, rfl, hs⟩
      rw [b2_T hst] at kst
      have q1 : (nI qs < nI (4 * n + 4)) = False := by rw [lt_nn (by omega) (by omega)]; exact eq_false (by omega)
      have n1 : nI n + 1 = nI (n + 1) := nI_1 n
      have i1 : nI (4 * n) + 1 = nI (4 * n + 1) := by rw [show (1 : Int32) = nI 1 from rfl, nI_add]
      have i2 : nI (4 * n) + 2 = nI (4 * n + 2) := by rw [show (2 : Int32) = nI 2 from rfl, nI_add]
      have i3 : nI (4 * n) + 3 = nI (4 * n + 3) := by rw [show (3 : Int32) = nI 3 from rfl, nI_add]
      have j1 : nI (72 + 4 * n) + 1 = nI (72 + (4 * n + 1)) := by rw [show (1 : Int32) = nI 1 from rfl, nI_add]; rfl
      have j2 : nI (72 + 4 * n) + 2 = nI (72 + (4 * n + 2)) := by rw [show (2 : Int32) = nI 2 from rfl, nI_add]; rfl
      have j3 : nI (72 + 4 * n) + 3 = nI (72 + (4 * n + 3)) := by rw [show (3 : Int32) = nI 3 from rfl, nI_add]; rfl
      have wk := fun (y : Nat) (hy : y < 24) => vp_nI (k := y) (n := 24) hy (by omega)
      have ck := fun (y : Nat) (hy : y < 24) => cl_nI (k := y) (by omega)
      have wm := fun (y : Nat) (hy : y < 24) => vp_nI (k := 72 + y) (n := 96) (by omega) (by omega)
      have cm := fun (y : Nat) (hy : y < 24) => cl_nI (k := 72 + y) (by omega)
      have a0 := wk (4 * n) (by omega)
      have a1 := wk (4 * n + 1) (by omega)
      have a2 := wk (4 * n + 2) (by omega)
      have a3 := wk (4 * n + 3) (by omega)
      have x0 := ck (4 * n) (by omega)
      have x1 := ck (4 * n + 1) (by omega)
      have x2 := ck (4 * n + 2) (by omega)
      have x3 := ck (4 * n + 3) (by omega)
      have y0 := wm (4 * n) (by omega)
      have y1 := wm (4 * n + 1) (by omega)
      have y2 := wm (4 * n + 2) (by omega)
      have y3 := wm (4 * n + 3) (by omega)
      have z0 := cm (4 * n) (by omega)
      have z1 := cm (4 * n + 1) (by omega)
      have z2 := cm (4 * n + 2) (by omega)
      have z3 := cm (4 * n + 3) (by omega)
      by_cases ht : told4 (F (4 * n)) (F (4 * n + 1)) (F (4 * n + 2)) (F (4 * n + 3))
      · obtain ⟨k', c', s', w', r0, r1, r2, r3, lk, lc, l1, ls, lw⟩ := told_n ht
        rw [r0, r1, r2, r3] at ht
        have hle := hiT_le T c'
        by_cases h5 : hiT T c' < 5
        · obtain ⟨σ2, e1, rr, f1⟩ := h2_layOnTop (d + 96) (nI k') (nI s') (nI w') c' lc σ1 T hH hW.P ht h5
          have sn : sN (setT T (6 * hiT T c' + c') (nI k') (nI s') (nI w') 3 0 0) 30 = sN T 30 + s' := sN_set (by omega) ls (hi_not h5)
          have pl : PlT T (setT T (6 * hiT T c' + c') (nI k') (nI s') (nI w') 3 0 0) := PlT_set (by omega)
          obtain ⟨v, T', σ3, o1, o2, o3, o4, o5, o6, o7⟩ := ih (n + 1) (by omega) σ2 _ rr (hW.lay lc h5 lk l1 ls lw) ((f1 84 (by omega)).trans e78) ((congrFun (f1 83 (by omega)) 2).trans e77)
          refine ⟨v, T', σ3, ?_, o2, o3, pl.tr o4, by omega, fun o ho => (o6 o ho).trans (f1 o ho), fun τ l4 f88 f101 f102 => ?_⟩
          · have p31 : 6 * hiT T c' + c' < 2147483648 := by omega
            have p0 : (0 ≤ nI (6 * hiT T c' + c')) = True := eq_true (nI_pos' p31)
            rw [← o1]
            have e5 : nI (4 * (n + 1)) = nI (4 * n) + 4 := by rw [show (4 : Int32) = nI 4 from rfl, nI_add]; rfl
            rw [e5]
            generalize hR : ru (d + 99) 92 46 _ [] σ2 = R
            simp only [s92_46]
            simp only [s92_48, s92_50, s92_53, s92_54_o0, s92_57, s92_58_o76, s92_59, s92_61, s92_62_o77, s92_62_o79, s92_62_o81, s92_62_o83, s92_65, s92_68, s92_69_o0, s92_72_o1, s92_75, s92_76, s92_78_o78, s92_78_o80, s92_78_o82, s92_78_o84, s92_79, s92_80, s92_82, s92_83, s92_84_o78, s92_84_o80, s92_84_o82, s92_84_o84, s92_85, s92_86, s92_88, s92_89, s92_90_o78, s92_90_o80, s92_90_o82, s92_90_o84, s92_91, s92_92, s92_94, s92_95, s92_96_o78, s92_96_o80, s92_96_o82, s92_96_o84, s92_97_o2, s92_100, s92_103, s92_104, s92_105, s92_108, s92_111, g, vs, cs, cr76_3, kst, e78, i1, i2, i3, a0, a1, a2, a3, x0, x1, x2, x3, r0, r1, r2, r3, e1, p0, n1, simprocAttr, if_true, if_false, true_and, and_true, false_and, and_false, not_false_eq_true, not_true_eq_false, gd_T, kont_i, kont_v]
            exact hR
          · have m0 : τ 102 (72 + 4 * n) = nI k' := (f102 (4 * n) (by omega)).trans r0
            have m1 : τ 102 (72 + (4 * n + 1)) = nI c' := (f102 (4 * n + 1) (by omega)).trans r1
            have m2 : τ 102 (72 + (4 * n + 2)) = nI s' := (f102 (4 * n + 2) (by omega)).trans r2
            have m3 : τ 102 (72 + (4 * n + 3)) = nI w' := (f102 (4 * n + 3) (by omega)).trans r3
            have hh := m_highOf (d + 96) c' lc τ
            rw [f88] at hh
            have hl := m_lays (d + 95) c' lc (nI k') (nI s') (nI w') τ (by rw [f88]; exact h5)
            rw [f88] at hl
            have n5 : (nI (hiT T c') = 5) = False := by rw [show (5 : Int32) = nI 5 from rfl, eq_nn (by omega) (by omega)]; exact eq_false (by omega)
            have hi := o7 (rep τ 88 (setT T (6 * hiT T c' + c') (nI k') (nI s') (nI w') 3 0 0)) (.int (nI (6 * hiT T c' + c'))) (rep_self _ _ _) (by rw [rep_ne (by omega)]; exact f101) (fun k hk => by rw [rep_ne (by omega)]; exact f102 k hk)
            rw [rep_rep, show 72 + 4 * (n + 1) = 72 + 4 * n + 4 by omega, ← nI_add (72 + 4 * n) 4, show nI 4 = (4 : Int32) from rfl] at hi
            rw [← hi]
            generalize hR : ru (d + 99) 207 37 _ [] (rep τ 88 (setT T (6 * hiT T c' + c') (nI k') (nI s') (nI w') 3 0 0)) = R
            simp only [s207_37]
            simp only [s207_38, s207_39, s207_40, s207_41, s207_42, s207_43_o87, s207_46, s207_47_o101, s207_48, s207_51, s207_52, s207_53_o87, s207_56, s207_57_o102, s207_58, s207_59_o87, s207_62, s207_63, s207_64, s207_65_o102, s207_66, s207_67_o87, s207_70, s207_71, s207_72, s207_73_o102, s207_74, s207_75_o87, s207_78, s207_79, s207_80, s207_81_o102, s207_82_o87, s207_85, s207_88, s207_89, s207_90_o87, s207_93, s207_94, s207_95, s207_96_o102, s207_97_o87, s207_100, s207_101, s207_104, s207_105, s207_106, s207_107, s207_108_o87, s207_111, s207_112_o102, s207_113, s207_114_o87, s207_117, s207_118, s207_119, s207_120_o102, s207_121, s207_122_o87, s207_125, s207_126, s207_127, s207_128_o102, s207_129, s207_130_o87, s207_133, s207_134, s207_135, s207_136_o102, s207_137_o87, s207_140, s207_142, s207_145, s207_148, e4, q1, vs, cs, f101, j1, j2, j3, y0, y1, y2, y3, z0, z1, z2, z3, m0, m1, m2, m3, m_isAsTold, b2_T ht, hh, n5, hl, n1, simprocAttr, if_true, if_false, true_and, and_true, false_and, and_false, not_false_eq_true, not_true_eq_false, gd_T, kont_i, kont_v]
            exact hR
        · refine ⟨n, T, σ1, ?_, hH, hW, PlT.self T, by omega, fun o ho => rfl, fun τ l4 f88 f101 f102 => ?_⟩
          · have e1 := h2_layOnTop_full (d + 96) (nI k') (nI s') (nI w') c' lc σ1 T hH hW.P ht h5
            simp only [s92_46]
            simp only [s92_48, s92_50, s92_53, s92_54_o0, s92_57, s92_58_o76, s92_59, s92_61, s92_62_o77, s92_62_o79, s92_62_o81, s92_62_o83, s92_65, s92_68, s92_69_o0, s92_72_o1, s92_75, s92_76, s92_78_o78, s92_78_o80, s92_78_o82, s92_78_o84, s92_79, s92_80, s92_82, s92_83, s92_84_o78, s92_84_o80, s92_84_o82, s92_84_o84, s92_85, s92_86, s92_88, s92_89, s92_90_o78, s92_90_o80, s92_90_o82, s92_90_o84, s92_91, s92_92, s92_94, s92_95, s92_96_o78, s92_96_o80, s92_96_o82, s92_96_o84, s92_97_o2, s92_100, s92_103, s92_104, s92_105, s92_108, s92_111, g, vs, cs, cr76_3, kst, e78, i1, i2, i3, a0, a1, a2, a3, x0, x1, x2, x3, r0, r1, r2, r3, e1, simprocAttr, if_true, if_false, true_and, and_true, false_and, and_false, not_false_eq_true, not_true_eq_false, gd_T, kont_i, kont_v]
          · have m0 : τ 102 (72 + 4 * n) = nI k' := (f102 (4 * n) (by omega)).trans r0
            have m1 : τ 102 (72 + (4 * n + 1)) = nI c' := (f102 (4 * n + 1) (by omega)).trans r1
            have m2 : τ 102 (72 + (4 * n + 2)) = nI s' := (f102 (4 * n + 2) (by omega)).trans r2
            have m3 : τ 102 (72 + (4 * n + 3)) = nI w' := (f102 (4 * n + 3) (by omega)).trans r3
            have hh := m_highOf (d + 96) c' lc τ
            rw [f88, show hiT T c' = 5 by omega] at hh
            have e : rep τ 88 T = τ := by rw [← f88, rep_same]
            rw [e]
            simp only [s207_37]
            simp only [s207_38, s207_39, s207_40, s207_41, s207_42, s207_43_o87, s207_46, s207_47_o101, s207_48, s207_51, s207_52, s207_53_o87, s207_56, s207_57_o102, s207_58, s207_59_o87, s207_62, s207_63, s207_64, s207_65_o102, s207_66, s207_67_o87, s207_70, s207_71, s207_72, s207_73_o102, s207_74, s207_75_o87, s207_78, s207_79, s207_80, s207_81_o102, s207_82_o87, s207_85, s207_88, s207_89, s207_90_o87, s207_93, s207_94, s207_95, s207_96_o102, s207_97_o87, s207_100, s207_101, s207_104, s207_105, s207_106, s207_107, s207_108_o87, s207_111, s207_112_o102, s207_113, s207_114_o87, s207_117, s207_118, s207_119, s207_120_o102, s207_121, s207_122_o87, s207_125, s207_126, s207_127, s207_128_o102, s207_129, s207_130_o87, s207_133, s207_134, s207_135, s207_136_o102, s207_137_o87, s207_140, s207_142, s207_145, s207_148, e4, q1, vs, cs, f101, j1, j2, j3, y0, y1, y2, y3, z0, z1, z2, z3, m0, m1, m2, m3, m_isAsTold, b2_T ht, hh, n_5, simprocAttr, if_true, if_false, true_and, and_true, false_and, and_false, not_false_eq_true, not_true_eq_false, gd_T, kont_i, kont_v]
      · refine ⟨n, T, σ1, ?_, hH, hW, PlT.self T, by omega, fun o ho => rfl, fun τ l4 f88 f101 f102 => ?_⟩
        · have e1 := h2_layOnTop_no (d + 96) (F (4 * n)) (F (4 * n + 1)) (F (4 * n + 2)) (F (4 * n + 3)) σ1 ht
          simp only [s92_46]
          simp only [s92_48, s92_50, s92_53, s92_54_o0, s92_57, s92_58_o76, s92_59, s92_61, s92_62_o77, s92_62_o79, s92_62_o81, s92_62_o83, s92_65, s92_68, s92_69_o0, s92_72_o1, s92_75, s92_76, s92_78_o78, s92_78_o80, s92_78_o82, s92_78_o84, s92_79, s92_80, s92_82, s92_83, s92_84_o78, s92_84_o80, s92_84_o82, s92_84_o84, s92_85, s92_86, s92_88, s92_89, s92_90_o78, s92_90_o80, s92_90_o82, s92_90_o84, s92_91, s92_92, s92_94, s92_95, s92_96_o78, s92_96_o80, s92_96_o82, s92_96_o84, s92_97_o2, s92_100, s92_103, s92_104, s92_105, s92_108, s92_111, g, vs, cs, cr76_3, kst, e78, i1, i2, i3, a0, a1, a2, a3, x0, x1, x2, x3, e1, simprocAttr, if_true, if_false, true_and, and_true, false_and, and_false, not_false_eq_true, not_true_eq_false, gd_T, kont_i, kont_v]
        · have m0 := f102 (4 * n) (by omega)
          have m1 := f102 (4 * n + 1) (by omega)
          have m2 := f102 (4 * n + 2) (by omega)
          have m3 := f102 (4 * n + 3) (by omega)
          have e : rep τ 88 T = τ := by rw [← f88, rep_same]
          rw [e]
          simp only [s207_37]
          simp only [s207_38, s207_39, s207_40, s207_41, s207_42, s207_43_o87, s207_46, s207_47_o101, s207_48, s207_51, s207_52, s207_53_o87, s207_56, s207_57_o102, s207_58, s207_59_o87, s207_62, s207_63, s207_64, s207_65_o102, s207_66, s207_67_o87, s207_70, s207_71, s207_72, s207_73_o102, s207_74, s207_75_o87, s207_78, s207_79, s207_80, s207_81_o102, s207_82_o87, s207_85, s207_88, s207_89, s207_90_o87, s207_93, s207_94, s207_95, s207_96_o102, s207_97_o87, s207_100, s207_101, s207_104, s207_105, s207_106, s207_107, s207_108_o87, s207_111, s207_112_o102, s207_113, s207_114_o87, s207_117, s207_118, s207_119, s207_120_o102, s207_121, s207_122_o87, s207_125, s207_126, s207_127, s207_128_o102, s207_129, s207_130_o87, s207_133, s207_134, s207_135, s207_136_o102, s207_137_o87, s207_140, s207_142, s207_145, s207_148, e4, q1, vs, cs, f101, j1, j2, j3, y0, y1, y2, y3, z0, z1, z2, z3, m0, m1, m2, m3, m_isAsTold, b2_F ht, simprocAttr, if_true, if_false, true_and, and_true, false_and, and_false, not_false_eq_true, not_true_eq_false, gd_T, kont_i, kont_v]
    · have hst : ¬ stQ qs (nI (4 * n)) 4 := fun c => by
        obtain ⟨a, b, ea, eb, hab⟩ := (stQ_n hq).mp c
        rw [nI_eq (by omega) (by omega)] at ea
        have eb : nI 4 = nI b := eb
        rw [nI_eq (by omega) (by omega)] at eb
        omega
      rw [b2_F hst] at kst
      have q1 : (nI qs < nI (4 * n + 4)) = True := by rw [lt_nn (by omega) (by omega)]; exact eq_true (by omega)
      refine ⟨n, T, σ1, ?_, hH, hW, PlT.self T, by omega, fun o ho => rfl, fun τ l4 f88 f101 f102 => ?_⟩
      · simp only [s92_46]
        simp only [s92_48, s92_50, s92_53, s92_54_o0, s92_57, s92_58_o76, s92_59, s92_61, s92_62_o77, s92_62_o79, s92_62_o81, s92_62_o83, s92_65, s92_68, s92_69_o0, s92_72_o1, s92_75, s92_76, s92_78_o78, s92_78_o80, s92_78_o82, s92_78_o84, s92_79, s92_80, s92_82, s92_83, s92_84_o78, s92_84_o80, s92_84_o82, s92_84_o84, s92_85, s92_86, s92_88, s92_89, s92_90_o78, s92_90_o80, s92_90_o82, s92_90_o84, s92_91, s92_92, s92_94, s92_95, s92_96_o78, s92_96_o80, s92_96_o82, s92_96_o84, s92_97_o2, s92_100, s92_103, s92_104, s92_105, s92_108, s92_111, s92_114, s92_115, g, vs, cs, cr76_3, kst, simprocAttr, if_true, if_false, true_and, and_true, false_and, and_false, not_false_eq_true, not_true_eq_false, gd_T, kont_i, kont_v]
      · have e : rep τ 88 T = τ := by rw [← f88, rep_same]
        rw [e]
        simp only [s207_37]
        simp only [s207_38, s207_39, s207_40, s207_41, s207_42, s207_43_o87, s207_46, s207_47_o101, s207_48, s207_51, s207_52, s207_53_o87, s207_56, s207_57_o102, s207_58, s207_59_o87, s207_62, s207_63, s207_64, s207_65_o102, s207_66, s207_67_o87, s207_70, s207_71, s207_72, s207_73_o102, s207_74, s207_75_o87, s207_78, s207_79, s207_80, s207_81_o102, s207_82_o87, s207_85, s207_88, s207_89, s207_90_o87, s207_93, s207_94, s207_95, s207_96_o102, s207_97_o87, s207_100, s207_101, s207_104, s207_105, s207_106, s207_107, s207_108_o87, s207_111, s207_112_o102, s207_113, s207_114_o87, s207_117, s207_118, s207_119, s207_120_o102, s207_121, s207_122_o87, s207_125, s207_126, s207_127, s207_128_o102, s207_129, s207_130_o87, s207_133, s207_134, s207_135, s207_136_o102, s207_137_o87, s207_140, s207_142, s207_145, s207_148, s207_151, s207_152, e4, q1, vs, cs, f101, simprocAttr, if_true, if_false, true_and, and_true, false_and, and_false, not_false_eq_true, not_true_eq_false, gd_T, kont_i, kont_v]
theorem L_armfuls_3 {i : Nat} {σ : Hs} (h : RR i σ) (d : Nat) : Step d i 92 207 [.int (nI 3)] σ := by
  have hst : (0 ≤ nI 3 ∧ nI 3 ≤ 3) = True := eq_true (by decide +kernel)
  obtain ⟨⟨a1, a2⟩, qs, p1, p2, p3, p4⟩ := h.2.2.2.2.2.2.1 3 (by omega)
  have a1 : σ 83 1 = σ 100 3 := a1
  have p2 : σ 83 2 = nI qs := p2
  have vs : vp_in (nI 3) 4 = True := vp_nI (by omega) (by omega)
  have cs : (nI 3).toNatClampNeg = 3 := cl_nI (by omega)
  have ms := k_isMissing_3 (d + 98) σ _ a1
  have g100 : ∀ k, erC σ k 100 = σ 100 := fun k => rep_ne (by omega)
  by_cases w1 : σ 100 3 = 0
  · refine Step_err h 2 (v := -1000002) ?_ ?_
    · simp only [c92, s92_0, s92_1, s92_4, s92_7, s92_8, s92_9_o0, s92_12, s92_13, s92_14_o0, s92_17, s92_18_o76, s92_19_o77, s92_19_o79, s92_19_o81, s92_19_o83, s92_22, s92_25, s92_26, s92_27_o0, s92_30, s92_31, s92_32, s92_33, s92_34_o0, s92_37, s92_38_o76, s92_39_o77, s92_39_o79, s92_39_o81, s92_39_o83, s92_42, s92_43, s92_44, s92_48, s92_50, s92_53, s92_54_o0, s92_57, s92_58_o76, s92_59, s92_61, s92_62_o77, s92_62_o79, s92_62_o81, s92_62_o83, s92_65, s92_68, s92_69_o0, s92_72_o1, s92_75, s92_76, s92_78_o78, s92_78_o80, s92_78_o82, s92_78_o84, s92_79, s92_80, s92_82, s92_83, s92_84_o78, s92_84_o80, s92_84_o82, s92_84_o84, s92_85, s92_86, s92_88, s92_89, s92_90_o78, s92_90_o80, s92_90_o82, s92_90_o84, s92_91, s92_92, s92_94, s92_95, s92_96_o78, s92_96_o80, s92_96_o82, s92_96_o84, s92_97_o2, s92_100, s92_103, s92_104, s92_105, s92_108, s92_111, s92_114, s92_115, k_isSheet, hst, b2_t, vs, cs, cr76_3, ms, b2_T w1, k_failed_2, simprocAttr, if_true, if_false, true_and, and_true, false_and, and_false, not_false_eq_true, not_true_eq_false, gd_T, kont_i, kont_v]
    · simp only [c207, s207_0, s207_1, s207_4, s207_7, s207_8, s207_10_o87, s207_13, s207_14, s207_15_o87, s207_18, s207_19_o100, s207_20, s207_23, s207_24, s207_26_o87, s207_29, s207_30, s207_31, s207_32, s207_34, s207_35, s207_36, m_isSheet, hst, b2_t, vs, cs, g100, w1, m_fin_2, simprocAttr, if_true, if_false, true_and, and_true, false_and, and_false, not_false_eq_true, not_true_eq_false, gd_T, kont_i, kont_v]
  · obtain ⟨v, T', σ2, o1, o2, o3, o4, o5, o6, o7⟩ := k_armfuls_3 d qs p1 (σ 84) 6 0 rfl σ (σ 88) h.hr h.wi rfl p2
    have c1 : callD (d + 100) 92 [.ref 0, .int (nI 3)] σ = some (some (.int (nI v)), σ2) := by
      simp only [c92, s92_0, s92_1, s92_4, s92_7, s92_8, s92_9_o0, s92_12, s92_13, s92_14_o0, s92_17, s92_18_o76, s92_19_o77, s92_19_o79, s92_19_o81, s92_19_o83, s92_22, s92_25, s92_26, s92_27_o0, s92_30, s92_31, s92_32, s92_33, s92_34_o0, s92_37, s92_38_o76, s92_39_o77, s92_39_o79, s92_39_o81, s92_39_o83, s92_42, s92_43, s92_44, k_isSheet, hst, b2_t, vs, cs, cr76_3, ms, b2_F w1, simprocAttr, if_true, if_false, true_and, and_true, false_and, and_false, not_false_eq_true, not_true_eq_false, gd_T, kont_i, kont_v]
      exact o1
    have c2 : callD (d + 100) 207 [.ref 87, .int (nI 3)] σ2 = some (some (.int (nI v)), rep σ2 88 T') := by
      have w1' : (σ2 100 3 = 0) = False := by rw [o6 100 (by omega)]; exact eq_false w1
      have e24 : (24 : Int32) * nI 3 = nI 72 := by decide +kernel
      simp only [c207, s207_0, s207_1, s207_4, s207_7, s207_8, s207_10_o87, s207_13, s207_14, s207_15_o87, s207_18, s207_19_o100, s207_20, s207_23, s207_24, s207_26_o87, s207_29, s207_30, s207_31, s207_32, s207_34, s207_35, s207_36, m_isSheet, hst, b2_t, vs, cs, w1', e24, simprocAttr, if_true, if_false, true_and, and_true, false_and, and_false, not_false_eq_true, not_true_eq_false, gd_T, kont_i, kont_v]
      exact o7 σ2 _ (o6 88 (by omega)) ((congrFun (o6 101 (by omega)) _).trans p3) (fun k hk => (congrFun (o6 102 (by omega)) _).trans (p4 k hk).symm)
    refine ⟨_, _, _, c1, c2, h.pl (rep_self _ _ _) (o2.fr (fun o o1 o2 => rep_ne (by omega))) o3 o4 (by omega) (h.wb.two c1 c2) (fun o ho => ?_) ?_ ?_⟩
    · unfold kpO at ho
      rw [rep_ne (by omega)]
      exact o6 o (by omega)
    · rw [rep_ne (by omega), o6 87 (by omega)]
    · rw [rep_ne (by omega), o6 87 (by omega)]
theorem L_armfuls {i : Nat} {σ : Hs} (h : RR i σ) (d : Nat) (s : Int32) : Step d i 92 207 [.int s] σ := by
  by_cases hs : 0 ≤ s ∧ s ≤ 3
  · obtain ⟨u, lu, rfl⟩ := she_n hs
    have hu : u = 0 ∨ u = 1 ∨ u = 2 ∨ u = 3 := by omega
    rcases hu with rfl | rfl | rfl | rfl
    · exact L_armfuls_0 h d
    · exact L_armfuls_1 h d
    · exact L_armfuls_2 h d
    · exact L_armfuls_3 h d
  · have hsf := eq_false hs
    refine Step_err h 1 (v := -1000001) ?_ ?_
    · simp only [c92, s92_0, s92_1, s92_4, s92_7, s92_8, s92_9_o0, s92_12, s92_13, s92_14_o0, s92_17, s92_18_o76, s92_19_o77, s92_19_o79, s92_19_o81, s92_19_o83, s92_22, s92_25, s92_26, s92_27_o0, s92_30, s92_31, s92_32, s92_33, s92_34_o0, s92_37, s92_38_o76, s92_39_o77, s92_39_o79, s92_39_o81, s92_39_o83, s92_42, s92_43, s92_44, k_isSheet, hsf, b2_f, k_failed_1, simprocAttr, if_true, if_false, true_and, and_true, false_and, and_false, not_false_eq_true, not_true_eq_false, gd_T, kont_i, kont_v]
    · simp only [c207, s207_0, s207_1, s207_4, s207_7, s207_8, s207_10_o87, s207_13, s207_14, s207_15_o87, s207_18, s207_19_o100, s207_20, s207_23, s207_24, s207_26_o87, s207_29, s207_30, s207_31, s207_32, s207_34, s207_35, s207_36, m_isSheet, hsf, b2_f, m_fin_1, simprocAttr, if_true, if_false, true_and, and_true, false_and, and_false, not_false_eq_true, not_true_eq_false, gd_T, kont_i, kont_v]
