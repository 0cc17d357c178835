/-! ===== the class: draught, light, pour ===== -/
theorem eq_nn {a b : Nat} (ha : a < 2147483648) (hb : b < 2147483648) : (nI a = nI b) = (a = b) := by
  rw [eq_nI_r hb, nI_toInt ha]
  exact propext Int.ofNat_inj
theorem HR.te {b : Nat} {σ : Hs} {T : Nat → Int32} (h : HR b σ T) {p : Nat} (hp : p < 30) (hi : isT T p) (f : Nat) (h1 : 1 ≤ f) (h6 : f ≤ 6) (v : Int32) : HR b (rep σ (b + f) (upd (σ (b + f)) p v)) (teT T p f v) := by
  have e0 : ∀ q, isT (teT T p f v) q ↔ isT T q := by
    intro q
    show ofT (teT T p f v) q 0 = 1 ↔ _
    rw [ofT_te (by omega) (by omega), if_neg (fun c => absurd c.2 (by omega))]
  obtain ⟨a1, a2, a3, a4, a5, a6, a7, a8⟩ := h
  refine ⟨?_, ?_, ?_, ?_, ?_, ?_, ?_, ?_⟩
  · intro q hq hqi g g1 g6
    rw [ofT_te (by omega) (by omega), rep_at]
    by_cases c : g = f
    · subst c
      rw [if_pos rfl, upd_at]
      by_cases c2 : q = p
      · rw [if_pos c2, if_pos ⟨c2, rfl⟩]
      · rw [if_neg c2, if_neg (fun x => c2 x.1)]
        exact a1 q hq ((e0 q).mp hqi) g g1 g6
    · rw [if_neg (by omega), if_neg (fun x => c x.2)]
      exact a1 q hq ((e0 q).mp hqi) g g1 g6
  · intro q hq hqi
    have hni : ¬ isT T q := fun x => hqi ((e0 q).mpr x)
    have hqp : q ≠ p := fun x => hni (x ▸ hi)
    rw [rep_at]
    by_cases c : b + 2 = b + f
    · rw [if_pos c, upd_at, if_neg hqp, ← c]
      exact a2 q hq hni
    · rw [if_neg c]
      exact a2 q hq hni
  · intro k hk
    rw [rep_ne (by omega), teT_lo (by omega)]
    exact a3 k hk
  · intro g hg
    rw [rep_ne (by omega), rep_ne (by omega), rep_ne (by omega), teT_hi hp (by omega) (by omega), teT_hi hp (by omega) (by omega), teT_hi hp (by omega) (by omega)]
    exact a4 g hg
  · rw [rep_ne (by omega), teT_lo (by omega)]; exact a5
  · rw [rep_ne (by omega), teT_lo (by omega)]; exact a6
  · rw [rep_ne (by omega), teT_lo (by omega)]; exact a7
  · rw [rep_ne (by omega), teT_lo (by omega)]; exact a8
theorem isT_te {T : Nat → Int32} {p q f : Nat} {v : Int32} (h1 : 1 ≤ f) (h6 : f ≤ 6) : isT (teT T p f v) q = isT T q := by
  show (ofT (teT T p f v) q 0 = 1) = _
  rw [ofT_te (by omega) (by omega), if_neg (fun c => absurd c.2 (by omega))]
theorem jmax_c (a b : Int32) : jmax a b = jmax b a := by
  unfold jmax
  by_cases h : a < b
  · rw [if_pos h, if_neg (fun q => Int32.lt_irrefl (Int32.lt_trans h q))]
  · rw [if_neg h]
    by_cases h2 : b < a
    · rw [if_pos h2]
    · rw [if_neg h2]
      exact Int32.le_antisymm (Int32.not_lt.mp h2) (Int32.not_lt.mp h)
theorem jmin_c (a b : Int32) : jmin a b = jmin b a := by
  unfold jmin
  by_cases h : b < a
  · rw [if_pos h, if_neg (fun q => Int32.lt_irrefl (Int32.lt_trans h q))]
  · rw [if_neg h]
    by_cases h2 : a < b
    · rw [if_pos h2]
    · rw [if_neg h2]
      exact Int32.le_antisymm (Int32.not_lt.mp h) (Int32.not_lt.mp h2)
theorem nar1 : vp_nar .boolean 1 = 1 := by decide +kernel
theorem nar0 : vp_nar .boolean 0 = 0 := by decide +kernel
/-- what lies, lies on something -/
def HS (T : Nat → Int32) : Prop := ∀ p, p < 24 → isT T (p + 6) → isT T p
theorem op_some {T : Nat → Int32} {p s x : Nat} (h : besN p s = some x) : opI2 T p s = if isT T x then 0 else 1 := by
  have e : opT T p s = ¬ isT T x := by unfold opT; rw [h]
  unfold opI2
  by_cases hi : isT T x
  · rw [if_neg (by rw [e]; exact fun q => q hi), if_pos hi]
  · rw [if_pos (by rw [e]; exact hi), if_neg hi]
theorem op_none {T : Nat → Int32} {p s : Nat} (h : besN p s = none) (h3 : s ≠ 3) : opI2 T p s = 1 := by
  have e : opT T p s = (s ≠ 3) := by unfold opT; rw [h]
  unfold opI2
  rw [if_pos (by rw [e]; exact h3)]
theorem op_3 {T : Nat → Int32} {p : Nat} (hp : p < 30) (hi : isT T p) (hS : HS T) : opI2 T p 3 = 0 := by
  by_cases h : 6 ≤ p
  · have hb : besN p 3 = some (p - 6) := by
      unfold besN
      rw [if_neg (by omega), if_neg (by omega), if_neg (by omega), if_pos h]
    rw [op_some hb, if_pos (hS (p - 6) (by omega) (by rw [show p - 6 + 6 = p by omega]; exact hi))]
  · have hb : besN p 3 = none := by
      unfold besN
      rw [if_neg (by omega), if_neg (by omega), if_neg (by omega), if_neg h]
    have e : opT T p 3 = (3 ≠ 3) := by unfold opT; rw [hb]
    unfold opI2
    rw [if_neg (by rw [e]; exact fun q => q rfl)]
theorem h2_draughtOf (d p : Nat) (hp : p < 30) (σ : Hs) (T : Nat → Int32) (h : HR 2 σ T) (hP : HP T) (hS : HS T) (hi : isT T p) : callD (d + 1) 12 [.ref 2, .int (nI p)] σ = some (some (.int (drT T p)), σ) := by
  have p31 : p < 2147483648 := by omega
  have pm31 : p % 6 < 2147483648 := by omega
  have p631 : p + 6 < 2147483648 := by omega
  have e6 : nI p + 6 = nI (p + 6) := nI_add p 6
  have s1 : ru d 12 0 [.ref 2, .int (nI p), uu, uu, uu, uu, uu, uu, uu] [] σ = ru d 12 26 [.ref 2, .int (nI p), .int (nI (p % 6)), .int (opI2 T p 0), uu, uu, uu, uu, uu] [] σ := by
    generalize hR : ru d 12 26 [.ref 2, .int (nI p), .int (nI (p % 6)), .int (opI2 T p 0), uu, uu, uu, uu, uu] [] σ = R
    simp only [s12_0, s12_1, s12_3, s12_4, s12_5, s12_6, s12_9, s12_10_o2, s12_10_o59, s12_13, s12_14, s12_15, s12_16_o4, s12_16_o61, s12_17, s12_20, s12_21, s12_24, s12_25, z6, rem6 p31, not_false_eq_true, simprocAttr, if_true, if_false, true_and, and_true, false_and, and_false, not_false_eq_true, not_true_eq_false, gd_T, kont_i, kont_v]
    by_cases c : p % 6 = 0
    · have hb : besN p 0 = none := by unfold besN; rw [if_pos rfl, if_neg (by omega)]
      rw [op_none hb (by omega)] at hR
      simp only [c, show (nI 0 = 0) = True from eq_true rfl, simprocAttr, if_true, if_false, true_and, and_true, false_and, and_false, not_false_eq_true, not_true_eq_false, gd_T, kont_i, kont_v]
      rw [show (nI 0 : Int32) = nI (p % 6) by rw [c]]
      exact hR
    · have hb : besN p 0 = some (p - 1) := by unfold besN; rw [if_pos rfl, if_pos (by omega)]
      have q30 : p - 1 < 30 := by omega
      have q31 : p - 1 < 2147483648 := by omega
      have ez : (σ 4 (p - 1) = 0) = ¬ isT T (p - 1) := h.z hP q30
      have e1 : nI p - 1 = nI (p - 1) := by rw [show p = (p - 1) + 1 by omega, nI_pred]; rfl
      rw [op_some hb] at hR
      rw [if_neg (show ¬ nI (p % 6) = 0 by rw [show (0 : Int32) = nI 0 from rfl, eq_nn pm31 (by omega)]; exact c)]
      simp only [e1, vp_nI q30, cl_nI q31, ez, simprocAttr, if_true, if_false, true_and, and_true, false_and, and_false, not_false_eq_true, not_true_eq_false, gd_T, kont_i, kont_v]
      by_cases hh : isT T (p - 1)
      · rw [if_pos hh] at hR
        rw [if_neg (fun q => q hh)]
        exact hR
      · rw [if_neg hh] at hR
        rw [if_pos hh]
        exact hR
  have s2 : ∀ a : Int32, ru d 12 26 [.ref 2, .int (nI p), .int (nI (p % 6)), .int a, uu, uu, uu, uu, uu] [] σ = ru d 12 49 [.ref 2, .int (nI p), .int (nI (p % 6)), .int a, .int (opI2 T p 1), uu, uu, uu, uu] [] σ := by
    intro a
    generalize hR : ru d 12 49 [.ref 2, .int (nI p), .int (nI (p % 6)), .int a, .int (opI2 T p 1), uu, uu, uu, uu] [] σ = R
    simp only [s12_26, s12_27, s12_28, s12_31, s12_32_o2, s12_32_o59, s12_35, s12_36, s12_37, s12_38_o4, s12_38_o61, s12_39, s12_42, s12_43, s12_46, s12_47, simprocAttr, if_true, if_false, true_and, and_true, false_and, and_false, not_false_eq_true, not_true_eq_false, gd_T, kont_i, kont_v]
    by_cases c : p % 6 = 5
    · have hb : besN p 1 = none := by unfold besN; rw [if_neg (by omega), if_pos rfl, if_neg (by omega)]
      rw [op_none hb (by omega)] at hR
      rw [if_pos (show nI (p % 6) = 5 by rw [c]; rfl)]
      exact hR
    · have hb : besN p 1 = some (p + 1) := by unfold besN; rw [if_neg (by omega), if_pos rfl, if_pos (by omega)]
      have q30 : p + 1 < 30 := by omega
      have q31 : p + 1 < 2147483648 := by omega
      have ez : (σ 4 (p + 1) = 0) = ¬ isT T (p + 1) := h.z hP q30
      rw [op_some hb] at hR
      rw [if_neg (show ¬ nI (p % 6) = 5 by rw [show (5 : Int32) = nI 5 from rfl, eq_nn pm31 (by omega)]; exact c)]
      simp only [nI_1, vp_nI q30, cl_nI q31, ez, simprocAttr, if_true, if_false, true_and, and_true, false_and, and_false, not_false_eq_true, not_true_eq_false, gd_T, kont_i, kont_v]
      by_cases hh : isT T (p + 1)
      · rw [if_pos hh] at hR
        rw [if_neg (fun q => q hh)]
        exact hR
      · rw [if_neg hh] at hR
        rw [if_pos hh]
        exact hR
  have s3 : ∀ a a2 : Int32, ru d 12 49 [.ref 2, .int (nI p), .int (nI (p % 6)), .int a, .int a2, uu, uu, uu, uu] [] σ = ru d 12 77 [.ref 2, .int (nI p), .int (nI (p % 6)), .int a, .int a2, .int (opI2 T p 2), uu, uu, uu] [] σ := by
    intro a a2
    generalize hR : ru d 12 77 [.ref 2, .int (nI p), .int (nI (p % 6)), .int a, .int a2, .int (opI2 T p 2), uu, uu, uu] [] σ = R
    simp only [s12_49, s12_50, s12_52, s12_53, s12_55, s12_58, s12_59_o2, s12_59_o59, s12_62, s12_63, s12_65, s12_66_o4, s12_66_o61, s12_67, s12_70, s12_71, s12_74, s12_75, e6, le_nI_r p631, simprocAttr, if_true, if_false, true_and, and_true, false_and, and_false, not_false_eq_true, not_true_eq_false, gd_T, kont_i, kont_v]
    by_cases c : p + 6 < 30
    · have hb : besN p 2 = some (p + 6) := by unfold besN; rw [if_neg (by omega), if_neg (by omega), if_pos rfl, if_pos c]
      have ez : (σ 4 (p + 6) = 0) = ¬ isT T (p + 6) := h.z hP c
      rw [op_some hb] at hR
      rw [if_neg (by omega)]
      simp only [vp_nI c, cl_nI p631, ez, simprocAttr, if_true, if_false, true_and, and_true, false_and, and_false, not_false_eq_true, not_true_eq_false, gd_T, kont_i, kont_v]
      by_cases hh : isT T (p + 6)
      · rw [if_pos hh] at hR
        rw [if_neg (fun q => q hh)]
        exact hR
      · rw [if_neg hh] at hR
        rw [if_pos hh]
        exact hR
    · have hb : besN p 2 = none := by unfold besN; rw [if_neg (by omega), if_neg (by omega), if_pos rfl, if_neg c]
      rw [op_none hb (by omega)] at hR
      rw [if_pos (by omega)]
      exact hR
  have s4 : ∀ a a2 a3 : Int32, isB a → isB a2 → isB a3 → ru d 12 77 [.ref 2, .int (nI p), .int (nI (p % 6)), .int a, .int a2, .int a3, uu, uu, uu] [] σ = ru d 12 110 [.ref 2, .int (nI p), .int (nI (p % 6)), .int a, .int a2, .int a3, .int (a + a2 + a3), uu, uu] [] σ := by
    intro a a2 a3 b1 b2 b3
    generalize hR : ru d 12 110 [.ref 2, .int (nI p), .int (nI (p % 6)), .int a, .int a2, .int a3, .int (a + a2 + a3), uu, uu] [] σ = R
    rcases b1 with rfl | rfl <;> rcases b2 with rfl | rfl <;> rcases b3 with rfl | rfl <;> (simp only [s12_77, s12_78, s12_81, s12_82, s12_85, s12_86, s12_88, s12_91, s12_92, s12_95, s12_96, s12_97, s12_99, s12_102, s12_103, s12_106, s12_107, s12_108, simprocAttr, if_true, if_false, true_and, and_true, false_and, and_false, not_false_eq_true, not_true_eq_false, gd_T, kont_i, kont_v]; exact hR)
  have g4 : σ 6 p = ofT T p 4 := h.f hp hi 4 (by omega) (by omega)
  have k2 : σ 9 2 = T 6 := h.2.2.1 2 (by omega)
  have k1 : σ 9 1 = T 5 := h.2.2.1 1 (by omega)
  have e4 : cntT T p 4 = opI2 T p 0 + opI2 T p 1 + opI2 T p 2 := by
    simp only [cntT]
    rw [op_3 hp hi hS, Int32.add_zero, Int32.zero_add]
  simp only [c12]
  rw [s1, s2, s3, s4 _ _ _ (opI2_B T p 0) (opI2_B T p 1) (opI2_B T p 2), ← e4]
  unfold drT sideW
  by_cases w0 : T 6 = 0
  · simp only [s12_110, s12_111_o2, s12_111_o59, s12_114, s12_115_o9, s12_115_o66, s12_116, s12_118, s12_120, s12_123, s12_124, s12_127, s12_129, s12_130, s12_133, s12_135, s12_138, s12_140, s12_142, s12_144, s12_145_o2, s12_145_o59, s12_148, s12_149_o6, s12_149_o63, s12_150, s12_151, s12_153, s12_156, s12_157_o2, s12_157_o59, s12_160, s12_161_o9, s12_161_o66, s12_162, s12_165, s12_166, s12_167, vp_lit, vp_nI hp, cl_nI p31, g4, k1, k2, w0, simprocAttr, if_true, if_false, true_and, and_true, false_and, and_false, not_false_eq_true, not_true_eq_false, gd_T, kont_i, kont_v]
    rcases opI2_B T p 0 with c | c <;> simp only [c, simprocAttr, if_true, if_false, true_and, and_true, false_and, and_false, not_false_eq_true, not_true_eq_false, gd_T, kont_i, kont_v]
  · by_cases w2 : T 6 = 2
    · simp only [s12_110, s12_111_o2, s12_111_o59, s12_114, s12_115_o9, s12_115_o66, s12_116, s12_118, s12_120, s12_123, s12_124, s12_127, s12_129, s12_130, s12_133, s12_135, s12_138, s12_140, s12_142, s12_144, s12_145_o2, s12_145_o59, s12_148, s12_149_o6, s12_149_o63, s12_150, s12_151, s12_153, s12_156, s12_157_o2, s12_157_o59, s12_160, s12_161_o9, s12_161_o66, s12_162, s12_165, s12_166, s12_167, vp_lit, vp_nI hp, cl_nI p31, g4, k1, k2, w2, simprocAttr, if_true, if_false, true_and, and_true, false_and, and_false, not_false_eq_true, not_true_eq_false, gd_T, kont_i, kont_v]
      rcases opI2_B T p 1 with c | c <;> simp only [c, simprocAttr, if_true, if_false, true_and, and_true, false_and, and_false, not_false_eq_true, not_true_eq_false, gd_T, kont_i, kont_v]
    · simp only [s12_110, s12_111_o2, s12_111_o59, s12_114, s12_115_o9, s12_115_o66, s12_116, s12_118, s12_120, s12_123, s12_124, s12_127, s12_129, s12_130, s12_133, s12_135, s12_138, s12_140, s12_142, s12_144, s12_145_o2, s12_145_o59, s12_148, s12_149_o6, s12_149_o63, s12_150, s12_151, s12_153, s12_156, s12_157_o2, s12_157_o59, s12_160, s12_161_o9, s12_161_o66, s12_162, s12_165, s12_166, s12_167, vp_lit, vp_nI hp, cl_nI p31, g4, k1, k2, w0, w2, simprocAttr, if_true, if_false, true_and, and_true, false_and, and_false, not_false_eq_true, not_true_eq_false, gd_T, kont_i, kont_v]
      rcases opI2_B T p 2 with c | c <;> simp only [c, simprocAttr, if_true, if_false, true_and, and_true, false_and, and_false, not_false_eq_true, not_true_eq_false, gd_T, kont_i, kont_v]
theorem h2_lightByHand (d p : Nat) (hp : p < 30) (σ : Hs) (T : Nat → Int32) (h : HR 2 σ T) (hi : isT T p) : ∃ σ', callD (d + 1) 9 [.ref 2, .int (nI p)] σ = some (none, σ') ∧ HR 2 σ' (liT T p) ∧ ∀ o, o ≠ 7 → o ≠ 8 → σ' o = σ o := by
  have p31 : p < 2147483648 := by omega
  have g5 : σ 7 p = ofT T p 5 := h.f hp hi 5 (by omega) (by omega)
  have r1 := h.te hp hi 6 (by omega) (by omega) 1
  have r2 := r1.te hp (by rw [isT_te (by omega) (by omega)]; exact hi) 5 (by omega) (by omega) (jmax 100 (ofT T p 5))
  refine ⟨_, ?_, r2, ?_⟩
  · simp only [c9, s9_0, s9_1_o2, s9_1_o59, s9_4, s9_5, s9_6_o8, s9_6_o65, s9_7, s9_8_o2, s9_8_o59, s9_11, s9_12, s9_13_o2, s9_13_o59, s9_16, s9_17_o7, s9_17_o64, s9_18, s9_20, s9_23_o7, s9_23_o64, s9_24, vp_nI hp, cl_nI p31, up2_rep, rep_at, nar1, g5, jmax_c, simprocAttr, if_true, if_false, true_and, and_true, false_and, and_false, not_false_eq_true, not_true_eq_false, gd_T, kont_i, kont_v]
  · intro o o1 o2
    rw [rep_ne o1, rep_ne o2]
theorem h2_pourOn (d p : Nat) (hp : p < 30) (w : Int32) (σ : Hs) (T : Nat → Int32) (h : HR 2 σ T) (hi : isT T p) : ∃ σ', callD (d + 1) 10 [.ref 2, .int (nI p), .int w] σ = some (none, σ') ∧ HR 2 σ' (poT T p w) ∧ ∀ o, o ≠ 5 → o ≠ 7 → σ' o = σ o := by
  have p31 : p < 2147483648 := by omega
  have g5 : σ 7 p = ofT T p 5 := h.f hp hi 5 (by omega) (by omega)
  have g3 : σ 5 p = ofT T p 3 := h.f hp hi 3 (by omega) (by omega)
  have r1 := h.te hp hi 3 (by omega) (by omega) (jmin 999 (ofT T p 3 + w))
  have r2 := r1.te hp (by rw [isT_te (by omega) (by omega)]; exact hi) 5 (by omega) (by omega) (jmax 0 (ofT T p 5 - w))
  refine ⟨_, ?_, r2, ?_⟩
  · simp only [c10, s10_0, s10_1_o2, s10_1_o59, s10_4, s10_5, s10_6_o2, s10_6_o59, s10_9, s10_10_o5, s10_10_o62, s10_11, s10_12, s10_13, s10_16, s10_19_o5, s10_19_o62, s10_20, s10_21_o2, s10_21_o59, s10_24, s10_25, s10_26_o2, s10_26_o59, s10_29, s10_30_o7, s10_30_o64, s10_31, s10_32, s10_33, s10_34, s10_37_o7, s10_37_o64, s10_38, vp_nI hp, cl_nI p31, up2_rep, rep_at, g5, g3, simprocAttr, if_true, if_false, true_and, and_true, false_and, and_false, not_false_eq_true, not_true_eq_false, gd_T, kont_i, kont_v]
    rw [jmin_c, jmax_c]
  · intro o o1 o2
    rw [rep_ne o2, rep_ne o1]
theorem h59_draughtOf (d p : Nat) (hp : p < 30) (σ : Hs) (T : Nat → Int32) (h : HR 59 σ T) (hP : HP T) (hS : HS T) (hi : isT T p) : callD (d + 1) 12 [.ref 59, .int (nI p)] σ = some (some (.int (drT T p)), σ) := by
  have p31 : p < 2147483648 := by omega
  have pm31 : p % 6 < 2147483648 := by omega
  have p631 : p + 6 < 2147483648 := by omega
  have e6 : nI p + 6 = nI (p + 6) := nI_add p 6
  have s1 : ru d 12 0 [.ref 59, .int (nI p), uu, uu, uu, uu, uu, uu, uu] [] σ = ru d 12 26 [.ref 59, .int (nI p), .int (nI (p % 6)), .int (opI2 T p 0), uu, uu, uu, uu, uu] [] σ := by
    generalize hR : ru d 12 26 [.ref 59, .int (nI p), .int (nI (p % 6)), .int (opI2 T p 0), uu, uu, uu, uu, uu] [] σ = R
    simp only [s12_0, s12_1, s12_3, s12_4, s12_5, s12_6, s12_9, s12_10_o2, s12_10_o59, s12_13, s12_14, s12_15, s12_16_o4, s12_16_o61, s12_17, s12_20, s12_21, s12_24, s12_25, z6, rem6 p31, not_false_eq_true, simprocAttr, if_true, if_false, true_and, and_true, false_and, and_false, not_false_eq_true, not_true_eq_false, gd_T, kont_i, kont_v]
    by_cases c : p % 6 = 0
    · have hb : besN p 0 = none := by unfold besN; rw [if_pos rfl, if_neg (by omega)]
      rw [op_none hb (by omega)] at hR
      simp only [c, show (nI 0 = 0) = True from eq_true rfl, simprocAttr, if_true, if_false, true_and, and_true, false_and, and_false, not_false_eq_true, not_true_eq_false, gd_T, kont_i, kont_v]
      rw [show (nI 0 : Int32) = nI (p % 6) by rw [c]]
      exact hR
    · have hb : besN p 0 = some (p - 1) := by unfold besN; rw [if_pos rfl, if_pos (by omega)]
      have q30 : p - 1 < 30 := by omega
      have q31 : p - 1 < 2147483648 := by omega
      have ez : (σ 61 (p - 1) = 0) = ¬ isT T (p - 1) := h.z hP q30
      have e1 : nI p - 1 = nI (p - 1) := by rw [show p = (p - 1) + 1 by omega, nI_pred]; rfl
      rw [op_some hb] at hR
      rw [if_neg (show ¬ nI (p % 6) = 0 by rw [show (0 : Int32) = nI 0 from rfl, eq_nn pm31 (by omega)]; exact c)]
      simp only [e1, vp_nI q30, cl_nI q31, ez, simprocAttr, if_true, if_false, true_and, and_true, false_and, and_false, not_false_eq_true, not_true_eq_false, gd_T, kont_i, kont_v]
      by_cases hh : isT T (p - 1)
      · rw [if_pos hh] at hR
        rw [if_neg (fun q => q hh)]
        exact hR
      · rw [if_neg hh] at hR
        rw [if_pos hh]
        exact hR
  have s2 : ∀ a : Int32, ru d 12 26 [.ref 59, .int (nI p), .int (nI (p % 6)), .int a, uu, uu, uu, uu, uu] [] σ = ru d 12 49 [.ref 59, .int (nI p), .int (nI (p % 6)), .int a, .int (opI2 T p 1), uu, uu, uu, uu] [] σ := by
    intro a
    generalize hR : ru d 12 49 [.ref 59, .int (nI p), .int (nI (p % 6)), .int a, .int (opI2 T p 1), uu, uu, uu, uu] [] σ = R
    simp only [s12_26, s12_27, s12_28, s12_31, s12_32_o2, s12_32_o59, s12_35, s12_36, s12_37, s12_38_o4, s12_38_o61, s12_39, s12_42, s12_43, s12_46, s12_47, simprocAttr, if_true, if_false, true_and, and_true, false_and, and_false, not_false_eq_true, not_true_eq_false, gd_T, kont_i, kont_v]
    by_cases c : p % 6 = 5
    · have hb : besN p 1 = none := by unfold besN; rw [if_neg (by omega), if_pos rfl, if_neg (by omega)]
      rw [op_none hb (by omega)] at hR
      rw [if_pos (show nI (p % 6) = 5 by rw [c]; rfl)]
      exact hR
    · have hb : besN p 1 = some (p + 1) := by unfold besN; rw [if_neg (by omega), if_pos rfl, if_pos (by omega)]
      have q30 : p + 1 < 30 := by omega
      have q31 : p + 1 < 2147483648 := by omega
      have ez : (σ 61 (p + 1) = 0) = ¬ isT T (p + 1) := h.z hP q30
      rw [op_some hb] at hR
      rw [if_neg (show ¬ nI (p % 6) = 5 by rw [show (5 : Int32) = nI 5 from rfl, eq_nn pm31 (by omega)]; exact c)]
      simp only [nI_1, vp_nI q30, cl_nI q31, ez, simprocAttr, if_true, if_false, true_and, and_true, false_and, and_false, not_false_eq_true, not_true_eq_false, gd_T, kont_i, kont_v]
      by_cases hh : isT T (p + 1)
      · rw [if_pos hh] at hR
        rw [if_neg (fun q => q hh)]
        exact hR
      · rw [if_neg hh] at hR
        rw [if_pos hh]
        exact hR
  have s3 : ∀ a a2 : Int32, ru d 12 49 [.ref 59, .int (nI p), .int (nI (p % 6)), .int a, .int a2, uu, uu, uu, uu] [] σ = ru d 12 77 [.ref 59, .int (nI p), .int (nI (p % 6)), .int a, .int a2, .int (opI2 T p 2), uu, uu, uu] [] σ := by
    intro a a2
    generalize hR : ru d 12 77 [.ref 59, .int (nI p), .int (nI (p % 6)), .int a, .int a2, .int (opI2 T p 2), uu, uu, uu] [] σ = R
    simp only [s12_49, s12_50, s12_52, s12_53, s12_55, s12_58, s12_59_o2, s12_59_o59, s12_62, s12_63, s12_65, s12_66_o4, s12_66_o61, s12_67, s12_70, s12_71, s12_74, s12_75, e6, le_nI_r p631, simprocAttr, if_true, if_false, true_and, and_true, false_and, and_false, not_false_eq_true, not_true_eq_false, gd_T, kont_i, kont_v]
    by_cases c : p + 6 < 30
    · have hb : besN p 2 = some (p + 6) := by unfold besN; rw [if_neg (by omega), if_neg (by omega), if_pos rfl, if_pos c]
      have ez : (σ 61 (p + 6) = 0) = ¬ isT T (p + 6) := h.z hP c
      rw [op_some hb] at hR
      rw [if_neg (by omega)]
      simp only [vp_nI c, cl_nI p631, ez, simprocAttr, if_true, if_false, true_and, and_true, false_and, and_false, not_false_eq_true, not_true_eq_false, gd_T, kont_i, kont_v]
      by_cases hh : isT T (p + 6)
      · rw [if_pos hh] at hR
        rw [if_neg (fun q => q hh)]
        exact hR
      · rw [if_neg hh] at hR
        rw [if_pos hh]
        exact hR
    · have hb : besN p 2 = none := by unfold besN; rw [if_neg (by omega), if_neg (by omega), if_pos rfl, if_neg c]
      rw [op_none hb (by omega)] at hR
      rw [if_pos (by omega)]
      exact hR
  have s4 : ∀ a a2 a3 : Int32, isB a → isB a2 → isB a3 → ru d 12 77 [.ref 59, .int (nI p), .int (nI (p % 6)), .int a, .int a2, .int a3, uu, uu, uu] [] σ = ru d 12 110 [.ref 59, .int (nI p), .int (nI (p % 6)), .int a, .int a2, .int a3, .int (a + a2 + a3), uu, uu] [] σ := by
    intro a a2 a3 b1 b2 b3
    generalize hR : ru d 12 110 [.ref 59, .int (nI p), .int (nI (p % 6)), .int a, .int a2, .int a3, .int (a + a2 + a3), uu, uu] [] σ = R
    rcases b1 with rfl | rfl <;> rcases b2 with rfl | rfl <;> rcases b3 with rfl | rfl <;> (simp only [s12_77, s12_78, s12_81, s12_82, s12_85, s12_86, s12_88, s12_91, s12_92, s12_95, s12_96, s12_97, s12_99, s12_102, s12_103, s12_106, s12_107, s12_108, simprocAttr, if_true, if_false, true_and, and_true, false_and, and_false, not_false_eq_true, not_true_eq_false, gd_T, kont_i, kont_v]; exact hR)
  have g4 : σ 63 p = ofT T p 4 := h.f hp hi 4 (by omega) (by omega)
  have k2 : σ 66 2 = T 6 := h.2.2.1 2 (by omega)
  have k1 : σ 66 1 = T 5 := h.2.2.1 1 (by omega)
  have e4 : cntT T p 4 = opI2 T p 0 + opI2 T p 1 + opI2 T p 2 := by
    simp only [cntT]
    rw [op_3 hp hi hS, Int32.add_zero, Int32.zero_add]
  simp only [c12]
  rw [s1, s2, s3, s4 _ _ _ (opI2_B T p 0) (opI2_B T p 1) (opI2_B T p 2), ← e4]
  unfold drT sideW
  by_cases w0 : T 6 = 0
  · simp only [s12_110, s12_111_o2, s12_111_o59, s12_114, s12_115_o9, s12_115_o66, s12_116, s12_118, s12_120, s12_123, s12_124, s12_127, s12_129, s12_130, s12_133, s12_135, s12_138, s12_140, s12_142, s12_144, s12_145_o2, s12_145_o59, s12_148, s12_149_o6, s12_149_o63, s12_150, s12_151, s12_153, s12_156, s12_157_o2, s12_157_o59, s12_160, s12_161_o9, s12_161_o66, s12_162, s12_165, s12_166, s12_167, vp_lit, vp_nI hp, cl_nI p31, g4, k1, k2, w0, simprocAttr, if_true, if_false, true_and, and_true, false_and, and_false, not_false_eq_true, not_true_eq_false, gd_T, kont_i, kont_v]
    rcases opI2_B T p 0 with c | c <;> simp only [c, simprocAttr, if_true, if_false, true_and, and_true, false_and, and_false, not_false_eq_true, not_true_eq_false, gd_T, kont_i, kont_v]
  · by_cases w2 : T 6 = 2
    · simp only [s12_110, s12_111_o2, s12_111_o59, s12_114, s12_115_o9, s12_115_o66, s12_116, s12_118, s12_120, s12_123, s12_124, s12_127, s12_129, s12_130, s12_133, s12_135, s12_138, s12_140, s12_142, s12_144, s12_145_o2, s12_145_o59, s12_148, s12_149_o6, s12_149_o63, s12_150, s12_151, s12_153, s12_156, s12_157_o2, s12_157_o59, s12_160, s12_161_o9, s12_161_o66, s12_162, s12_165, s12_166, s12_167, vp_lit, vp_nI hp, cl_nI p31, g4, k1, k2, w2, simprocAttr, if_true, if_false, true_and, and_true, false_and, and_false, not_false_eq_true, not_true_eq_false, gd_T, kont_i, kont_v]
      rcases opI2_B T p 1 with c | c <;> simp only [c, simprocAttr, if_true, if_false, true_and, and_true, false_and, and_false, not_false_eq_true, not_true_eq_false, gd_T, kont_i, kont_v]
    · simp only [s12_110, s12_111_o2, s12_111_o59, s12_114, s12_115_o9, s12_115_o66, s12_116, s12_118, s12_120, s12_123, s12_124, s12_127, s12_129, s12_130, s12_133, s12_135, s12_138, s12_140, s12_142, s12_144, s12_145_o2, s12_145_o59, s12_148, s12_149_o6, s12_149_o63, s12_150, s12_151, s12_153, s12_156, s12_157_o2, s12_157_o59, s12_160, s12_161_o9, s12_161_o66, s12_162, s12_165, s12_166, s12_167, vp_lit, vp_nI hp, cl_nI p31, g4, k1, k2, w0, w2, simprocAttr, if_true, if_false, true_and, and_true, false_and, and_false, not_false_eq_true, not_true_eq_false, gd_T, kont_i, kont_v]
      rcases opI2_B T p 2 with c | c <;> simp only [c, simprocAttr, if_true, if_false, true_and, and_true, false_and, and_false, not_false_eq_true, not_true_eq_false, gd_T, kont_i, kont_v]
theorem h59_lightByHand (d p : Nat) (hp : p < 30) (σ : Hs) (T : Nat → Int32) (h : HR 59 σ T) (hi : isT T p) : ∃ σ', callD (d + 1) 9 [.ref 59, .int (nI p)] σ = some (none, σ') ∧ HR 59 σ' (liT T p) ∧ ∀ o, o ≠ 64 → o ≠ 65 → σ' o = σ o := by
  have p31 : p < 2147483648 := by omega
  have g5 : σ 64 p = ofT T p 5 := h.f hp hi 5 (by omega) (by omega)
  have r1 := h.te hp hi 6 (by omega) (by omega) 1
  have r2 := r1.te hp (by rw [isT_te (by omega) (by omega)]; exact hi) 5 (by omega) (by omega) (jmax 100 (ofT T p 5))
  refine ⟨_, ?_, r2, ?_⟩
  · simp only [c9, s9_0, s9_1_o2, s9_1_o59, s9_4, s9_5, s9_6_o8, s9_6_o65, s9_7, s9_8_o2, s9_8_o59, s9_11, s9_12, s9_13_o2, s9_13_o59, s9_16, s9_17_o7, s9_17_o64, s9_18, s9_20, s9_23_o7, s9_23_o64, s9_24, vp_nI hp, cl_nI p31, up2_rep, rep_at, nar1, g5, jmax_c, simprocAttr, if_true, if_false, true_and, and_true, false_and, and_false, not_false_eq_true, not_true_eq_false, gd_T, kont_i, kont_v]
  · intro o o1 o2
    rw [rep_ne o1, rep_ne o2]
theorem h59_pourOn (d p : Nat) (hp : p < 30) (w : Int32) (σ : Hs) (T : Nat → Int32) (h : HR 59 σ T) (hi : isT T p) : ∃ σ', callD (d + 1) 10 [.ref 59, .int (nI p), .int w] σ = some (none, σ') ∧ HR 59 σ' (poT T p w) ∧ ∀ o, o ≠ 62 → o ≠ 64 → σ' o = σ o := by
  have p31 : p < 2147483648 := by omega
  have g5 : σ 64 p = ofT T p 5 := h.f hp hi 5 (by omega) (by omega)
  have g3 : σ 62 p = ofT T p 3 := h.f hp hi 3 (by omega) (by omega)
  have r1 := h.te hp hi 3 (by omega) (by omega) (jmin 999 (ofT T p 3 + w))
  have r2 := r1.te hp (by rw [isT_te (by omega) (by omega)]; exact hi) 5 (by omega) (by omega) (jmax 0 (ofT T p 5 - w))
  refine ⟨_, ?_, r2, ?_⟩
  · simp only [c10, s10_0, s10_1_o2, s10_1_o59, s10_4, s10_5, s10_6_o2, s10_6_o59, s10_9, s10_10_o5, s10_10_o62, s10_11, s10_12, s10_13, s10_16, s10_19_o5, s10_19_o62, s10_20, s10_21_o2, s10_21_o59, s10_24, s10_25, s10_26_o2, s10_26_o59, s10_29, s10_30_o7, s10_30_o64, s10_31, s10_32, s10_33, s10_34, s10_37_o7, s10_37_o64, s10_38, vp_nI hp, cl_nI p31, up2_rep, rep_at, g5, g3, simprocAttr, if_true, if_false, true_and, and_true, false_and, and_false, not_false_eq_true, not_true_eq_false, gd_T, kont_i, kont_v]
    rw [jmin_c, jmax_c]
  · intro o o1 o2
    rw [rep_ne o2, rep_ne o1]
