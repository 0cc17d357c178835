/-! ===== the model: smoke goes over the gardens; a minute ===== -/
def nxN (g w : Nat) : Option Nat := if w = 0 then (if g % 3 < 2 then some (g + 1) else none) else if w = 2 then (if 0 < g % 3 then some (g - 1) else none) else if w = 1 then (if g < 6 then some (g + 3) else none) else (if 3 ≤ g then some (g - 3) else none)
def nxI (g w : Nat) : Int32 := match nxN g w with
  | some x => nI x
  | none => -1
theorem b2_t (h : Decidable True) : @b2 True h = 1 := b2_T trivial
theorem b2_f (h : Decidable False) : @b2 False h = 0 := b2_F (fun q => q)
theorem n_0 : nI 0 = 0 := rfl
theorem n_1 : nI 1 = 1 := rfl
theorem n_2 : nI 2 = 2 := rfl
theorem n_3 : nI 3 = 3 := rfl
theorem n_4 : nI 4 = 4 := rfl
theorem n_5 : nI 5 = 5 := rfl
theorem n_6 : nI 6 = 6 := rfl
theorem n_7 : nI 7 = 7 := rfl
theorem n_8 : nI 8 = 8 := rfl
theorem m_next (d g w : Nat) (hg : g < 9) (hw : w < 4) (σ : Hs) : callD (d + 2) 167 [.int (nI g), .int (nI w)] σ = some (some (.int (nxI g w)), σ) := by
  have h1 : g = 0 ∨ g = 1 ∨ g = 2 ∨ g = 3 ∨ g = 4 ∨ g = 5 ∨ g = 6 ∨ g = 7 ∨ g = 8 := by omega
  have h2 : w = 0 ∨ w = 1 ∨ w = 2 ∨ w = 3 := by omega
  rcases h1 with rfl | rfl | rfl | rfl | rfl | rfl | rfl | rfl | rfl <;> rcases h2 with rfl | rfl | rfl | rfl <;> (simp only [c167, s167_0, s167_1, s167_2, s167_3, s167_4, s167_7, s167_8, s167_11, s167_12, s167_13, s167_16, s167_17, s167_20, s167_21, s167_22, s167_23, s167_24, s167_25, s167_26, s167_27, s167_28, s167_31, s167_32, s167_35, s167_36, s167_37, s167_40, s167_41, s167_44, s167_45, s167_46, s167_47, s167_48, s167_49, s167_50, s167_53, s167_56, s167_57, s167_58, s167_59, s167_62, s167_65, s167_66, s167_67, s167_68, s167_69, s167_70, s167_73, s167_74, n_0, n_1, n_2, n_3, n_4, n_5, n_6, n_7, n_8, m_within, b2_t, b2_f, simprocAttr, if_true, if_false, true_and, and_true, false_and, and_false, not_false_eq_true, not_true_eq_false, gd_T, kont_i, kont_v]; rfl)
def rkN (g w : Nat) : Nat := if w = 0 then 2 - g % 3 else if w = 2 then g % 3 else if w = 1 then 2 - g / 3 else g / 3
theorem nxN_lt {g w x : Nat} (hg : g < 9) (hw : w < 4) (h : nxN g w = some x) : x < 9 ∧ rkN x w + 1 = rkN g w := by
  have h1 : g = 0 ∨ g = 1 ∨ g = 2 ∨ g = 3 ∨ g = 4 ∨ g = 5 ∨ g = 6 ∨ g = 7 ∨ g = 8 := by omega
  have h2 : w = 0 ∨ w = 1 ∨ w = 2 ∨ w = 3 := by omega
  rcases h1 with rfl | rfl | rfl | rfl | rfl | rfl | rfl | rfl | rfl <;> rcases h2 with rfl | rfl | rfl | rfl <;> (cases h <;> decide)
/-- a garden has its half -/
def lgT (T : Nat → Int32) (g : Nat) (hour half : Int32) : Nat → Int32 := upd (upd T (224 + 3 * g) (moreI (T (224 + 3 * g)) half)) (224 + 3 * g + 1) (moreI (T (224 + 3 * g + 1)) (if bitI (T (224 + 3 * g + 2)) hour then half else 0))
def laL (hour : Int32) (w : Nat) : Nat → (Nat → Int32) → Int32 → Nat → Nat → Int32
  | 0, T, _, _ => T
  | n + 1, T, left, g => match nxN g w with
    | some x => laL hour w n (lgT T g hour (left / 2)) (left - left / 2) x
    | none => lgT T g hour (left / 2)
theorem m_lies_1 (d w g : Nat) (hw : w < 4) (hour left : Int32) (σ : Hs) (T : Nat → Int32) (l4 l5 : Value) (hg : g < 9) (h6 : T 6 = nI w) (hc4 : l4.category = 1) : ru (d + 3) 168 54 [.ref 87, .int hour, .int left, .int (nI g), l4, l5] [] (rep σ 88 T) = ru (d + 3) 168 54 [.ref 87, .int hour, .int (left - left / 2), .int (nxI g w), .int (nI (224 + 3 * g)), .int (left / 2)] [] (rep σ 88 (lgT T g hour (left / 2))) := by
  have g31 : g < 2147483648 := by omega
  have a545 : 224 + 3 * g < 545 := by omega
  have a31 : 224 + 3 * g < 2147483648 := by omega
  have b545 : 224 + 3 * g + 1 < 545 := by omega
  have b31 : 224 + 3 * g + 1 < 2147483648 := by omega
  have c545 : 224 + 3 * g + 2 < 545 := by omega
  have c31 : 224 + 3 * g + 2 < 2147483648 := by omega
  have ea : (224 : Int32) + 3 * nI g = nI (224 + 3 * g) := by rw [show (224 : Int32) = nI 224 from rfl, show (3 : Int32) = nI 3 from rfl, pk_mul, nI_add]
  have e0 : nI (224 + 3 * g) + 0 = nI (224 + 3 * g) := nI_add _ 0
  have e1 : nI (224 + 3 * g) + 1 = nI (224 + 3 * g + 1) := nI_add _ 1
  have e2 : nI (224 + 3 * g) + 2 = nI (224 + 3 * g + 2) := nI_add _ 2
  have q1 : (224 + 3 * g + 1 = 224 + 3 * g) = False := by simp
  have q2 : (224 + 3 * g + 2 = 224 + 3 * g) = False := by simp
  have q5 : (224 + 3 * g + 2 = 224 + 3 * g + 1) = False := by simp
  have q3 : (6 = 224 + 3 * g) = False := eq_false (by omega)
  have q4 : (6 = 224 + 3 * g + 1) = False := eq_false (by omega)
  generalize hR : ru (d + 3) 168 54 [.ref 87, .int hour, .int (left - left / 2), .int (nxI g w), .int (nI (224 + 3 * g)), .int (left / 2)] [] (rep σ 88 (lgT T g hour (left / 2))) = R
  simp only [s168_54]
  simp only [s168_55, s168_58, s168_61, s168_62, s168_63, s168_64, s168_65, s168_67, s168_68, s168_69, s168_70, s168_72, s168_73_o87, s168_76, s168_78, s168_79, s168_80, s168_81_o87, s168_84, s168_86, s168_87, s168_88_o88, s168_89, s168_91, s168_94_o88, nI_pos g31, ea, e0, vp_nI a545, cl_nI a31, z2, m_more, rep_at, rep_rep, up2_rep, simprocAttr, if_true, if_false, true_and, and_true, false_and, and_false, not_false_eq_true, not_true_eq_false, gd_T, kont_i, kont_v]
  obtain ⟨T1, hT1⟩ : ∃ T1, T1 = upd T (224 + 3 * g) (moreI (T (224 + 3 * g)) (left / 2)) := ⟨_, rfl⟩
  rw [← hT1]
  simp only [s168_95, s168_96_o87, s168_99, s168_101, s168_102, s168_103, s168_104_o87, s168_107, s168_109, s168_110, s168_111_o88, s168_112, s168_113_o87, s168_116, s168_118, s168_119, s168_120_o88, s168_121, s168_122, s168_125, s168_128, s168_130, s168_133, e1, e2, vp_nI b545, cl_nI b31, vp_nI c545, cl_nI c31, m_has, rep_at, b2_0, simprocAttr, if_true, if_false, true_and, and_true, false_and, and_false, not_false_eq_true, not_true_eq_false, gd_T, kont_i, kont_v]
  have f1 : T1 (224 + 3 * g + 1) = T (224 + 3 * g + 1) := by rw [hT1]; simp only [upd, q1, simprocAttr, if_true, if_false, true_and, and_true, false_and, and_false, not_false_eq_true, not_true_eq_false, gd_T, kont_i, kont_v]
  have f2 : T1 (224 + 3 * g + 2) = T (224 + 3 * g + 2) := by rw [hT1]; simp only [upd, q2, simprocAttr, if_true, if_false, true_and, and_true, false_and, and_false, not_false_eq_true, not_true_eq_false, gd_T, kont_i, kont_v]
  have f6 : T1 6 = T 6 := by rw [hT1]; simp only [upd, q3, simprocAttr, if_true, if_false, true_and, and_true, false_and, and_false, not_false_eq_true, not_true_eq_false, gd_T, kont_i, kont_v]
  rw [f1, f2]
  unfold lgT at hR
  rw [← hT1] at hR
  by_cases hb : bitI (T (224 + 3 * g + 2)) hour
  · rw [if_neg (fun q => q hb)]
    rw [if_pos hb] at hR
    obtain ⟨T2, hT2⟩ : ∃ T2, T2 = upd T1 (224 + 3 * g + 1) (moreI (T (224 + 3 * g + 1)) (left / 2)) := ⟨_, rfl⟩
    have g6 : T2 6 = nI w := by rw [hT2, ← h6, ← f6]; simp only [upd, q4, simprocAttr, if_true, if_false, true_and, and_true, false_and, and_false, not_false_eq_true, not_true_eq_false, gd_T, kont_i, kont_v]
    rw [← hT2] at hR
    simp only [s168_128, s168_130, s168_133, s168_134, s168_137_o88, s168_138, s168_139, s168_141, s168_142, s168_143, s168_144, s168_145_o87, s168_148, s168_150_o88, s168_151, s168_154, s168_155, m_more, vp_nI b545, cl_nI b31, rep_at, rep_rep, up2_rep, ← hT2, vp_lit, g6, m_next _ _ _ hg hw, simprocAttr, if_true, if_false, true_and, and_true, false_and, and_false, not_false_eq_true, not_true_eq_false, gd_T, kont_i, kont_v]
    exact hR
  · rw [if_pos hb]
    rw [if_neg hb] at hR
    obtain ⟨T2, hT2⟩ : ∃ T2, T2 = upd T1 (224 + 3 * g + 1) (moreI (T (224 + 3 * g + 1)) 0) := ⟨_, rfl⟩
    have g6 : T2 6 = nI w := by rw [hT2, ← h6, ← f6]; simp only [upd, q4, simprocAttr, if_true, if_false, true_and, and_true, false_and, and_false, not_false_eq_true, not_true_eq_false, gd_T, kont_i, kont_v]
    rw [← hT2] at hR
    simp only [s168_128, s168_130, s168_133, s168_134, s168_137_o88, s168_138, s168_139, s168_141, s168_142, s168_143, s168_144, s168_145_o87, s168_148, s168_150_o88, s168_151, s168_154, s168_155, m_more, vp_nI b545, cl_nI b31, rep_at, rep_rep, up2_rep, ← hT2, vp_lit, g6, m_next _ _ _ hg hw, simprocAttr, if_true, if_false, true_and, and_true, false_and, and_false, not_false_eq_true, not_true_eq_false, gd_T, kont_i, kont_v]
    exact hR
theorem lgT_6 {T : Nat → Int32} {g a : Nat} {hour half : Int32} (h : a < 224) : lgT T g hour half a = T a := by
  unfold lgT
  simp only [upd]
  rw [if_neg (by omega), if_neg (by omega)]
theorem m_lies_l (d w : Nat) (hw : w < 4) (hour : Int32) (σ : Hs) : ∀ n g (left : Int32) (T : Nat → Int32) (l4 l5 : Value), rkN g w ≤ n → g < 9 → T 6 = nI w → l4.category = 1 → ru (d + 3) 168 54 [.ref 87, .int hour, .int left, .int (nI g), l4, l5] [] (rep σ 88 T) = some (none, rep σ 88 (laL hour w (n + 1) T left g)) := by
  intro n
  induction n with
  | zero =>
    intro g left T l4 l5 hr hg h6 hc4
    rw [m_lies_1 d w g hw hour left σ T l4 l5 hg h6 hc4, laL]
    cases h : nxN g w with
    | none =>
      rw [show nxI g w = -1 by unfold nxI; rw [h]]
      simp only [s168_54]
      simp only [s168_55, s168_158, simprocAttr, if_true, if_false, true_and, and_true, false_and, and_false, not_false_eq_true, not_true_eq_false, gd_T, kont_i, kont_v]
    | some x => have := (nxN_lt hg hw h).2; omega
  | succ n ih =>
    intro g left T l4 l5 hr hg h6 hc4
    rw [m_lies_1 d w g hw hour left σ T l4 l5 hg h6 hc4, laL]
    cases h : nxN g w with
    | none =>
      rw [show nxI g w = -1 by unfold nxI; rw [h]]
      simp only [s168_54]
      simp only [s168_55, s168_158, simprocAttr, if_true, if_false, true_and, and_true, false_and, and_false, not_false_eq_true, not_true_eq_false, gd_T, kont_i, kont_v]
    | some x =>
      obtain ⟨x9, hrk⟩ := nxN_lt hg hw h
      rw [show nxI g w = nI x by unfold nxI; rw [h]]
      exact ih x _ _ _ _ (by omega) x9 (by rw [lgT_6 (by omega)]; exact h6) rfl
def leI (T : Nat → Int32) (sm : Int32) : Int32 := (sm.toInt64 * (heldI (givT T 2 (T 4 / 60) (T 5) sm 0) 0 100).toInt64 / 100).toInt32
def laT (T : Nat → Int32) (sm : Int32) : Nat → Int32 := laL (T 4 / 60) (T 6).toNatClampNeg 3 T (leI T sm) (T 8).toNatClampNeg
theorem rk_le {g w : Nat} (hg : g < 9) : rkN g w ≤ 2 := by
  unfold rkN
  split
  · omega
  · split
    · omega
    · split <;> omega
theorem z100L : ((100 : Int64) = 0) = False := by decide +kernel
theorem m_lies (d : Nat) (σ : Hs) (hM : MOK (σ 88)) : ∃ σ', callD (d + 4) 168 [.ref 87] σ = some (none, σ') ∧ FM σ σ' (laT (σ 88) (σ 87 17)) (σ 87 17) := by
  obtain ⟨⟨-, -, hL⟩, -, ⟨g, hg, h8⟩, w, hw, h6⟩ := hM
  obtain ⟨σ1, h1, h2⟩ := m_given_2 d (σ 88 4 / 60) (σ 88 5) (σ 87 17) 0 σ hL
  have h88 : σ1 88 = σ 88 := h2 88 (by decide) (by decide)
  have hl := m_lies_l d w hw (σ 88 4 / 60) σ1 2 g (leI (σ 88) (σ 87 17)) (σ 88) uu uu (rk_le hg) hg h6 rfl
  refine ⟨rep σ1 88 (laT (σ 88) (σ 87 17)), ?_, rep_self _ _ _, ?_, ?_, ?_⟩
  · unfold laT
    rw [h6, h8, cl_nI (by omega), cl_nI (by omega)]
    rw [← hl]
    have e : rep σ1 88 (σ 88) = σ1 := by rw [← h88, rep_same]
    rw [e]
    simp only [s168_0, s168_1_o87, s168_4, s168_5_o88, s168_6, s168_8, s168_9, s168_10, s168_11_o87, s168_14, s168_15, s168_16, s168_17, s168_18, s168_19_o87, s168_22, s168_23_o88, s168_24, s168_25_o87, s168_28, s168_29_o87, s168_32, s168_33, s168_35, s168_38, s168_39, s168_40, s168_43, s168_44, s168_45, s168_46, s168_47_o87, s168_50, s168_52_o88, s168_53, c168, vp_lit, z60, h1, m_held, z100L, h88, h8, simprocAttr, if_true, if_false, true_and, and_true, false_and, and_false, not_false_eq_true, not_true_eq_false, gd_T, kont_i, kont_v]
    rfl
  · rw [rep_ne (by decide)]; rw [h2 87 (by decide) (by decide)]
  · intro k hk; rw [rep_ne (by decide)]; rw [h2 87 (by decide) (by decide)]
  · intro o o1 o2 o3 o4; rw [rep_ne o2]; exact h2 o o3 o4
