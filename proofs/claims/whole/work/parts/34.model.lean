/-! ===== the model: a minute ===== -/
def opT (T : Nat → Int32) (p s : Nat) : Prop := match besN p s with
  | some x => ¬ isT T x
  | none => s ≠ 3
theorem nI_inj_m1 {x : Nat} (h : x < 2147483648) : (nI x = -1) = False := by
  rw [eq_nI_l h]
  refine eq_false ?_
  have : (-1 : Int32).toInt = -1 := by decide +kernel
  rw [this]
  omega
theorem m_isOpen_n (d p s : Nat) (hp : p < 30) (hs : s < 4) (σ : Hs) : ∃ v, isB v ∧ (v = 1 ↔ opT (σ 88) p s) ∧ callD (d + 3) 130 [.ref 87, .int (nI p), .int (nI s)] σ = some (some (.int v), σ) := by
  have hb := m_beside (d + 1) p s hp hs σ
  unfold opT
  unfold besI at hb
  cases h : besN p s with
  | some x =>
    rw [h] at hb
    have hx := besN_lt hp h
    have hx31 : x < 2147483648 := by omega
    refine ⟨if isT (σ 88) x then 0 else 1, ?_, ?_, ?_⟩
    · by_cases hi : isT (σ 88) x
      · rw [if_pos hi]; exact Or.inl rfl
      · rw [if_neg hi]; exact Or.inr rfl
    · by_cases hi : isT (σ 88) x
      · rw [if_pos hi]; simp [hi]
      · rw [if_neg hi]; simp [hi]
    · simp only [c130, s130_0, s130_1, s130_2, s130_5, s130_6, s130_7, s130_8, s130_11, s130_12, s130_15, s130_16, s130_17_o87, s130_20, s130_23, s130_24, s130_27, s130_28, hb, nI_inj_m1 hx31, nI_pos hx31, m_is _ _ hx, b2_0, isB_0, isB_1, simprocAttr, if_true, if_false, true_and, and_true, false_and, and_false, not_false_eq_true, not_true_eq_false, gd_T, kont_i, kont_v]
      by_cases hi : isT (σ 88) x
      · rw [if_neg (fun q => q hi), if_pos hi]
      · rw [if_pos hi, if_neg hi]
  | none =>
    rw [h] at hb
    by_cases h3 : s = 3
    · rw [if_pos h3] at hb
      refine ⟨0, Or.inl rfl, by simp [h3], ?_⟩
      simp only [c130, s130_0, s130_1, s130_2, s130_5, s130_6, s130_7, s130_8, s130_11, s130_12, s130_15, s130_16, s130_17_o87, s130_20, s130_23, s130_24, s130_27, s130_28, hb, isB_0, isB_1, simprocAttr, if_true, if_false, true_and, and_true, false_and, and_false, not_false_eq_true, not_true_eq_false, gd_T, kont_i, kont_v]
    · rw [if_neg h3] at hb
      refine ⟨1, Or.inr rfl, by simp [h3], ?_⟩
      simp only [c130, s130_0, s130_1, s130_2, s130_5, s130_6, s130_7, s130_8, s130_11, s130_12, s130_15, s130_16, s130_17_o87, s130_20, s130_23, s130_24, s130_27, s130_28, hb, isB_0, isB_1, simprocAttr, if_true, if_false, true_and, and_true, false_and, and_false, not_false_eq_true, not_true_eq_false, gd_T, kont_i, kont_v]
noncomputable def opI2 (T : Nat → Int32) (p s : Nat) : Int32 := @ite _ (opT T p s) (Classical.propDecidable _) 1 0
theorem m_isOpen (d p s : Nat) (hp : p < 30) (hs : s < 4) (σ : Hs) : callD (d + 3) 130 [.ref 87, .int (nI p), .int (nI s)] σ = some (some (.int (opI2 (σ 88) p s)), σ) := by
  obtain ⟨v, h1, h2, h3⟩ := m_isOpen_n d p s hp hs σ
  rw [h3]
  unfold opI2
  by_cases h : opT (σ 88) p s
  · rw [if_pos h, h2.mpr h]
  · rw [if_neg h]
    rcases h1 with rfl | rfl
    · rfl
    · exact absurd (h2.mp rfl) h
theorem opI2_B (T : Nat → Int32) (p s : Nat) : opI2 T p s = 0 ∨ opI2 T p s = 1 := by
  unfold opI2
  by_cases h : opT T p s
  · rw [if_pos h]; exact Or.inr rfl
  · rw [if_neg h]; exact Or.inl rfl
noncomputable def cntT (T : Nat → Int32) (p : Nat) : Nat → Int32
  | 0 => 0
  | s + 1 => cntT T p s + opI2 T p s
def sideW (w : Int32) : Nat := if w = 0 then 0 else if w = 2 then 1 else 2
noncomputable def drT (T : Nat → Int32) (p : Nat) : Int32 := cntT T p 4 * ofT T p 4 + (if opI2 T p (sideW (T 6)) = 0 then 0 else T 5)
theorem m_draught_l (d p : Nat) (hp : p < 30) (l4 : Value) (σ : Hs) : ∀ k s, s + k = 4 → ru (d + 3) 131 4 [.ref 87, .int (nI p), .int (cntT (σ 88) p s), .int (nI s), l4] [] σ = ru (d + 3) 131 32 [.ref 87, .int (nI p), .int (cntT (σ 88) p 4), .int (nI 4), l4] [] σ := by
  intro k
  induction k with
  | zero =>
    intro s hs
    have h31 : s < 2147483648 := by omega
    simp only [s131_4]
    simp only [s131_5, s131_6, le_nI_r h31, simprocAttr, if_true, if_false, true_and, and_true, false_and, and_false, not_false_eq_true, not_true_eq_false, gd_T, kont_i, kont_v]
    rw [if_pos (by omega), show s = 4 by omega]
  | succ k ih =>
    intro s hs
    have h31 : s < 2147483648 := by omega
    have hs4 : s < 4 := by omega
    have hi := ih (s + 1) (by omega)
    simp only [s131_4]
    simp only [s131_5, s131_6, s131_9, s131_10, s131_11, s131_12, s131_13_o87, s131_16, s131_19, s131_20, s131_23, s131_24, s131_25, s131_26, s131_29, le_nI_r h31, m_isOpen _ _ _ hp hs4, nI_1, simprocAttr, if_true, if_false, true_and, and_true, false_and, and_false, not_false_eq_true, not_true_eq_false, gd_T, kont_i, kont_v]
    rw [if_neg (by omega)]
    rw [cntT] at hi
    rcases opI2_B (σ 88) p s with h | h
    · rw [h] at hi ⊢
      rw [if_pos rfl, hi]
    · rw [h] at hi ⊢
      rw [if_neg (by decide), hi]
theorem m_draughtOf (d p : Nat) (hp : p < 30) (σ : Hs) : callD (d + 4) 131 [.ref 87, .int (nI p)] σ = some (some (.int (drT (σ 88) p)), σ) := by
  have h := m_draught_l d p hp uu σ 4 0 rfl
  simp only [s131_0, s131_1, s131_2, s131_3, c131]
  rw [show (0 : Int32) = cntT (σ 88) p 0 from rfl, show ru (d + 3) 131 4 [.ref 87, .int (nI p), .int (cntT (σ 88) p 0), .int (cntT (σ 88) p 0), uu] [] σ = _ from h]
  have h0' : callD (d + 3) 130 [.ref 87, .int (nI p), .int 0] σ = _ := m_isOpen d p 0 hp (by omega) σ
  have h1' : callD (d + 3) 130 [.ref 87, .int (nI p), .int 1] σ = _ := m_isOpen d p 1 hp (by omega) σ
  have h2' : callD (d + 3) 130 [.ref 87, .int (nI p), .int 2] σ = _ := m_isOpen d p 2 hp (by omega) σ
  unfold drT sideW
  by_cases w0 : σ 88 6 = 0
  · simp only [s131_32, s131_33_o87, s131_36, s131_38_o88, s131_39, s131_40, s131_41, s131_44, s131_45, s131_48, s131_49, s131_50, s131_53, s131_54, s131_57, s131_58, s131_60, s131_61, s131_62, s131_63, s131_64_o87, s131_67, s131_68, s131_69, s131_70, s131_72_o87, s131_75, s131_78, s131_79_o87, s131_82, s131_83_o88, s131_84, s131_87, s131_88, s131_89, vp_lit, m_of_4 _ _ hp, w0, simprocAttr, if_true, if_false, true_and, and_true, false_and, and_false, not_false_eq_true, not_true_eq_false, gd_T, kont_i, kont_v]
    simp only [h0' , s131_75, s131_78, s131_79_o87, s131_82, s131_83_o88, s131_84, s131_87, s131_88, s131_89, vp_lit, simprocAttr, if_true, if_false, true_and, and_true, false_and, and_false, not_false_eq_true, not_true_eq_false, gd_T, kont_i, kont_v]
    rcases opI2_B (σ 88) p 0 with h | h <;> simp only [h, simprocAttr, if_true, if_false, true_and, and_true, false_and, and_false, not_false_eq_true, not_true_eq_false, gd_T, kont_i, kont_v]
  · by_cases w2 : σ 88 6 = 2
    · simp only [s131_32, s131_33_o87, s131_36, s131_38_o88, s131_39, s131_40, s131_41, s131_44, s131_45, s131_48, s131_49, s131_50, s131_53, s131_54, s131_57, s131_58, s131_60, s131_61, s131_62, s131_63, s131_64_o87, s131_67, s131_68, s131_69, s131_70, s131_72_o87, s131_75, s131_78, s131_79_o87, s131_82, s131_83_o88, s131_84, s131_87, s131_88, s131_89, vp_lit, m_of_4 _ _ hp, w0, w2, h1', simprocAttr, if_true, if_false, true_and, and_true, false_and, and_false, not_false_eq_true, not_true_eq_false, gd_T, kont_i, kont_v]
      rcases opI2_B (σ 88) p 1 with h | h <;> simp only [h, simprocAttr, if_true, if_false, true_and, and_true, false_and, and_false, not_false_eq_true, not_true_eq_false, gd_T, kont_i, kont_v]
    · simp only [s131_32, s131_33_o87, s131_36, s131_38_o88, s131_39, s131_40, s131_41, s131_44, s131_45, s131_48, s131_49, s131_50, s131_53, s131_54, s131_57, s131_58, s131_60, s131_61, s131_62, s131_63, s131_64_o87, s131_67, s131_68, s131_69, s131_70, s131_72_o87, s131_75, s131_78, s131_79_o87, s131_82, s131_83_o88, s131_84, s131_87, s131_88, s131_89, vp_lit, m_of_4 _ _ hp, w0, w2, h2', simprocAttr, if_true, if_false, true_and, and_true, false_and, and_false, not_false_eq_true, not_true_eq_false, gd_T, kont_i, kont_v]
      rcases opI2_B (σ 88) p 2 with h | h <;> simp only [h, simprocAttr, if_true, if_false, true_and, and_true, false_and, and_false, not_false_eq_true, not_true_eq_false, gd_T, kont_i, kont_v]
