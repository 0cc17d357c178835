/-! ===== the model: sums, heat, burning ===== -/
theorem ofT_te {T : Nat → Int32} {p f q h : Nat} {v : Int32} (hf : f < 7) (hh : h < 7) : ofT (teT T p f v) q h = if q = p ∧ h = f then v else ofT T q h := by
  simp only [ofT, teT, upd]
  by_cases c : q = p ∧ h = f
  · obtain ⟨rfl, rfl⟩ := c
    rw [if_pos rfl, if_pos ⟨rfl, rfl⟩]
  · rw [if_neg c, if_neg (by omega)]
theorem teT_lo {T : Nat → Int32} {p f : Nat} {v : Int32} {a : Nat} (h : a < 14) : teT T p f v a = T a := by
  simp only [teT, upd]
  rw [if_neg (by omega)]
theorem teT_hi {T : Nat → Int32} {p f : Nat} {v : Int32} {a : Nat} (hp : p < 30) (hf : f < 7) (h : 224 ≤ a) : teT T p f v a = T a := by
  simp only [teT, upd]
  rw [if_neg (by omega)]
def sumU (T : Nat → Int32) (f : Nat) : Nat → Int32
  | 0 => 0
  | n + 1 => sumU T f n + (if isT T n then ofT T n f else 0)
theorem m_sum_l (d f : Nat) (hf : f < 7) (σ : Hs) : ∀ k n, n + k = 30 → ru (d + 2) 159 4 [.ref 87, .int (nI f), .int (sumU (σ 88) f n), .int (nI n)] [] σ = some (some (.int (sumU (σ 88) f 30)), σ) := by
  intro k
  induction k with
  | zero =>
    intro n hn
    have h31 : n < 2147483648 := by omega
    simp only [s159_4]
    simp only [c159, s159_0, s159_1, s159_2, s159_3, s159_5, s159_7, s159_10, s159_11, s159_12, s159_13_o87, s159_16, s159_19, s159_20, s159_21, s159_22_o87, s159_25, s159_28, s159_29, s159_30, s159_31, s159_34, s159_37, s159_38, le_nI_r h31, simprocAttr, if_true, if_false, true_and, and_true, false_and, and_false, not_false_eq_true, not_true_eq_false, gd_T, kont_i, kont_v]
    rw [if_pos (by omega), show n = 30 by omega]
  | succ k ih =>
    intro n hn
    have h31 : n < 2147483648 := by omega
    have h30 : n < 30 := by omega
    have hi := ih (n + 1) (by omega)
    rw [sumU] at hi
    simp only [s159_4]
    simp only [c159, s159_0, s159_1, s159_2, s159_3, s159_5, s159_7, s159_10, s159_11, s159_12, s159_13_o87, s159_16, s159_19, s159_20, s159_21, s159_22_o87, s159_25, s159_28, s159_29, s159_30, s159_31, s159_34, s159_37, s159_38, le_nI_r h31, m_is _ _ h30, m_of_n _ _ _ h30 hf, b2_0, nI_1, simprocAttr, if_true, if_false, true_and, and_true, false_and, and_false, not_false_eq_true, not_true_eq_false, gd_T, kont_i, kont_v]
    rw [if_neg (by omega)]
    by_cases h : isT (σ 88) n
    · rw [if_pos h] at hi
      rw [if_neg (fun q => q h), hi]
    · rw [if_neg h] at hi
      rw [if_pos h, hi]
theorem m_sum_n (d f : Nat) (hf : f < 7) (σ : Hs) : callD (d + 3) 159 [.ref 87, .int (nI f)] σ = some (some (.int (sumU (σ 88) f 30)), σ) := by
  have h := m_sum_l d f hf σ 30 0 rfl
  simp only [s159_0, s159_1, s159_2, s159_3, c159]
  exact h
theorem m_sum_0 (d : Nat) (σ : Hs) : callD (d + 3) 159 [.ref 87, .int 0] σ = some (some (.int (sumU (σ 88) 0 30)), σ) := m_sum_n d 0 (by omega) σ
theorem m_sum_2 (d : Nat) (σ : Hs) : callD (d + 3) 159 [.ref 87, .int 2] σ = some (some (.int (sumU (σ 88) 2 30)), σ) := m_sum_n d 2 (by omega) σ
theorem m_sum_3 (d : Nat) (σ : Hs) : callD (d + 3) 159 [.ref 87, .int 3] σ = some (some (.int (sumU (σ 88) 3 30)), σ) := m_sum_n d 3 (by omega) σ
theorem m_sum_5 (d : Nat) (σ : Hs) : callD (d + 3) 159 [.ref 87, .int 5] σ = some (some (.int (sumU (σ 88) 5 30)), σ) := m_sum_n d 5 (by omega) σ
theorem m_sum_6 (d : Nat) (σ : Hs) : callD (d + 3) 159 [.ref 87, .int 6] σ = some (some (.int (sumU (σ 88) 6 30)), σ) := m_sum_n d 6 (by omega) σ
def liT (T : Nat → Int32) (p : Nat) : Nat → Int32 := teT (teT T p 6 1) p 5 (jmax 100 (ofT T p 5))
theorem m_lights (d p : Nat) (hp : p < 30) (σ : Hs) : callD (d + 2) 138 [.ref 87, .int (nI p)] σ = some (none, rep σ 88 (liT (σ 88) p)) := by
  simp only [c138, s138_0, s138_1, s138_2, s138_4, s138_5_o87, s138_8, s138_9, s138_10, s138_11, s138_13, s138_14, s138_15, s138_16_o87, s138_19, s138_22_o87, s138_25, m_tells_6 _ _ hp, m_tells_5 _ _ hp, m_of_5 _ _ hp, rep_at, rep_rep, ofT_te, true_and, simprocAttr, if_true, if_false, true_and, and_true, false_and, and_false, not_false_eq_true, not_true_eq_false, gd_T, kont_i, kont_v]
  rfl
def poT (T : Nat → Int32) (p : Nat) (w : Int32) : Nat → Int32 := teT (teT T p 3 (jmin 999 (ofT T p 3 + w))) p 5 (jmax 0 (ofT T p 5 - w))
theorem m_pours (d p : Nat) (hp : p < 30) (w : Int32) (σ : Hs) : callD (d + 2) 140 [.ref 87, .int (nI p), .int w] σ = some (none, rep σ 88 (poT (σ 88) p w)) := by
  simp only [c140, s140_0, s140_1, s140_2, s140_3, s140_6, s140_7, s140_8, s140_9_o87, s140_12, s140_13, s140_14, s140_17_o87, s140_20, s140_21, s140_22, s140_23, s140_24, s140_25, s140_26, s140_27_o87, s140_30, s140_31, s140_32, s140_35_o87, s140_38, m_tells_3 _ _ hp, m_tells_5 _ _ hp, m_of_5 _ _ hp, m_of_3 _ _ hp, rep_at, rep_rep, ofT_te, true_and, simprocAttr, if_true, if_false, true_and, and_true, false_and, and_false, not_false_eq_true, not_true_eq_false, gd_T, kont_i, kont_v]
  rfl
def moreI (v b : Int32) : Int32 := (jminL 1999999999 (v.toInt64 + b.toInt64)).toInt32
theorem m_more (d : Nat) (v b : Int32) (σ : Hs) : callD (d + 1) 163 [.int v, .int b] σ = some (some (.int (moreI v b)), σ) := by
  simp only [c163, s163_0, s163_3, s163_4, s163_5, s163_6, s163_7, s163_8, s163_11, s163_12, simprocAttr, if_true, if_false, true_and, and_true, false_and, and_false, not_false_eq_true, not_true_eq_false, gd_T, kont_i, kont_v]
  rfl
def waT (T : Nat → Int32) (p : Nat) (by_ : Int32) : Nat → Int32 := teT T p 5 (heldI (ofT T p 5 + by_) 0 9999)
theorem m_warms (d p : Nat) (hp : p < 30) (w : Int32) (σ : Hs) : callD (d + 2) 164 [.ref 87, .int (nI p), .int w] σ = some (none, rep σ 88 (waT (σ 88) p w)) := by
  simp only [c164, s164_0, s164_1, s164_2, s164_3, s164_4, s164_5, s164_6_o87, s164_9, s164_10, s164_11, s164_12, s164_15, s164_18_o87, s164_21, m_tells_5 _ _ hp, m_of_5 _ _ hp, m_held, rep_at, simprocAttr, if_true, if_false, true_and, and_true, false_and, and_false, not_false_eq_true, not_true_eq_false, gd_T, kont_i, kont_v]
  rfl
/-- what the model's numbers must be for its walk -/
def KOK (T : Nat → Int32) : Prop := ∀ p, p < 30 → isT T p → ∃ k, k < 7 ∧ ofT T p 1 = nI k
def MOK (T : Nat → Int32) : Prop := (LWT T 0 ∧ LWT T 1 ∧ LWT T 2) ∧ KOK T ∧ (∃ g, g < 9 ∧ T 8 = nI g) ∧ ∃ w, w < 4 ∧ T 6 = nI w
noncomputable def bOfT (T : Nat → Int32) (p : Nat) : Int32 :=
  let s := ofT T p 2
  let told := heldI (givT T 0 (drT T p) s (ofT T p 3) (ofT T p 5)) 1 s
  let k := ofT T p 1
  if k = 1 then heldI (2 * told) 0 s else if k = 3 then heldI (6 * told) 0 s else if k = 4 then told / 2 else if k = 5 then told / 2 else if k = 6 then 0 else told
theorem m_burnsOf (d p : Nat) (hp : p < 30) (σ : Hs) (hM : LWT (σ 88) 0) : ∃ σ', callD (d + 5) 162 [.ref 87, .int (nI p)] σ = some (some (.int (bOfT (σ 88) p)), σ') ∧ ∀ o, o ≠ 97 → o ≠ 98 → σ' o = σ o := by
  obtain ⟨σ', h1, h2⟩ := m_given_0 (d + 1) (drT (σ 88) p) (ofT (σ 88) p 2) (ofT (σ 88) p 3) (ofT (σ 88) p 5) σ hM
  refine ⟨σ', ?_, h2⟩
  have h88 : σ' 88 = σ 88 := h2 88 (by decide) (by decide)
  simp only [c162, s162_0, s162_1, s162_2, s162_3_o87, s162_6, s162_7, s162_8, s162_9, s162_10, s162_11_o87, s162_14, s162_15, s162_16, s162_17, s162_18_o87, s162_21, s162_22, s162_23, s162_24_o87, s162_27_o87, s162_30, s162_31, s162_32, s162_35, s162_36, s162_37, s162_38, s162_39_o87, s162_42, s162_80, s162_81, s162_82, s162_83, s162_84, s162_85, s162_88, s162_89, s162_91, s162_92, s162_93, s162_94, s162_95, s162_98, s162_99, s162_100, s162_101, s162_102, s162_103, s162_104, s162_105, s162_106, m_of_1 _ _ hp, m_of_2 _ _ hp, m_of_3 _ _ hp, m_of_5 _ _ hp, m_draughtOf _ _ hp, h1, h88, m_held, z2, not_false_eq_true, simprocAttr, if_true, if_false, true_and, and_true, false_and, and_false, not_false_eq_true, not_true_eq_false, gd_T, kont_i, kont_v]
  unfold bOfT
  generalize ofT (σ 88) p 1 = k
  by_cases c1 : k = 1
  · subst c1; simp only [simprocAttr, if_true, if_false, true_and, and_true, false_and, and_false, not_false_eq_true, not_true_eq_false, gd_T, kont_i, kont_v]
  by_cases c2 : k = 2
  · subst c2; simp only [simprocAttr, if_true, if_false, true_and, and_true, false_and, and_false, not_false_eq_true, not_true_eq_false, gd_T, kont_i, kont_v]
  by_cases c3 : k = 3
  · subst c3; simp only [simprocAttr, if_true, if_false, true_and, and_true, false_and, and_false, not_false_eq_true, not_true_eq_false, gd_T, kont_i, kont_v]
  by_cases c4 : k = 4
  · subst c4; simp only [simprocAttr, if_true, if_false, true_and, and_true, false_and, and_false, not_false_eq_true, not_true_eq_false, gd_T, kont_i, kont_v]
  by_cases c5 : k = 5
  · subst c5; simp only [simprocAttr, if_true, if_false, true_and, and_true, false_and, and_false, not_false_eq_true, not_true_eq_false, gd_T, kont_i, kont_v]
  by_cases c6 : k = 6
  · subst c6; simp only [simprocAttr, if_true, if_false, true_and, and_true, false_and, and_false, not_false_eq_true, not_true_eq_false, gd_T, kont_i, kont_v]
  simp only [c1, c2, c3, c4, c5, c6, simprocAttr, if_true, if_false, true_and, and_true, false_and, and_false, not_false_eq_true, not_true_eq_false, gd_T, kont_i, kont_v]
