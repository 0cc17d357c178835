/-! ===== the model: what its heap's methods do ===== -/
theorem m_finding_1 (d : Nat) (σ : Hs) : callD (d + 1) 111 [.ref 87, .int (-1000001)] σ = some (some (.int (-1000001)), rep σ 91 (upd (σ 91) 1 (σ 91 1 + 1))) := by
  simp only [c111, s111_0, s111_1_o87, s111_4, s111_6, s111_7, s111_8, s111_9_o91, s111_10, s111_11, s111_12_o91, s111_13, s111_14, vp_lit, up2_rep, simprocAttr, if_true, if_false, true_and, and_true, false_and, and_false, not_false_eq_true, not_true_eq_false, gd_T, kont_i, kont_v]
theorem m_finding_2 (d : Nat) (σ : Hs) : callD (d + 1) 111 [.ref 87, .int (-1000002)] σ = some (some (.int (-1000002)), rep σ 91 (upd (σ 91) 2 (σ 91 2 + 1))) := by
  simp only [c111, s111_0, s111_1_o87, s111_4, s111_6, s111_7, s111_8, s111_9_o91, s111_10, s111_11, s111_12_o91, s111_13, s111_14, vp_lit, up2_rep, simprocAttr, if_true, if_false, true_and, and_true, false_and, and_false, not_false_eq_true, not_true_eq_false, gd_T, kont_i, kont_v]
theorem m_finding_3 (d : Nat) (σ : Hs) : callD (d + 1) 111 [.ref 87, .int (-1000003)] σ = some (some (.int (-1000003)), rep σ 91 (upd (σ 91) 3 (σ 91 3 + 1))) := by
  simp only [c111, s111_0, s111_1_o87, s111_4, s111_6, s111_7, s111_8, s111_9_o91, s111_10, s111_11, s111_12_o91, s111_13, s111_14, vp_lit, up2_rep, simprocAttr, if_true, if_false, true_and, and_true, false_and, and_false, not_false_eq_true, not_true_eq_false, gd_T, kont_i, kont_v]
theorem m_finding_4 (d : Nat) (σ : Hs) : callD (d + 1) 111 [.ref 87, .int (-1000004)] σ = some (some (.int (-1000004)), rep σ 91 (upd (σ 91) 4 (σ 91 4 + 1))) := by
  simp only [c111, s111_0, s111_1_o87, s111_4, s111_6, s111_7, s111_8, s111_9_o91, s111_10, s111_11, s111_12_o91, s111_13, s111_14, vp_lit, up2_rep, simprocAttr, if_true, if_false, true_and, and_true, false_and, and_false, not_false_eq_true, not_true_eq_false, gd_T, kont_i, kont_v]
theorem m_finding_5 (d : Nat) (σ : Hs) : callD (d + 1) 111 [.ref 87, .int (-1000005)] σ = some (some (.int (-1000005)), rep σ 91 (upd (σ 91) 5 (σ 91 5 + 1))) := by
  simp only [c111, s111_0, s111_1_o87, s111_4, s111_6, s111_7, s111_8, s111_9_o91, s111_10, s111_11, s111_12_o91, s111_13, s111_14, vp_lit, up2_rep, simprocAttr, if_true, if_false, true_and, and_true, false_and, and_false, not_false_eq_true, not_true_eq_false, gd_T, kont_i, kont_v]
theorem m_finding_6 (d : Nat) (σ : Hs) : callD (d + 1) 111 [.ref 87, .int (-1000006)] σ = some (some (.int (-1000006)), rep σ 91 (upd (σ 91) 6 (σ 91 6 + 1))) := by
  simp only [c111, s111_0, s111_1_o87, s111_4, s111_6, s111_7, s111_8, s111_9_o91, s111_10, s111_11, s111_12_o91, s111_13, s111_14, vp_lit, up2_rep, simprocAttr, if_true, if_false, true_and, and_true, false_and, and_false, not_false_eq_true, not_true_eq_false, gd_T, kont_i, kont_v]
abbrev bitI (s k : Int32) : Prop := (s >>> (k &&& 31)) &&& 1 = 1
theorem m_has (d : Nat) (s k : Int32) (σ : Hs) : callD (d + 1) 113 [.int s, .int k] σ = some (some (.int (b2 (bitI s k))), σ) := by
  simp only [c113, s113_0, s113_1, s113_2, s113_3, s113_4, s113_5, s113_6, s113_9, s113_10, s113_13, s113_14, isB_0, isB_1, simprocAttr, if_true, if_false, true_and, and_true, false_and, and_false, not_false_eq_true, not_true_eq_false, gd_T, kont_i, kont_v]
  by_cases h : bitI s k
  · rw [if_pos h, b2_T h]
  · rw [if_neg h, b2_F h]
def heldI (v lo hi : Int32) : Int32 := jmax lo (jmin hi v)
theorem m_held (d : Nat) (v lo hi : Int32) (σ : Hs) : callD (d + 1) 114 [.int v, .int lo, .int hi] σ = some (some (.int (heldI v lo hi)), σ) := by
  simp only [c114, s114_0, s114_1, s114_2, s114_3, s114_6, s114_9, simprocAttr, if_true, if_false, true_and, and_true, false_and, and_false, not_false_eq_true, not_true_eq_false, gd_T, kont_i, kont_v]
  rfl
def cpT (F G : Nat → Int32) (n : Nat) : Nat → Int32 := fun j => if j < n then F j else G j
theorem cpT_0 (F G : Nat → Int32) : cpT F G 0 = G := by funext j; simp [cpT]
theorem cpT_s (F G : Nat → Int32) (n : Nat) : upd (cpT F G n) n (F n) = cpT F G (n + 1) := by
  funext j
  simp only [upd, cpT]
  by_cases h : j = n
  · subst h; simp
  · by_cases h2 : j < n
    · simp [h, h2, show j < n + 1 by omega]
    · simp [h, h2, show ¬ j < n + 1 by omega]
theorem m_copy_l_88_89 (d : Nat) (σ : Hs) : ∀ k n, n + k = 545 → ru d 115 2 [.ref 88, .ref 89, .int (nI n)] [] (rep σ 89 (cpT (σ 88) (σ 89) n)) = some (none, rep σ 89 (cpT (σ 88) (σ 89) 545)) := by
  intro k
  induction k with
  | zero =>
    intro n hn
    have h31 : n < 2147483648 := by omega
    simp only [s115_2]
    simp only [c115, s115_0, s115_1, s115_3, s115_6, s115_9, s115_10, s115_11, s115_12, s115_13_o88, s115_13_o89, s115_13_o90, s115_14_o88, s115_14_o89, s115_14_o90, s115_15, s115_18, s115_21, le_nI_r h31, simprocAttr, if_true, if_false, true_and, and_true, false_and, and_false, not_false_eq_true, not_true_eq_false, gd_T, kont_i, kont_v]
    rw [if_pos (by omega), show n = 545 by omega]
  | succ k ih =>
    intro n hn
    have h31 : n < 2147483648 := by omega
    have h545 : n < 545 := by omega
    have hi := ih (n + 1) (by omega)
    simp only [s115_2]
    simp only [c115, s115_0, s115_1, s115_3, s115_6, s115_9, s115_10, s115_11, s115_12, s115_13_o88, s115_13_o89, s115_13_o90, s115_14_o88, s115_14_o89, s115_14_o90, s115_15, s115_18, s115_21, le_nI_r h31, vp_nI h545, cl_nI h31, up2_rep, rep_rep, rep_at, nI_1, cpT_s, hi, simprocAttr, if_true, if_false, true_and, and_true, false_and, and_false, not_false_eq_true, not_true_eq_false, gd_T, kont_i, kont_v]
    rw [if_neg (by omega)]
theorem m_copy_88_89 (d : Nat) (σ : Hs) : callD (d + 1) 115 [.ref 88, .ref 89] σ = some (none, rep σ 89 (cpT (σ 88) (σ 89) 545)) := by
  have h := m_copy_l_88_89 d σ 545 0 rfl
  rw [cpT_0, rep_same] at h
  simp only [c115, s115_0, s115_1]
  exact h
theorem m_copy_l_88_90 (d : Nat) (σ : Hs) : ∀ k n, n + k = 545 → ru d 115 2 [.ref 88, .ref 90, .int (nI n)] [] (rep σ 90 (cpT (σ 88) (σ 90) n)) = some (none, rep σ 90 (cpT (σ 88) (σ 90) 545)) := by
  intro k
  induction k with
  | zero =>
    intro n hn
    have h31 : n < 2147483648 := by omega
    simp only [s115_2]
    simp only [c115, s115_0, s115_1, s115_3, s115_6, s115_9, s115_10, s115_11, s115_12, s115_13_o88, s115_13_o89, s115_13_o90, s115_14_o88, s115_14_o89, s115_14_o90, s115_15, s115_18, s115_21, le_nI_r h31, simprocAttr, if_true, if_false, true_and, and_true, false_and, and_false, not_false_eq_true, not_true_eq_false, gd_T, kont_i, kont_v]
    rw [if_pos (by omega), show n = 545 by omega]
  | succ k ih =>
    intro n hn
    have h31 : n < 2147483648 := by omega
    have h545 : n < 545 := by omega
    have hi := ih (n + 1) (by omega)
    simp only [s115_2]
    simp only [c115, s115_0, s115_1, s115_3, s115_6, s115_9, s115_10, s115_11, s115_12, s115_13_o88, s115_13_o89, s115_13_o90, s115_14_o88, s115_14_o89, s115_14_o90, s115_15, s115_18, s115_21, le_nI_r h31, vp_nI h545, cl_nI h31, up2_rep, rep_rep, rep_at, nI_1, cpT_s, hi, simprocAttr, if_true, if_false, true_and, and_true, false_and, and_false, not_false_eq_true, not_true_eq_false, gd_T, kont_i, kont_v]
    rw [if_neg (by omega)]
theorem m_copy_88_90 (d : Nat) (σ : Hs) : callD (d + 1) 115 [.ref 88, .ref 90] σ = some (none, rep σ 90 (cpT (σ 88) (σ 90) 545)) := by
  have h := m_copy_l_88_90 d σ 545 0 rfl
  rw [cpT_0, rep_same] at h
  simp only [c115, s115_0, s115_1]
  exact h
theorem m_copy_l_90_88 (d : Nat) (σ : Hs) : ∀ k n, n + k = 545 → ru d 115 2 [.ref 90, .ref 88, .int (nI n)] [] (rep σ 88 (cpT (σ 90) (σ 88) n)) = some (none, rep σ 88 (cpT (σ 90) (σ 88) 545)) := by
  intro k
  induction k with
  | zero =>
    intro n hn
    have h31 : n < 2147483648 := by omega
    simp only [s115_2]
    simp only [c115, s115_0, s115_1, s115_3, s115_6, s115_9, s115_10, s115_11, s115_12, s115_13_o88, s115_13_o89, s115_13_o90, s115_14_o88, s115_14_o89, s115_14_o90, s115_15, s115_18, s115_21, le_nI_r h31, simprocAttr, if_true, if_false, true_and, and_true, false_and, and_false, not_false_eq_true, not_true_eq_false, gd_T, kont_i, kont_v]
    rw [if_pos (by omega), show n = 545 by omega]
  | succ k ih =>
    intro n hn
    have h31 : n < 2147483648 := by omega
    have h545 : n < 545 := by omega
    have hi := ih (n + 1) (by omega)
    simp only [s115_2]
    simp only [c115, s115_0, s115_1, s115_3, s115_6, s115_9, s115_10, s115_11, s115_12, s115_13_o88, s115_13_o89, s115_13_o90, s115_14_o88, s115_14_o89, s115_14_o90, s115_15, s115_18, s115_21, le_nI_r h31, vp_nI h545, cl_nI h31, up2_rep, rep_rep, rep_at, nI_1, cpT_s, hi, simprocAttr, if_true, if_false, true_and, and_true, false_and, and_false, not_false_eq_true, not_true_eq_false, gd_T, kont_i, kont_v]
    rw [if_neg (by omega)]
theorem m_copy_90_88 (d : Nat) (σ : Hs) : callD (d + 1) 115 [.ref 90, .ref 88] σ = some (none, rep σ 88 (cpT (σ 90) (σ 88) 545)) := by
  have h := m_copy_l_90_88 d σ 545 0 rfl
  rw [cpT_0, rep_same] at h
  simp only [c115, s115_0, s115_1]
  exact h
theorem m_copy_l_89_88 (d : Nat) (σ : Hs) : ∀ k n, n + k = 545 → ru d 115 2 [.ref 89, .ref 88, .int (nI n)] [] (rep σ 88 (cpT (σ 89) (σ 88) n)) = some (none, rep σ 88 (cpT (σ 89) (σ 88) 545)) := by
  intro k
  induction k with
  | zero =>
    intro n hn
    have h31 : n < 2147483648 := by omega
    simp only [s115_2]
    simp only [c115, s115_0, s115_1, s115_3, s115_6, s115_9, s115_10, s115_11, s115_12, s115_13_o88, s115_13_o89, s115_13_o90, s115_14_o88, s115_14_o89, s115_14_o90, s115_15, s115_18, s115_21, le_nI_r h31, simprocAttr, if_true, if_false, true_and, and_true, false_and, and_false, not_false_eq_true, not_true_eq_false, gd_T, kont_i, kont_v]
    rw [if_pos (by omega), show n = 545 by omega]
  | succ k ih =>
    intro n hn
    have h31 : n < 2147483648 := by omega
    have h545 : n < 545 := by omega
    have hi := ih (n + 1) (by omega)
    simp only [s115_2]
    simp only [c115, s115_0, s115_1, s115_3, s115_6, s115_9, s115_10, s115_11, s115_12, s115_13_o88, s115_13_o89, s115_13_o90, s115_14_o88, s115_14_o89, s115_14_o90, s115_15, s115_18, s115_21, le_nI_r h31, vp_nI h545, cl_nI h31, up2_rep, rep_rep, rep_at, nI_1, cpT_s, hi, simprocAttr, if_true, if_false, true_and, and_true, false_and, and_false, not_false_eq_true, not_true_eq_false, gd_T, kont_i, kont_v]
    rw [if_neg (by omega)]
theorem m_copy_89_88 (d : Nat) (σ : Hs) : callD (d + 1) 115 [.ref 89, .ref 88] σ = some (none, rep σ 88 (cpT (σ 89) (σ 88) 545)) := by
  have h := m_copy_l_89_88 d σ 545 0 rfl
  rw [cpT_0, rep_same] at h
  simp only [c115, s115_0, s115_1]
  exact h
theorem m_comes (d a : Nat) (ha : a < 545) (v : Int32) (σ : Hs) : callD (d + 1) 116 [.ref 87, .int (nI a), .int v] σ = some (some (.int (σ 88 a)), rep σ 88 (upd (σ 88) a v)) := by
  have h31 : a < 2147483648 := by omega
  simp only [c116, s116_0, s116_1_o87, s116_4, s116_5_o88, s116_6, s116_7, s116_8_o87, s116_11, s116_12, s116_13_o88, s116_14, s116_15, vp_nI ha, cl_nI h31, up2_rep, simprocAttr, if_true, if_false, true_and, and_true, false_and, and_false, not_false_eq_true, not_true_eq_false, gd_T, kont_i, kont_v]
theorem m_back (d : Nat) (v : Int32) (σ : Hs) : callD (d + 2) 117 [.ref 87, .int v] σ = some (some (.int v), rep σ 88 (cpT (σ 90) (σ 88) 545)) := by
  simp only [c117, s117_0, s117_1_o87, s117_4, s117_5_o87, s117_8, s117_11, s117_12, m_copy_90_88, simprocAttr, if_true, if_false, true_and, and_true, false_and, and_false, not_false_eq_true, not_true_eq_false, gd_T, kont_i, kont_v]
abbrev told4 (k c s w : Int32) : Prop := (0 ≤ k ∧ k ≤ 6) ∧ (0 ≤ c ∧ c ≤ 5) ∧ (1 ≤ s ∧ s ≤ 999) ∧ (0 ≤ w ∧ w ≤ 999)
theorem m_isAsTold (d : Nat) (k c s w : Int32) (σ : Hs) : callD (d + 2) 124 [.ref 87, .int k, .int c, .int s, .int w] σ = some (some (.int (b2 (told4 k c s w))), σ) := by
  simp only [c124, s124_0, s124_1, s124_2, s124_4, s124_7, s124_10, s124_11, s124_12, s124_13, s124_16, s124_19, s124_20, s124_21, s124_24, s124_27, s124_30, s124_32, s124_33, s124_36, s124_39, s124_42, s124_43, s124_46, s124_47, m_within, b2_0, isB_0, isB_1, simprocAttr, if_true, if_false, true_and, and_true, false_and, and_false, not_false_eq_true, not_true_eq_false, gd_T, kont_i, kont_v]
  by_cases h1 : 0 ≤ k ∧ k ≤ 6
  · rw [if_neg (fun q => q h1)]
    by_cases h2 : 0 ≤ c ∧ c ≤ 5
    · rw [if_neg (fun q => q h2)]
      by_cases h3 : 1 ≤ s ∧ s ≤ 999
      · rw [if_neg (fun q => q h3)]
        by_cases h4 : 0 ≤ w ∧ w ≤ 999
        · rw [if_neg (fun q => q h4), b2_T ⟨h1, h2, h3, h4⟩]
        · rw [if_pos h4, b2_F (fun q => h4 q.2.2.2)]
      · rw [if_pos h3, b2_F (fun q => h3 q.2.2.1)]
    · rw [if_pos h2, b2_F (fun q => h2 q.2.1)]
  · rw [if_pos h1, b2_F (fun q => h1 q.1)]
def setT (T : Nat → Int32) (p : Nat) (k s w l wa li : Int32) : Nat → Int32 := teT (teT (teT (teT (teT (teT (teT T p 0 1) p 1 k) p 2 s) p 3 w) p 4 l) p 5 wa) p 6 li
theorem hiF_le (T : Nat → Int32) (c : Nat) : ∀ k n, hiF T c k n ≤ n + k := by
  intro k
  induction k with
  | zero => intro n; exact Nat.le_refl _
  | succ k ih =>
    intro n
    rw [hiF]
    split
    · have := ih (n + 1); omega
    · omega
theorem hiT_le (T : Nat → Int32) (c : Nat) : hiT T c ≤ 5 := hiF_le T c 5 0
theorem m_lays (d c : Nat) (hc : c < 6) (k s w : Int32) (σ : Hs) (hh : hiT (σ 88) c < 5) : callD (d + 4) 125 [.ref 87, .int k, .int (nI c), .int s, .int w] σ = some (some (.int (nI (6 * hiT (σ 88) c + c))), rep σ 88 (setT (σ 88) (6 * hiT (σ 88) c + c) k s w 3 0 0)) := by
  have h6 : 6 * hiT (σ 88) c + c < 30 := by omega
  simp only [c125, s125_0, s125_2, s125_3, s125_4_o87, s125_7, s125_8, s125_9, s125_10, s125_12, s125_13, s125_15, s125_16, s125_17_o87, s125_20, s125_21, s125_23, s125_24, s125_25_o87, s125_28, s125_29, s125_31, s125_32, s125_33_o87, s125_36, s125_37, s125_39, s125_40, s125_42_o87, s125_45, s125_46, s125_48, s125_49, s125_50_o87, s125_53, s125_54, s125_56, s125_57, s125_58_o87, s125_61, s125_62, s125_64, s125_66, s125_67_o87, s125_70, s125_72, m_highOf _ _ hc, idx6, m_tells_0 _ _ h6, m_tells_1 _ _ h6, m_tells_2 _ _ h6, m_tells_3 _ _ h6, m_tells_4 _ _ h6, m_tells_5 _ _ h6, m_tells_6 _ _ h6, rep_rep, rep_at, simprocAttr, if_true, if_false, true_and, and_true, false_and, and_false, not_false_eq_true, not_true_eq_false, gd_T, kont_i, kont_v]
  rfl
/-- what goes: those above come one down -/
def goF (T : Nat → Int32) (p k : Nat) : Nat → Int32 := fun a => if 14 + 7 * p ≤ a ∧ a < 14 + 7 * p + k then (if p + 6 < 30 then T (a + 42) else 0) else T a
def goL (T : Nat → Int32) : Nat → Nat → Nat → Int32
  | 0, _ => T
  | n + 1, p => if p < 30 then goL (goF T p 7) n (p + 6) else T
def goT (T : Nat → Int32) (p : Nat) : Nat → Int32 := goL T 5 p
theorem goF_s (T : Nat → Int32) (p k : Nat) (hk : k < 7) : teT (goF T p k) p k (if p + 6 < 30 then ofT (goF T p k) (p + 6) k else 0) = goF T p (k + 1) := by
  funext a
  simp only [teT, upd, goF, ofT]
  by_cases h : a = 14 + 7 * p + k
  · subst h
    have c1 : 14 + 7 * p ≤ 14 + 7 * p + k ∧ 14 + 7 * p + k < 14 + 7 * p + (k + 1) := by omega
    have c2 : ¬ (14 + 7 * p ≤ 14 + 7 * (p + 6) + k ∧ 14 + 7 * (p + 6) + k < 14 + 7 * p + k) := by omega
    have c3 : 14 + 7 * (p + 6) + k = 14 + 7 * p + k + 42 := by omega
    rw [if_pos rfl, if_neg c2, if_pos c1, c3]
  · rw [if_neg h]
    by_cases h2 : 14 + 7 * p ≤ a ∧ a < 14 + 7 * p + k
    · rw [if_pos h2, if_pos (show 14 + 7 * p ≤ a ∧ a < 14 + 7 * p + (k + 1) by omega)]
    · rw [if_neg h2, if_neg (show ¬ (14 + 7 * p ≤ a ∧ a < 14 + 7 * p + (k + 1)) by omega)]
theorem goF_0 (T : Nat → Int32) (p : Nat) : goF T p 0 = T := by
  funext a
  simp only [goF]
  rw [if_neg (by omega)]
theorem m_goes_i (d p : Nat) (hp : p < 30) (x1 : Int32) (T : Nat → Int32) (σ : Hs) : ∀ j k, k + j = 7 → ru (d + 2) 127 10 [.ref 87, .int x1, .int (nI p), .int (nI k)] [] (rep σ 88 (goF T p k)) = ru (d + 2) 127 2 [.ref 87, .int x1, .int (nI (p + 6)), .int (nI 7)] [] (rep σ 88 (goF T p 7)) := by
  intro j
  induction j with
  | zero =>
    intro k hk
    have h31 : k < 2147483648 := by omega
    have e6 : nI p + 6 = nI (p + 6) := nI_add p 6
    simp only [s127_10]
    simp only [c127, s127_0, s127_1, s127_3, s127_5, s127_8, s127_9, s127_11, s127_13, s127_16, s127_17, s127_18, s127_19, s127_20, s127_22, s127_23, s127_25, s127_28, s127_29, s127_30, s127_32, s127_33, s127_34_o87, s127_37, s127_40, s127_41_o87, s127_44, s127_47, s127_50, s127_53, s127_56, le_nI_r h31, e6, simprocAttr, if_true, if_false, true_and, and_true, false_and, and_false, not_false_eq_true, not_true_eq_false, gd_T, kont_i, kont_v]
    rw [if_pos (by omega), show k = 7 by omega]
  | succ j ih =>
    intro k hk
    have h31 : k < 2147483648 := by omega
    have h7 : k < 7 := by omega
    have h30 : p + 6 < 2147483648 := by omega
    have e6 : nI p + 6 = nI (p + 6) := nI_add p 6
    have hi := ih (k + 1) (by omega)
    have hs := goF_s T p k h7
    simp only [s127_10]
    simp only [c127, s127_0, s127_1, s127_3, s127_5, s127_8, s127_9, s127_11, s127_13, s127_16, s127_17, s127_18, s127_19, s127_20, s127_22, s127_23, s127_25, s127_28, s127_29, s127_30, s127_32, s127_33, s127_34_o87, s127_37, s127_40, s127_41_o87, s127_44, s127_47, s127_50, s127_53, s127_56, le_nI_r h31, le_nI_r h30, e6, m_tells_n _ _ _ hp h7, nI_1, rep_rep, rep_at, simprocAttr, if_true, if_false, true_and, and_true, false_and, and_false, not_false_eq_true, not_true_eq_false, gd_T, kont_i, kont_v]
    rw [if_neg (by omega)]
    by_cases h6 : p + 6 < 30
    · rw [if_pos h6] at hs
      rw [if_neg (by omega)]
      simp only [m_of_n _ _ _ h6 h7, c127, s127_0, s127_1, s127_3, s127_5, s127_8, s127_9, s127_11, s127_13, s127_16, s127_17, s127_18, s127_19, s127_20, s127_22, s127_23, s127_25, s127_28, s127_29, s127_30, s127_32, s127_33, s127_34_o87, s127_37, s127_40, s127_41_o87, s127_44, s127_47, s127_50, s127_53, s127_56, m_tells_n _ _ _ hp h7, nI_1, rep_rep, rep_at, hs, hi, simprocAttr, if_true, if_false, true_and, and_true, false_and, and_false, not_false_eq_true, not_true_eq_false, gd_T, kont_i, kont_v]
    · rw [if_neg h6] at hs
      rw [if_pos (by omega), hs, hi]
theorem m_goes_l (d : Nat) (x1 : Int32) (σ : Hs) : ∀ n p (l3 : Value) (T : Nat → Int32), p < 36 → 30 ≤ p + 6 * n → ru (d + 2) 127 2 [.ref 87, .int x1, .int (nI p), l3] [] (rep σ 88 T) = some (none, rep σ 88 (goL T n p)) := by
  intro n
  induction n with
  | zero =>
    intro p l3 T hp hn
    have h31 : p < 2147483648 := by omega
    simp only [s127_2, s127_3, s127_5, s127_8, s127_9, s127_50, s127_53, s127_56, le_nI_r h31, simprocAttr, if_true, if_false, true_and, and_true, false_and, and_false, not_false_eq_true, not_true_eq_false, gd_T, kont_i, kont_v]
    rw [if_pos (by omega)]
    rfl
  | succ n ih =>
    intro p l3 T hp hn
    have h31 : p < 2147483648 := by omega
    rw [goL]
    by_cases h30 : p < 30
    · rw [if_pos h30]
      have hi := m_goes_i d p h30 x1 T σ 7 0 rfl
      rw [goF_0] at hi
      simp only [s127_2, s127_3, s127_5, s127_8, s127_9, le_nI_r h31, simprocAttr, if_true, if_false, true_and, and_true, false_and, and_false, not_false_eq_true, not_true_eq_false, gd_T, kont_i, kont_v]
      rw [if_neg (by omega)]
      exact hi.trans (ih (p + 6) _ _ (by omega) (by omega))
    · rw [if_neg h30]
      simp only [s127_2, s127_3, s127_5, s127_8, s127_9, s127_50, s127_53, s127_56, le_nI_r h31, simprocAttr, if_true, if_false, true_and, and_true, false_and, and_false, not_false_eq_true, not_true_eq_false, gd_T, kont_i, kont_v]
      rw [if_pos (by omega)]
theorem m_goes (d p : Nat) (hp : p < 30) (σ : Hs) : callD (d + 3) 127 [.ref 87, .int (nI p)] σ = some (none, rep σ 88 (goT (σ 88) p)) := by
  have h := m_goes_l d (nI p) σ 5 p uu (σ 88) (by omega) (by omega)
  rw [rep_same] at h
  simp only [c127, s127_0, s127_1]
  exact h
/-- beside a place -/
def besN (p s : Nat) : Option Nat := if s = 0 then (if 0 < p % 6 then some (p - 1) else none) else if s = 1 then (if p % 6 < 5 then some (p + 1) else none) else if s = 2 then (if p + 6 < 30 then some (p + 6) else none) else if 6 ≤ p then some (p - 6) else none
def besI (p s : Nat) : Int32 := match besN p s with
  | some x => nI x
  | none => if s = 3 then -2 else -1
theorem besN_lt {p s x : Nat} (hp : p < 30) (h : besN p s = some x) : x < 30 := by
  unfold besN at h
  split at h
  · split at h <;> cases h; omega
  · split at h
    · split at h <;> cases h; omega
    · split at h
      · split at h <;> cases h; omega
      · split at h <;> cases h; omega
theorem rem6 {p : Nat} (hp : p < 2147483648) : nI p - nI p / 6 * 6 = nI (p % 6) := pk_rem (d := 6) hp (by decide) (by decide)
theorem m_beside (d p s : Nat) (hp : p < 30) (hs : s < 4) (σ : Hs) : callD (d + 1) 129 [.int (nI p), .int (nI s)] σ = some (some (.int (besI p s)), σ) := by
  have h31 : p < 2147483648 := by omega
  have hm : p % 6 < 2147483648 := by omega
  have h36 : p + 6 < 2147483648 := by omega
  have e6 : nI p + 6 = nI (p + 6) := nI_add p 6
  unfold besI besN
  have hs' : s = 0 ∨ s = 1 ∨ s = 2 ∨ s = 3 := by omega
  rcases hs' with rfl | rfl | rfl | rfl
  · simp only [c129, s129_0, s129_1, s129_28, s129_29, s129_31, s129_32, s129_35, s129_36, s129_37, s129_38, s129_41, s129_42, s129_43, s129_44, s129_46, s129_47, s129_48, s129_51, s129_52, s129_53, s129_54, s129_57, s129_58, s129_59, s129_60, s129_62, s129_63, s129_65, s129_68, s129_69, s129_71, s129_72, s129_75, s129_76, s129_77, s129_78, s129_80, s129_83, s129_84, s129_86, s129_87, s129_90, s129_92, z6, rem6 h31, le_nI_l hm, show nI 0 = 0 from rfl, not_false_eq_true, simprocAttr, if_true, if_false, true_and, and_true, false_and, and_false, not_false_eq_true, not_true_eq_false, gd_T, kont_i, kont_v]
    by_cases h : 0 < p % 6
    · rw [if_neg (by omega), if_pos h]
      simp only [show (1 : Int32) = nI 1 from rfl, pk_sub (show 1 ≤ p by omega)]
    · rw [if_pos (by omega), if_neg h]
  · simp only [c129, s129_0, s129_1, s129_28, s129_29, s129_31, s129_32, s129_35, s129_36, s129_37, s129_38, s129_41, s129_42, s129_43, s129_44, s129_46, s129_47, s129_48, s129_51, s129_52, s129_53, s129_54, s129_57, s129_58, s129_59, s129_60, s129_62, s129_63, s129_65, s129_68, s129_69, s129_71, s129_72, s129_75, s129_76, s129_77, s129_78, s129_80, s129_83, s129_84, s129_86, s129_87, s129_90, s129_92, z6, rem6 h31, le_nI_r hm, show nI 1 = 1 from rfl, not_false_eq_true, simprocAttr, if_true, if_false, true_and, and_true, false_and, and_false, not_false_eq_true, not_true_eq_false, gd_T, kont_i, kont_v]
    by_cases h : p % 6 < 5
    · rw [if_neg (by omega), if_pos h]
      simp only [nI_1]
    · rw [if_pos (by omega), if_neg h]
  · simp only [c129, s129_0, s129_1, s129_28, s129_29, s129_31, s129_32, s129_35, s129_36, s129_37, s129_38, s129_41, s129_42, s129_43, s129_44, s129_46, s129_47, s129_48, s129_51, s129_52, s129_53, s129_54, s129_57, s129_58, s129_59, s129_60, s129_62, s129_63, s129_65, s129_68, s129_69, s129_71, s129_72, s129_75, s129_76, s129_77, s129_78, s129_80, s129_83, s129_84, s129_86, s129_87, s129_90, s129_92, e6, le_nI_r h36, show nI 2 = 2 from rfl, simprocAttr, if_true, if_false, true_and, and_true, false_and, and_false, not_false_eq_true, not_true_eq_false, gd_T, kont_i, kont_v]
    by_cases h : p + 6 < 30
    · rw [if_neg (by omega), if_pos h]
    · rw [if_pos (by omega), if_neg h]
  · simp only [c129, s129_0, s129_1, s129_28, s129_29, s129_31, s129_32, s129_35, s129_36, s129_37, s129_38, s129_41, s129_42, s129_43, s129_44, s129_46, s129_47, s129_48, s129_51, s129_52, s129_53, s129_54, s129_57, s129_58, s129_59, s129_60, s129_62, s129_63, s129_65, s129_68, s129_69, s129_71, s129_72, s129_75, s129_76, s129_77, s129_78, s129_80, s129_83, s129_84, s129_86, s129_87, s129_90, s129_92, lt_nI_l h31, show nI 3 = 3 from rfl, simprocAttr, if_true, if_false, true_and, and_true, false_and, and_false, not_false_eq_true, not_true_eq_false, gd_T, kont_i, kont_v]
    by_cases h : 6 ≤ p
    · rw [if_neg (by omega), if_pos h]
      simp only [show (6 : Int32) = nI 6 from rfl, pk_sub h]
    · rw [if_pos (by omega), if_neg h]
