/-! ===== the class: a heap against the model's row ===== -/
def HR (b : Nat) (σ : Hs) (T : Nat → Int32) : Prop :=
  (∀ p, p < 30 → isT T p → ∀ f, 1 ≤ f → f ≤ 6 → σ (b + f) p = ofT T p f) ∧ (∀ p, p < 30 → ¬ isT T p → σ (b + 2) p = 0) ∧ (∀ k, k < 5 → σ (b + 7) k = T (4 + k)) ∧ (∀ g, g < 9 → σ (b + 8) g = T (226 + 3 * g) ∧ σ (b + 9) g = T (224 + 3 * g) ∧ σ (b + 10) g = T (225 + 3 * g)) ∧ σ b 10 = T 10 ∧ σ b 11 = T 11 ∧ σ b 12 = T 12 ∧ σ b 13 = T 0
/-- what lies has stuff -/
def HP (T : Nat → Int32) : Prop := ∀ p, p < 30 → isT T p → 0 < ofT T p 2
def HB (T : Nat → Int32) : Prop := ∀ p, p < 30 → isT T p → ofT T p 6 = 0 ∨ ofT T p 6 = 1
theorem HR.f {b : Nat} {σ : Hs} {T : Nat → Int32} (h : HR b σ T) {p : Nat} (hp : p < 30) (hi : isT T p) (f : Nat) (h1 : 1 ≤ f) (h6 : f ≤ 6) : σ (b + f) p = ofT T p f := h.1 p hp hi f h1 h6
theorem HR.le {b : Nat} {σ : Hs} {T : Nat → Int32} (h : HR b σ T) (hP : HP T) {p : Nat} (hp : p < 30) : (σ (b + 2) p ≤ 0) = ¬ isT T p := by
  by_cases hi : isT T p
  · rw [h.f hp hi 2 (by omega) (by omega)]
    exact propext ⟨fun c => absurd (hP p hp hi) (Int32.not_lt.mpr c), fun c => absurd hi c⟩
  · rw [h.2.1 p hp hi]
    exact propext ⟨fun _ => hi, fun _ => by decide⟩
theorem HR.z {b : Nat} {σ : Hs} {T : Nat → Int32} (h : HR b σ T) (hP : HP T) {p : Nat} (hp : p < 30) : (σ (b + 2) p = 0) = ¬ isT T p := by
  by_cases hi : isT T p
  · rw [h.f hp hi 2 (by omega) (by omega)]
    exact propext ⟨fun c => absurd (hP p hp hi) (by rw [c]; decide), fun c => absurd hi c⟩
  · rw [h.2.1 p hp hi]
    exact propext ⟨fun _ => hi, fun _ => rfl⟩
theorem h2_has (d p : Nat) (hp : p < 30) (σ : Hs) (T : Nat → Int32) (h : HR 2 σ T) (hP : HP T) : callD (d + 1) 1 [.ref 2, .int (nI p)] σ = some (some (.int (b2 (isT T p))), σ) := by
  have p31 : p < 2147483648 := by omega
  have e : (σ 4 p ≤ 0) = ¬ isT T p := h.le hP hp
  simp only [c1, s1_0, s1_1_o2, s1_1_o59, s1_4, s1_5_o4, s1_5_o61, s1_6, s1_9, s1_10, s1_13, s1_14, vp_nI hp, cl_nI p31, e, isB_0, isB_1, simprocAttr, if_true, if_false, true_and, and_true, false_and, and_false, not_false_eq_true, not_true_eq_false, gd_T, kont_i, kont_v]
  by_cases hi : isT T p
  · rw [if_neg (fun q => q hi), b2_T hi]
  · rw [if_pos hi, b2_F hi]
theorem h2_hourNow (d : Nat) (σ : Hs) (T : Nat → Int32) (h : HR 2 σ T) : callD (d + 1) 5 [.ref 2] σ = some (some (.int (T 4 / 60)), σ) := by
  have e : σ 9 0 = T 4 := h.2.2.1 0 (by omega)
  simp only [c5, s5_0, s5_1_o2, s5_1_o59, s5_4, s5_5_o9, s5_5_o66, s5_6, s5_8, s5_9, vp_lit, z60, e, not_false_eq_true, simprocAttr, if_true, if_false, true_and, and_true, false_and, and_false, not_false_eq_true, not_true_eq_false, gd_T, kont_i, kont_v]
theorem h2_heightOf_l (d c : Nat) (hc : c < 6) (σ : Hs) (T : Nat → Int32) (h : HR 2 σ T) (hP : HP T) : ∀ k n, n + k = 5 → ru (d + 1) 4 4 [.ref 2, .int (nI c), .int (nI n), .int (nI (6 * n + c))] [] σ = some (some (.int (nI (hiF T c k n))), σ) := by
  intro k
  induction k with
  | zero =>
    intro n hn
    have h31 : 6 * n + c < 2147483648 := by omega
    simp only [s4_4]
    simp only [c4, s4_0, s4_1, s4_2, s4_3, s4_5, s4_7, s4_10, s4_11_o2, s4_11_o59, s4_14, s4_15_o4, s4_15_o61, s4_16, s4_19, s4_22, s4_25, s4_28, s4_29, le_nI_r h31, simprocAttr, if_true, if_false, true_and, and_true, false_and, and_false, not_false_eq_true, not_true_eq_false, gd_T, kont_i, kont_v]
    rw [if_pos (by omega)]
    rfl
  | succ k ih =>
    intro n hn
    have h31 : 6 * n + c < 2147483648 := by omega
    have h30 : 6 * n + c < 30 := by omega
    have e : (σ 4 (6 * n + c) ≤ 0) = ¬ isT T (6 * n + c) := h.le hP h30
    have hi := ih (n + 1) (by omega)
    rw [hiF]
    have e6 : nI (6 * n + c) + 6 = nI (6 * (n + 1) + c) := by rw [show (6 : Int32) = nI 6 from rfl, nI_add]; congr 1; omega
    simp only [s4_4]
    simp only [c4, s4_0, s4_1, s4_2, s4_3, s4_5, s4_7, s4_10, s4_11_o2, s4_11_o59, s4_14, s4_15_o4, s4_15_o61, s4_16, s4_19, s4_22, s4_25, s4_28, s4_29, le_nI_r h31, vp_nI h30, cl_nI h31, e, nI_1, e6, hi, simprocAttr, if_true, if_false, true_and, and_true, false_and, and_false, not_false_eq_true, not_true_eq_false, gd_T, kont_i, kont_v]
    rw [if_neg (by omega)]
    by_cases hh : isT T (6 * n + c)
    · rw [if_neg (fun q => q hh), if_pos hh]
    · rw [if_pos hh, if_neg hh]
theorem h2_heightOf (d c : Nat) (hc : c < 6) (σ : Hs) (T : Nat → Int32) (h : HR 2 σ T) (hP : HP T) : callD (d + 2) 4 [.ref 2, .int (nI c)] σ = some (some (.int (nI (hiT T c))), σ) := by
  have hl := h2_heightOf_l d c hc σ T h hP 5 0 rfl
  simp only [s4_0, s4_1, s4_2, s4_3, c4]
  rw [show 6 * 0 + c = c by omega] at hl
  exact hl
theorem h2_howManyLit_l (d : Nat) (σ : Hs) (T : Nat → Int32) (h : HR 2 σ T) (hP : HP T) (hB : HB T) : ∀ k n, n + k = 30 → ru (d + 1) 7 4 [.ref 2, .int (sumU T 6 n), .int (nI n)] [] σ = some (some (.int (sumU T 6 30)), σ) := by
  intro k
  induction k with
  | zero =>
    intro n hn
    have h31 : n < 2147483648 := by omega
    simp only [s7_4]
    simp only [c7, s7_0, s7_1, s7_2, s7_3, s7_5, s7_7, s7_10, s7_11_o2, s7_11_o59, s7_14, s7_15_o4, s7_15_o61, s7_16, s7_19, s7_20_o2, s7_20_o59, s7_23, s7_24_o8, s7_24_o65, s7_25, s7_28, s7_31, s7_34, s7_37, s7_38, le_nI_r h31, simprocAttr, if_true, if_false, true_and, and_true, false_and, and_false, not_false_eq_true, not_true_eq_false, gd_T, kont_i, kont_v]
    rw [if_pos (by omega), show n = 30 by omega]
  | succ k ih =>
    intro n hn
    have h31 : n < 2147483648 := by omega
    have h30 : n < 30 := by omega
    have e : (σ 4 n ≤ 0) = ¬ isT T n := h.le hP h30
    have hi := ih (n + 1) (by omega)
    rw [sumU] at hi
    simp only [s7_4]
    simp only [c7, s7_0, s7_1, s7_2, s7_3, s7_5, s7_7, s7_10, s7_11_o2, s7_11_o59, s7_14, s7_15_o4, s7_15_o61, s7_16, s7_19, s7_20_o2, s7_20_o59, s7_23, s7_24_o8, s7_24_o65, s7_25, s7_28, s7_31, s7_34, s7_37, s7_38, le_nI_r h31, vp_nI h30, cl_nI h31, e, nI_1, simprocAttr, if_true, if_false, true_and, and_true, false_and, and_false, not_false_eq_true, not_true_eq_false, gd_T, kont_i, kont_v]
    rw [if_neg (by omega)]
    by_cases hh : isT T n
    · have h6 : σ 8 n = ofT T n 6 := h.f h30 hh 6 (by omega) (by omega)
      rw [if_pos hh] at hi
      rw [if_neg (fun q => q hh), h6]
      rcases hB n h30 hh with c | c
      · rw [c, Int32.add_zero] at hi
        rw [c, if_pos rfl, hi]
      · rw [c] at hi
        rw [c, if_neg (by decide), hi]
    · rw [if_neg hh, Int32.add_zero] at hi
      rw [if_pos hh, hi]
theorem h2_howManyLit (d : Nat) (σ : Hs) (T : Nat → Int32) (h : HR 2 σ T) (hP : HP T) (hB : HB T) : callD (d + 2) 7 [.ref 2] σ = some (some (.int (sumU T 6 30)), σ) := by
  have hl := h2_howManyLit_l d σ T h hP hB 30 0 rfl
  simp only [s7_0, s7_1, s7_2, s7_3, c7]
  exact hl
theorem h2_sumOf_l2 (d : Nat) (σ : Hs) (T : Nat → Int32) (h : HR 2 σ T) (hP : HP T) : ∀ k n, n + k = 30 → ru (d + 1) 28 4 [.ref 2, .ref 4, .int (sumU T 2 n), .int (nI n)] [] σ = some (some (.int (sumU T 2 30)), σ) := by
  intro k
  induction k with
  | zero =>
    intro n hn
    have h31 : n < 2147483648 := by omega
    simp only [s28_4]
    simp only [c28, s28_0, s28_1, s28_2, s28_3, s28_5, s28_7, s28_10, s28_11_o2, s28_11_o59, s28_14, s28_15_o4, s28_15_o61, s28_16, s28_19, s28_20, s28_21, s28_22_o4, s28_22_o5, s28_22_o7, s28_22_o61, s28_22_o62, s28_22_o64, s28_23, s28_24, s28_25, s28_28, s28_31, s28_32, le_nI_r h31, simprocAttr, if_true, if_false, true_and, and_true, false_and, and_false, not_false_eq_true, not_true_eq_false, gd_T, kont_i, kont_v]
    rw [if_pos (by omega), show n = 30 by omega]
  | succ k ih =>
    intro n hn
    have h31 : n < 2147483648 := by omega
    have h30 : n < 30 := by omega
    have e : (σ 4 n ≤ 0) = ¬ isT T n := h.le hP h30
    have hi := ih (n + 1) (by omega)
    rw [sumU] at hi
    simp only [s28_4]
    simp only [c28, s28_0, s28_1, s28_2, s28_3, s28_5, s28_7, s28_10, s28_11_o2, s28_11_o59, s28_14, s28_15_o4, s28_15_o61, s28_16, s28_19, s28_20, s28_21, s28_22_o4, s28_22_o5, s28_22_o7, s28_22_o61, s28_22_o62, s28_22_o64, s28_23, s28_24, s28_25, s28_28, s28_31, s28_32, le_nI_r h31, vp_nI h30, cl_nI h31, e, nI_1, simprocAttr, if_true, if_false, true_and, and_true, false_and, and_false, not_false_eq_true, not_true_eq_false, gd_T, kont_i, kont_v]
    rw [if_neg (by omega)]
    by_cases hh : isT T n
    · have h6 : σ 4 n = ofT T n 2 := h.f h30 hh 2 (by omega) (by omega)
      rw [if_pos hh] at hi
      rw [if_neg (fun q => q hh), h6, hi]
    · rw [if_neg hh, Int32.add_zero] at hi
      rw [if_pos hh, hi]
theorem h2_sumOf2 (d : Nat) (σ : Hs) (T : Nat → Int32) (h : HR 2 σ T) (hP : HP T) : callD (d + 2) 28 [.ref 2, .ref 4] σ = some (some (.int (sumU T 2 30)), σ) := by
  have hl := h2_sumOf_l2 d σ T h hP 30 0 rfl
  simp only [s28_0, s28_1, s28_2, s28_3, c28]
  exact hl
theorem h2_sumOf_l3 (d : Nat) (σ : Hs) (T : Nat → Int32) (h : HR 2 σ T) (hP : HP T) : ∀ k n, n + k = 30 → ru (d + 1) 28 4 [.ref 2, .ref 5, .int (sumU T 3 n), .int (nI n)] [] σ = some (some (.int (sumU T 3 30)), σ) := by
  intro k
  induction k with
  | zero =>
    intro n hn
    have h31 : n < 2147483648 := by omega
    simp only [s28_4]
    simp only [c28, s28_0, s28_1, s28_2, s28_3, s28_5, s28_7, s28_10, s28_11_o2, s28_11_o59, s28_14, s28_15_o4, s28_15_o61, s28_16, s28_19, s28_20, s28_21, s28_22_o4, s28_22_o5, s28_22_o7, s28_22_o61, s28_22_o62, s28_22_o64, s28_23, s28_24, s28_25, s28_28, s28_31, s28_32, le_nI_r h31, simprocAttr, if_true, if_false, true_and, and_true, false_and, and_false, not_false_eq_true, not_true_eq_false, gd_T, kont_i, kont_v]
    rw [if_pos (by omega), show n = 30 by omega]
  | succ k ih =>
    intro n hn
    have h31 : n < 2147483648 := by omega
    have h30 : n < 30 := by omega
    have e : (σ 4 n ≤ 0) = ¬ isT T n := h.le hP h30
    have hi := ih (n + 1) (by omega)
    rw [sumU] at hi
    simp only [s28_4]
    simp only [c28, s28_0, s28_1, s28_2, s28_3, s28_5, s28_7, s28_10, s28_11_o2, s28_11_o59, s28_14, s28_15_o4, s28_15_o61, s28_16, s28_19, s28_20, s28_21, s28_22_o4, s28_22_o5, s28_22_o7, s28_22_o61, s28_22_o62, s28_22_o64, s28_23, s28_24, s28_25, s28_28, s28_31, s28_32, le_nI_r h31, vp_nI h30, cl_nI h31, e, nI_1, simprocAttr, if_true, if_false, true_and, and_true, false_and, and_false, not_false_eq_true, not_true_eq_false, gd_T, kont_i, kont_v]
    rw [if_neg (by omega)]
    by_cases hh : isT T n
    · have h6 : σ 5 n = ofT T n 3 := h.f h30 hh 3 (by omega) (by omega)
      rw [if_pos hh] at hi
      rw [if_neg (fun q => q hh), h6, hi]
    · rw [if_neg hh, Int32.add_zero] at hi
      rw [if_pos hh, hi]
theorem h2_sumOf3 (d : Nat) (σ : Hs) (T : Nat → Int32) (h : HR 2 σ T) (hP : HP T) : callD (d + 2) 28 [.ref 2, .ref 5] σ = some (some (.int (sumU T 3 30)), σ) := by
  have hl := h2_sumOf_l3 d σ T h hP 30 0 rfl
  simp only [s28_0, s28_1, s28_2, s28_3, c28]
  exact hl
theorem h2_sumOf_l5 (d : Nat) (σ : Hs) (T : Nat → Int32) (h : HR 2 σ T) (hP : HP T) : ∀ k n, n + k = 30 → ru (d + 1) 28 4 [.ref 2, .ref 7, .int (sumU T 5 n), .int (nI n)] [] σ = some (some (.int (sumU T 5 30)), σ) := by
  intro k
  induction k with
  | zero =>
    intro n hn
    have h31 : n < 2147483648 := by omega
    simp only [s28_4]
    simp only [c28, s28_0, s28_1, s28_2, s28_3, s28_5, s28_7, s28_10, s28_11_o2, s28_11_o59, s28_14, s28_15_o4, s28_15_o61, s28_16, s28_19, s28_20, s28_21, s28_22_o4, s28_22_o5, s28_22_o7, s28_22_o61, s28_22_o62, s28_22_o64, s28_23, s28_24, s28_25, s28_28, s28_31, s28_32, le_nI_r h31, simprocAttr, if_true, if_false, true_and, and_true, false_and, and_false, not_false_eq_true, not_true_eq_false, gd_T, kont_i, kont_v]
    rw [if_pos (by omega), show n = 30 by omega]
  | succ k ih =>
    intro n hn
    have h31 : n < 2147483648 := by omega
    have h30 : n < 30 := by omega
    have e : (σ 4 n ≤ 0) = ¬ isT T n := h.le hP h30
    have hi := ih (n + 1) (by omega)
    rw [sumU] at hi
    simp only [s28_4]
    simp only [c28, s28_0, s28_1, s28_2, s28_3, s28_5, s28_7, s28_10, s28_11_o2, s28_11_o59, s28_14, s28_15_o4, s28_15_o61, s28_16, s28_19, s28_20, s28_21, s28_22_o4, s28_22_o5, s28_22_o7, s28_22_o61, s28_22_o62, s28_22_o64, s28_23, s28_24, s28_25, s28_28, s28_31, s28_32, le_nI_r h31, vp_nI h30, cl_nI h31, e, nI_1, simprocAttr, if_true, if_false, true_and, and_true, false_and, and_false, not_false_eq_true, not_true_eq_false, gd_T, kont_i, kont_v]
    rw [if_neg (by omega)]
    by_cases hh : isT T n
    · have h6 : σ 7 n = ofT T n 5 := h.f h30 hh 5 (by omega) (by omega)
      rw [if_pos hh] at hi
      rw [if_neg (fun q => q hh), h6, hi]
    · rw [if_neg hh, Int32.add_zero] at hi
      rw [if_pos hh, hi]
theorem h2_sumOf5 (d : Nat) (σ : Hs) (T : Nat → Int32) (h : HR 2 σ T) (hP : HP T) : callD (d + 2) 28 [.ref 2, .ref 7] σ = some (some (.int (sumU T 5 30)), σ) := by
  have hl := h2_sumOf_l5 d σ T h hP 30 0 rfl
  simp only [s28_0, s28_1, s28_2, s28_3, c28]
  exact hl
theorem h59_has (d p : Nat) (hp : p < 30) (σ : Hs) (T : Nat → Int32) (h : HR 59 σ T) (hP : HP T) : callD (d + 1) 1 [.ref 59, .int (nI p)] σ = some (some (.int (b2 (isT T p))), σ) := by
  have p31 : p < 2147483648 := by omega
  have e : (σ 61 p ≤ 0) = ¬ isT T p := h.le hP hp
  simp only [c1, s1_0, s1_1_o2, s1_1_o59, s1_4, s1_5_o4, s1_5_o61, s1_6, s1_9, s1_10, s1_13, s1_14, vp_nI hp, cl_nI p31, e, isB_0, isB_1, simprocAttr, if_true, if_false, true_and, and_true, false_and, and_false, not_false_eq_true, not_true_eq_false, gd_T, kont_i, kont_v]
  by_cases hi : isT T p
  · rw [if_neg (fun q => q hi), b2_T hi]
  · rw [if_pos hi, b2_F hi]
theorem h59_hourNow (d : Nat) (σ : Hs) (T : Nat → Int32) (h : HR 59 σ T) : callD (d + 1) 5 [.ref 59] σ = some (some (.int (T 4 / 60)), σ) := by
  have e : σ 66 0 = T 4 := h.2.2.1 0 (by omega)
  simp only [c5, s5_0, s5_1_o2, s5_1_o59, s5_4, s5_5_o9, s5_5_o66, s5_6, s5_8, s5_9, vp_lit, z60, e, not_false_eq_true, simprocAttr, if_true, if_false, true_and, and_true, false_and, and_false, not_false_eq_true, not_true_eq_false, gd_T, kont_i, kont_v]
theorem h59_heightOf_l (d c : Nat) (hc : c < 6) (σ : Hs) (T : Nat → Int32) (h : HR 59 σ T) (hP : HP T) : ∀ k n, n + k = 5 → ru (d + 1) 4 4 [.ref 59, .int (nI c), .int (nI n), .int (nI (6 * n + c))] [] σ = some (some (.int (nI (hiF T c k n))), σ) := by
  intro k
  induction k with
  | zero =>
    intro n hn
    have h31 : 6 * n + c < 2147483648 := by omega
    simp only [s4_4]
    simp only [c4, s4_0, s4_1, s4_2, s4_3, s4_5, s4_7, s4_10, s4_11_o2, s4_11_o59, s4_14, s4_15_o4, s4_15_o61, s4_16, s4_19, s4_22, s4_25, s4_28, s4_29, le_nI_r h31, simprocAttr, if_true, if_false, true_and, and_true, false_and, and_false, not_false_eq_true, not_true_eq_false, gd_T, kont_i, kont_v]
    rw [if_pos (by omega)]
    rfl
  | succ k ih =>
    intro n hn
    have h31 : 6 * n + c < 2147483648 := by omega
    have h30 : 6 * n + c < 30 := by omega
    have e : (σ 61 (6 * n + c) ≤ 0) = ¬ isT T (6 * n + c) := h.le hP h30
    have hi := ih (n + 1) (by omega)
    rw [hiF]
    have e6 : nI (6 * n + c) + 6 = nI (6 * (n + 1) + c) := by rw [show (6 : Int32) = nI 6 from rfl, nI_add]; congr 1; omega
    simp only [s4_4]
    simp only [c4, s4_0, s4_1, s4_2, s4_3, s4_5, s4_7, s4_10, s4_11_o2, s4_11_o59, s4_14, s4_15_o4, s4_15_o61, s4_16, s4_19, s4_22, s4_25, s4_28, s4_29, le_nI_r h31, vp_nI h30, cl_nI h31, e, nI_1, e6, hi, simprocAttr, if_true, if_false, true_and, and_true, false_and, and_false, not_false_eq_true, not_true_eq_false, gd_T, kont_i, kont_v]
    rw [if_neg (by omega)]
    by_cases hh : isT T (6 * n + c)
    · rw [if_neg (fun q => q hh), if_pos hh]
    · rw [if_pos hh, if_neg hh]
theorem h59_heightOf (d c : Nat) (hc : c < 6) (σ : Hs) (T : Nat → Int32) (h : HR 59 σ T) (hP : HP T) : callD (d + 2) 4 [.ref 59, .int (nI c)] σ = some (some (.int (nI (hiT T c))), σ) := by
  have hl := h59_heightOf_l d c hc σ T h hP 5 0 rfl
  simp only [s4_0, s4_1, s4_2, s4_3, c4]
  rw [show 6 * 0 + c = c by omega] at hl
  exact hl
theorem h59_howManyLit_l (d : Nat) (σ : Hs) (T : Nat → Int32) (h : HR 59 σ T) (hP : HP T) (hB : HB T) : ∀ k n, n + k = 30 → ru (d + 1) 7 4 [.ref 59, .int (sumU T 6 n), .int (nI n)] [] σ = some (some (.int (sumU T 6 30)), σ) := by
  intro k
  induction k with
  | zero =>
    intro n hn
    have h31 : n < 2147483648 := by omega
    simp only [s7_4]
    simp only [c7, s7_0, s7_1, s7_2, s7_3, s7_5, s7_7, s7_10, s7_11_o2, s7_11_o59, s7_14, s7_15_o4, s7_15_o61, s7_16, s7_19, s7_20_o2, s7_20_o59, s7_23, s7_24_o8, s7_24_o65, s7_25, s7_28, s7_31, s7_34, s7_37, s7_38, le_nI_r h31, simprocAttr, if_true, if_false, true_and, and_true, false_and, and_false, not_false_eq_true, not_true_eq_false, gd_T, kont_i, kont_v]
    rw [if_pos (by omega), show n = 30 by omega]
  | succ k ih =>
    intro n hn
    have h31 : n < 2147483648 := by omega
    have h30 : n < 30 := by omega
    have e : (σ 61 n ≤ 0) = ¬ isT T n := h.le hP h30
    have hi := ih (n + 1) (by omega)
    rw [sumU] at hi
    simp only [s7_4]
    simp only [c7, s7_0, s7_1, s7_2, s7_3, s7_5, s7_7, s7_10, s7_11_o2, s7_11_o59, s7_14, s7_15_o4, s7_15_o61, s7_16, s7_19, s7_20_o2, s7_20_o59, s7_23, s7_24_o8, s7_24_o65, s7_25, s7_28, s7_31, s7_34, s7_37, s7_38, le_nI_r h31, vp_nI h30, cl_nI h31, e, nI_1, simprocAttr, if_true, if_false, true_and, and_true, false_and, and_false, not_false_eq_true, not_true_eq_false, gd_T, kont_i, kont_v]
    rw [if_neg (by omega)]
    by_cases hh : isT T n
    · have h6 : σ 65 n = ofT T n 6 := h.f h30 hh 6 (by omega) (by omega)
      rw [if_pos hh] at hi
      rw [if_neg (fun q => q hh), h6]
      rcases hB n h30 hh with c | c
      · rw [c, Int32.add_zero] at hi
        rw [c, if_pos rfl, hi]
      · rw [c] at hi
        rw [c, if_neg (by decide), hi]
    · rw [if_neg hh, Int32.add_zero] at hi
      rw [if_pos hh, hi]
theorem h59_howManyLit (d : Nat) (σ : Hs) (T : Nat → Int32) (h : HR 59 σ T) (hP : HP T) (hB : HB T) : callD (d + 2) 7 [.ref 59] σ = some (some (.int (sumU T 6 30)), σ) := by
  have hl := h59_howManyLit_l d σ T h hP hB 30 0 rfl
  simp only [s7_0, s7_1, s7_2, s7_3, c7]
  exact hl
theorem h59_sumOf_l2 (d : Nat) (σ : Hs) (T : Nat → Int32) (h : HR 59 σ T) (hP : HP T) : ∀ k n, n + k = 30 → ru (d + 1) 28 4 [.ref 59, .ref 61, .int (sumU T 2 n), .int (nI n)] [] σ = some (some (.int (sumU T 2 30)), σ) := by
  intro k
  induction k with
  | zero =>
    intro n hn
    have h31 : n < 2147483648 := by omega
    simp only [s28_4]
    simp only [c28, s28_0, s28_1, s28_2, s28_3, s28_5, s28_7, s28_10, s28_11_o2, s28_11_o59, s28_14, s28_15_o4, s28_15_o61, s28_16, s28_19, s28_20, s28_21, s28_22_o4, s28_22_o5, s28_22_o7, s28_22_o61, s28_22_o62, s28_22_o64, s28_23, s28_24, s28_25, s28_28, s28_31, s28_32, le_nI_r h31, simprocAttr, if_true, if_false, true_and, and_true, false_and, and_false, not_false_eq_true, not_true_eq_false, gd_T, kont_i, kont_v]
    rw [if_pos (by omega), show n = 30 by omega]
  | succ k ih =>
    intro n hn
    have h31 : n < 2147483648 := by omega
    have h30 : n < 30 := by omega
    have e : (σ 61 n ≤ 0) = ¬ isT T n := h.le hP h30
    have hi := ih (n + 1) (by omega)
    rw [sumU] at hi
    simp only [s28_4]
    simp only [c28, s28_0, s28_1, s28_2, s28_3, s28_5, s28_7, s28_10, s28_11_o2, s28_11_o59, s28_14, s28_15_o4, s28_15_o61, s28_16, s28_19, s28_20, s28_21, s28_22_o4, s28_22_o5, s28_22_o7, s28_22_o61, s28_22_o62, s28_22_o64, s28_23, s28_24, s28_25, s28_28, s28_31, s28_32, le_nI_r h31, vp_nI h30, cl_nI h31, e, nI_1, simprocAttr, if_true, if_false, true_and, and_true, false_and, and_false, not_false_eq_true, not_true_eq_false, gd_T, kont_i, kont_v]
    rw [if_neg (by omega)]
    by_cases hh : isT T n
    · have h6 : σ 61 n = ofT T n 2 := h.f h30 hh 2 (by omega) (by omega)
      rw [if_pos hh] at hi
      rw [if_neg (fun q => q hh), h6, hi]
    · rw [if_neg hh, Int32.add_zero] at hi
      rw [if_pos hh, hi]
theorem h59_sumOf2 (d : Nat) (σ : Hs) (T : Nat → Int32) (h : HR 59 σ T) (hP : HP T) : callD (d + 2) 28 [.ref 59, .ref 61] σ = some (some (.int (sumU T 2 30)), σ) := by
  have hl := h59_sumOf_l2 d σ T h hP 30 0 rfl
  simp only [s28_0, s28_1, s28_2, s28_3, c28]
  exact hl
theorem h59_sumOf_l3 (d : Nat) (σ : Hs) (T : Nat → Int32) (h : HR 59 σ T) (hP : HP T) : ∀ k n, n + k = 30 → ru (d + 1) 28 4 [.ref 59, .ref 62, .int (sumU T 3 n), .int (nI n)] [] σ = some (some (.int (sumU T 3 30)), σ) := by
  intro k
  induction k with
  | zero =>
    intro n hn
    have h31 : n < 2147483648 := by omega
    simp only [s28_4]
    simp only [c28, s28_0, s28_1, s28_2, s28_3, s28_5, s28_7, s28_10, s28_11_o2, s28_11_o59, s28_14, s28_15_o4, s28_15_o61, s28_16, s28_19, s28_20, s28_21, s28_22_o4, s28_22_o5, s28_22_o7, s28_22_o61, s28_22_o62, s28_22_o64, s28_23, s28_24, s28_25, s28_28, s28_31, s28_32, le_nI_r h31, simprocAttr, if_true, if_false, true_and, and_true, false_and, and_false, not_false_eq_true, not_true_eq_false, gd_T, kont_i, kont_v]
    rw [if_pos (by omega), show n = 30 by omega]
  | succ k ih =>
    intro n hn
    have h31 : n < 2147483648 := by omega
    have h30 : n < 30 := by omega
    have e : (σ 61 n ≤ 0) = ¬ isT T n := h.le hP h30
    have hi := ih (n + 1) (by omega)
    rw [sumU] at hi
    simp only [s28_4]
    simp only [c28, s28_0, s28_1, s28_2, s28_3, s28_5, s28_7, s28_10, s28_11_o2, s28_11_o59, s28_14, s28_15_o4, s28_15_o61, s28_16, s28_19, s28_20, s28_21, s28_22_o4, s28_22_o5, s28_22_o7, s28_22_o61, s28_22_o62, s28_22_o64, s28_23, s28_24, s28_25, s28_28, s28_31, s28_32, le_nI_r h31, vp_nI h30, cl_nI h31, e, nI_1, simprocAttr, if_true, if_false, true_and, and_true, false_and, and_false, not_false_eq_true, not_true_eq_false, gd_T, kont_i, kont_v]
    rw [if_neg (by omega)]
    by_cases hh : isT T n
    · have h6 : σ 62 n = ofT T n 3 := h.f h30 hh 3 (by omega) (by omega)
      rw [if_pos hh] at hi
      rw [if_neg (fun q => q hh), h6, hi]
    · rw [if_neg hh, Int32.add_zero] at hi
      rw [if_pos hh, hi]
theorem h59_sumOf3 (d : Nat) (σ : Hs) (T : Nat → Int32) (h : HR 59 σ T) (hP : HP T) : callD (d + 2) 28 [.ref 59, .ref 62] σ = some (some (.int (sumU T 3 30)), σ) := by
  have hl := h59_sumOf_l3 d σ T h hP 30 0 rfl
  simp only [s28_0, s28_1, s28_2, s28_3, c28]
  exact hl
theorem h59_sumOf_l5 (d : Nat) (σ : Hs) (T : Nat → Int32) (h : HR 59 σ T) (hP : HP T) : ∀ k n, n + k = 30 → ru (d + 1) 28 4 [.ref 59, .ref 64, .int (sumU T 5 n), .int (nI n)] [] σ = some (some (.int (sumU T 5 30)), σ) := by
  intro k
  induction k with
  | zero =>
    intro n hn
    have h31 : n < 2147483648 := by omega
    simp only [s28_4]
    simp only [c28, s28_0, s28_1, s28_2, s28_3, s28_5, s28_7, s28_10, s28_11_o2, s28_11_o59, s28_14, s28_15_o4, s28_15_o61, s28_16, s28_19, s28_20, s28_21, s28_22_o4, s28_22_o5, s28_22_o7, s28_22_o61, s28_22_o62, s28_22_o64, s28_23, s28_24, s28_25, s28_28, s28_31, s28_32, le_nI_r h31, simprocAttr, if_true, if_false, true_and, and_true, false_and, and_false, not_false_eq_true, not_true_eq_false, gd_T, kont_i, kont_v]
    rw [if_pos (by omega), show n = 30 by omega]
  | succ k ih =>
    intro n hn
    have h31 : n < 2147483648 := by omega
    have h30 : n < 30 := by omega
    have e : (σ 61 n ≤ 0) = ¬ isT T n := h.le hP h30
    have hi := ih (n + 1) (by omega)
    rw [sumU] at hi
    simp only [s28_4]
    simp only [c28, s28_0, s28_1, s28_2, s28_3, s28_5, s28_7, s28_10, s28_11_o2, s28_11_o59, s28_14, s28_15_o4, s28_15_o61, s28_16, s28_19, s28_20, s28_21, s28_22_o4, s28_22_o5, s28_22_o7, s28_22_o61, s28_22_o62, s28_22_o64, s28_23, s28_24, s28_25, s28_28, s28_31, s28_32, le_nI_r h31, vp_nI h30, cl_nI h31, e, nI_1, simprocAttr, if_true, if_false, true_and, and_true, false_and, and_false, not_false_eq_true, not_true_eq_false, gd_T, kont_i, kont_v]
    rw [if_neg (by omega)]
    by_cases hh : isT T n
    · have h6 : σ 64 n = ofT T n 5 := h.f h30 hh 5 (by omega) (by omega)
      rw [if_pos hh] at hi
      rw [if_neg (fun q => q hh), h6, hi]
    · rw [if_neg hh, Int32.add_zero] at hi
      rw [if_pos hh, hi]
theorem h59_sumOf5 (d : Nat) (σ : Hs) (T : Nat → Int32) (h : HR 59 σ T) (hP : HP T) : callD (d + 2) 28 [.ref 59, .ref 64] σ = some (some (.int (sumU T 5 30)), σ) := by
  have hl := h59_sumOf_l5 d σ T h hP 30 0 rfl
  simp only [s28_0, s28_1, s28_2, s28_3, c28]
  exact hl
theorem h2_howMany_l (d : Nat) (σ : Hs) (T : Nat → Int32) (h : HR 2 σ T) (hP : HP T) : ∀ k n, n + k = 30 → ru (d + 1) 6 4 [.ref 2, .int (sumU T 0 n), .int (nI n)] [] σ = some (some (.int (sumU T 0 30)), σ) := by
  intro k
  induction k with
  | zero =>
    intro n hn
    have h31 : n < 2147483648 := by omega
    simp only [s6_4]
    simp only [c6, s6_0, s6_1, s6_2, s6_3, s6_5, s6_7, s6_10, s6_11_o2, s6_14, s6_15_o4, s6_16, s6_19, s6_22, s6_25, s6_28, s6_29, le_nI_r h31, simprocAttr, if_true, if_false, true_and, and_true, false_and, and_false, not_false_eq_true, not_true_eq_false, gd_T, kont_i, kont_v]
    rw [if_pos (by omega), show n = 30 by omega]
  | succ k ih =>
    intro n hn
    have h31 : n < 2147483648 := by omega
    have h30 : n < 30 := by omega
    have e : (σ 4 n ≤ 0) = ¬ isT T n := h.le hP h30
    have hi := ih (n + 1) (by omega)
    rw [sumU] at hi
    simp only [s6_4]
    simp only [c6, s6_0, s6_1, s6_2, s6_3, s6_5, s6_7, s6_10, s6_11_o2, s6_14, s6_15_o4, s6_16, s6_19, s6_22, s6_25, s6_28, s6_29, le_nI_r h31, vp_nI h30, cl_nI h31, e, nI_1, simprocAttr, if_true, if_false, true_and, and_true, false_and, and_false, not_false_eq_true, not_true_eq_false, gd_T, kont_i, kont_v]
    rw [if_neg (by omega)]
    by_cases hh : isT T n
    · have hh1 : ofT T n 0 = 1 := hh
      rw [if_pos hh, hh1] at hi
      rw [if_neg (fun q => q hh), hi]
    · rw [if_neg hh, Int32.add_zero] at hi
      rw [if_pos hh, hi]
theorem h2_howMany (d : Nat) (σ : Hs) (T : Nat → Int32) (h : HR 2 σ T) (hP : HP T) : callD (d + 2) 6 [.ref 2] σ = some (some (.int (sumU T 0 30)), σ) := by
  have hl := h2_howMany_l d σ T h hP 30 0 rfl
  simp only [s6_0, s6_1, s6_2, s6_3, c6]
  exact hl
