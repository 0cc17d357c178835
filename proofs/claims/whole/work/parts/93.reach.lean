/-! ===== reach: the runs ===== -/
theorem n30w : nI 30 = (30 : Int32) := rfl
def AoT (T : Nat → Int32) : Nat → Bool := fun p => decide (isT T p)
theorem h2_all_l (d : Nat) (i1 : Int32) (l4 : Value) (σ : Hs) (T : Nat → Int32) (h : HR 2 σ T) (hP : HP T) : ∀ m k, k + m = 30 → ru d 23 4 [.ref 2, .int i1, .int (nI (alN (AoT T) k)), .int (nI k), l4] [] σ = ru d 23 35 [.ref 2, .int i1, .int (nI (alN (AoT T) 30)), .int (nI 30), l4] [] σ := by
  intro m
  induction m with
  | zero =>
    intro k hk
    obtain rfl : k = 30 := by omega
    simp only [s23_4]
    simp only [s23_5, s23_7, s23_10, s23_11, s23_12_o2, s23_15, s23_16_o4, s23_17, s23_20, s23_21, s23_22, s23_23, s23_26, s23_27, s23_28, s23_29, s23_32, n30w, Int32.le_refl, simprocAttr, if_true, if_false, true_and, and_true, false_and, and_false, not_false_eq_true, not_true_eq_false, gd_T, kont_i, kont_v]
  | succ m ih =>
    intro k hk
    have k31 : k < 2147483648 := by omega
    have e : ((30 : Int32) ≤ nI k) = False := by rw [show (30 : Int32) = nI 30 from rfl, le_nn (by omega) k31]; exact eq_false (by omega)
    have hi := ih (k + 1) (by omega)
    have hle := h.le hP (show k < 30 by omega)
    have n1 := nI_1 k
    have sh := shl_1 k (by omega)
    rw [← hi, alN]
    by_cases c : isT T k
    · have c' : AoT T k = true := decide_eq_true c
      have c2 : (σ 4 k ≤ 0) = False := hle.trans (eq_false (fun q => q c))
      rw [if_pos c']
      generalize hR : ru d 23 4 [.ref 2, .int i1, .int (nI (alN (AoT T) k ||| 2 ^ k)), .int (nI (k + 1)), l4] [] σ = R
      simp only [s23_4]
      simp only [s23_5, s23_7, s23_10, s23_11, s23_12_o2, s23_15, s23_16_o4, s23_17, s23_20, s23_21, s23_22, s23_23, s23_26, s23_27, s23_28, s23_29, s23_32, e, vp_nI (show k < 30 by omega), cl_nI k31, c2, sh, nx_lor, n1, simprocAttr, if_true, if_false, true_and, and_true, false_and, and_false, not_false_eq_true, not_true_eq_false, gd_T, kont_i, kont_v]
      exact hR
    · have c' : ¬ AoT T k = true := fun q => c (of_decide_eq_true q)
      have c2 : (σ 4 k ≤ 0) = True := hle.trans (eq_true c)
      rw [if_neg c']
      generalize hR : ru d 23 4 [.ref 2, .int i1, .int (nI (alN (AoT T) k)), .int (nI (k + 1)), l4] [] σ = R
      simp only [s23_4]
      simp only [s23_5, s23_7, s23_10, s23_11, s23_12_o2, s23_15, s23_16_o4, s23_17, s23_20, s23_21, s23_22, s23_23, s23_26, s23_27, s23_28, s23_29, s23_32, e, vp_nI (show k < 30 by omega), cl_nI k31, c2, or_0, n1, simprocAttr, if_true, if_false, true_and, and_true, false_and, and_false, not_false_eq_true, not_true_eq_false, gd_T, kont_i, kont_v]
      exact hR
theorem k_bs_l (d w : Nat) (hw : w < 1073741824) (σ : Hs) : ∀ m k l3, k + m = 30 → ru d 24 4 [.int (nI w), .int (nI (paN Aal w k w)), .int (nI k), l3] [] σ = some (some (.int (nI (stN2 Aal w))), σ) := by
  intro m
  induction m with
  | zero =>
    intro k l3 hk
    obtain rfl : k = 30 := by omega
    simp only [s24_4]
    simp only [s24_5, s24_7, s24_103, s24_104, n30w, Int32.le_refl, simprocAttr, if_true, if_false, true_and, and_true, false_and, and_false, not_false_eq_true, not_true_eq_false, gd_T, kont_i, kont_v]
    rfl
  | succ m ih =>
    intro k l3 hk
    have k31 : k < 2147483648 := by omega
    have k30 : k < 30 := by omega
    have e : ((30 : Int32) ≤ nI k) = False := by rw [show (30 : Int32) = nI 30 from rfl, le_nn (by omega) k31]; exact eq_false (by omega)
    have n1 := nI_1 k
    have sb := shr_b (n := w) (p := k) (by omega) (by omega)
    by_cases c : w.testBit k = true
    · rw [if_pos c] at sb
      have hi := ih (k + 1) (.int (nI (k % 6))) (by omega)
      rw [paN, plN, if_pos c] at hi
      generalize paN Aal w k w = u at hi ⊢
      have one : ((1 : Int32) = 0) = False := eq_false (by decide)
      have z0 : ∀ y, ru d 24 23 [.int (nI w), .int (nI y), .int (nI k), .int (nI (k % 6))] [] σ = ru d 24 39 [.int (nI w), .int (nI (sdN Aal k 0 y)), .int (nI k), .int (nI (k % 6))] [] σ := by
        intro y
        unfold sdN besN
        by_cases q : 0 < k % 6
        · have g : (nI (k % 6) ≤ 0) = False := by rw [show (0 : Int32) = nI 0 from rfl, le_nn (by omega) (by omega)]; exact eq_false (by omega)
          have ks : nI k - 1 = nI (k - 1) := by rw [show (1 : Int32) = nI 1 from rfl, pk_sub (by omega)]
          simp only [s24_23, s24_24, s24_25, s24_28, s24_29, s24_30, s24_31, s24_32, s24_33, s24_36, s24_37, s24_38, g, ks, shl_1 (k - 1) (by omega), nx_lor, if_pos q, Aal, if_true, simprocAttr, if_true, if_false, true_and, and_true, false_and, and_false, not_false_eq_true, not_true_eq_false, gd_T, kont_i, kont_v]
        · have g : (nI (k % 6) ≤ 0) = True := by rw [show (0 : Int32) = nI 0 from rfl, le_nn (by omega) (by omega)]; exact eq_true (by omega)
          simp only [s24_23, s24_24, s24_25, s24_28, s24_29, s24_30, s24_31, s24_32, s24_33, s24_36, s24_37, s24_38, g, or_0, if_neg q, if_true, simprocAttr, if_true, if_false, true_and, and_true, false_and, and_false, not_false_eq_true, not_true_eq_false, gd_T, kont_i, kont_v]
      have z1 : ∀ y, ru d 24 39 [.int (nI w), .int (nI y), .int (nI k), .int (nI (k % 6))] [] σ = ru d 24 56 [.int (nI w), .int (nI (sdN Aal k 1 y)), .int (nI k), .int (nI (k % 6))] [] σ := by
        intro y
        unfold sdN besN
        rw [if_neg (by omega)]
        by_cases q : k % 6 < 5
        · have g : ((5 : Int32) ≤ nI (k % 6)) = False := by rw [show (5 : Int32) = nI 5 from rfl, le_nn (by omega) (by omega)]; exact eq_false (by omega)
          simp only [s24_39, s24_40, s24_41, s24_42, s24_45, s24_46, s24_47, s24_48, s24_49, s24_50, s24_53, s24_54, s24_55, g, n1, shl_1 (k + 1) (by omega), nx_lor, if_pos q, Aal, if_true, simprocAttr, if_true, if_false, true_and, and_true, false_and, and_false, not_false_eq_true, not_true_eq_false, gd_T, kont_i, kont_v]
        · have g : ((5 : Int32) ≤ nI (k % 6)) = True := by rw [show (5 : Int32) = nI 5 from rfl, le_nn (by omega) (by omega)]; exact eq_true (by omega)
          simp only [s24_39, s24_40, s24_41, s24_42, s24_45, s24_46, s24_47, s24_48, s24_49, s24_50, s24_53, s24_54, s24_55, g, or_0, if_neg q, if_true, simprocAttr, if_true, if_false, true_and, and_true, false_and, and_false, not_false_eq_true, not_true_eq_false, gd_T, kont_i, kont_v]
      have n6 : nI k + 6 = nI (k + 6) := by rw [show (6 : Int32) = nI 6 from rfl, nI_add]
      have z2 : ∀ y, ru d 24 56 [.int (nI w), .int (nI y), .int (nI k), .int (nI (k % 6))] [] σ = ru d 24 78 [.int (nI w), .int (nI (sdN Aal k 2 y)), .int (nI k), .int (nI (k % 6))] [] σ := by
        intro y
        unfold sdN besN
        rw [if_neg (by omega), if_neg (by omega), if_pos rfl]
        by_cases q : k + 6 < 30
        · have g : ((30 : Int32) ≤ nI (k + 6)) = False := by rw [show (30 : Int32) = nI 30 from rfl, le_nn (by omega) (by omega)]; exact eq_false (by omega)
          simp only [s24_56, s24_57, s24_58, s24_60, s24_61, s24_63, s24_66, s24_67, s24_68, s24_70, s24_71, s24_72, s24_75, s24_76, s24_77, n6, g, shl_1 (k + 6) (by omega), nx_lor, if_pos q, Aal, if_true, simprocAttr, if_true, if_false, true_and, and_true, false_and, and_false, not_false_eq_true, not_true_eq_false, gd_T, kont_i, kont_v]
        · have g : ((30 : Int32) ≤ nI (k + 6)) = True := by rw [show (30 : Int32) = nI 30 from rfl, le_nn (by omega) (by omega)]; exact eq_true (by omega)
          simp only [s24_56, s24_57, s24_58, s24_60, s24_61, s24_63, s24_66, s24_67, s24_68, s24_70, s24_71, s24_72, s24_75, s24_76, s24_77, n6, g, or_0, if_neg q, if_true, simprocAttr, if_true, if_false, true_and, and_true, false_and, and_false, not_false_eq_true, not_true_eq_false, gd_T, kont_i, kont_v]
      have z3 : ∀ y, ru d 24 78 [.int (nI w), .int (nI y), .int (nI k), .int (nI (k % 6))] [] σ = ru d 24 4 [.int (nI w), .int (nI (sdN Aal k 3 y)), .int (nI (k + 1)), .int (nI (k % 6))] [] σ := by
        intro y
        unfold sdN besN
        rw [if_neg (by omega), if_neg (by omega), if_neg (by omega)]
        by_cases q : 6 ≤ k
        · have g : (nI k < (6 : Int32)) = False := by rw [show (6 : Int32) = nI 6 from rfl, lt_nn (by omega) (by omega)]; exact eq_false (by omega)
          have ks : nI k - 6 = nI (k - 6) := by rw [show (6 : Int32) = nI 6 from rfl, pk_sub (by omega)]
          simp only [s24_78, s24_79, s24_80, s24_82, s24_85, s24_86, s24_87, s24_89, s24_90, s24_91, s24_94, s24_95, s24_96, s24_97, s24_100, g, ks, n1, shl_1 (k - 6) (by omega), nx_lor, if_pos q, Aal, if_true, simprocAttr, if_true, if_false, true_and, and_true, false_and, and_false, not_false_eq_true, not_true_eq_false, gd_T, kont_i, kont_v]
        · have g : (nI k < (6 : Int32)) = True := by rw [show (6 : Int32) = nI 6 from rfl, lt_nn (by omega) (by omega)]; exact eq_true (by omega)
          simp only [s24_78, s24_79, s24_80, s24_82, s24_85, s24_86, s24_87, s24_89, s24_90, s24_91, s24_94, s24_95, s24_96, s24_97, s24_100, g, n1, or_0, if_neg q, if_true, simprocAttr, if_true, if_false, true_and, and_true, false_and, and_false, not_false_eq_true, not_true_eq_false, gd_T, kont_i, kont_v]
      simp only [s24_4]
      simp only [s24_5, s24_7, s24_10, s24_11, s24_12, s24_13, s24_14, s24_15, s24_18, s24_19, s24_21, s24_22, e, sb, one, z6, rem6 k31, simprocAttr, if_true, if_false, true_and, and_true, false_and, and_false, not_false_eq_true, not_true_eq_false, gd_T, kont_i, kont_v]
      rw [z0, z1, z2, z3]
      exact hi
    · rw [if_neg c] at sb
      have hi := ih (k + 1) l3 (by omega)
      rw [paN, plN, if_neg c] at hi
      simp only [s24_4]
      simp only [s24_5, s24_7, s24_10, s24_11, s24_12, s24_13, s24_14, s24_15, s24_18, s24_19, s24_21, s24_22, s24_97, s24_100, e, sb, n1, simprocAttr, if_true, if_false, true_and, and_true, false_and, and_false, not_false_eq_true, not_true_eq_false, gd_T, kont_i, kont_v]
      exact hi
theorem k_bs (d w : Nat) (hw : w < 1073741824) (σ : Hs) : callD (d + 1) 24 [.int (nI w)] σ = some (some (.int (nI (stN2 Aal w))), σ) := by
  have hl := fun l3 => k_bs_l d w hw σ 30 0 l3 (by omega)
  simp only [c24, s24_0, s24_1, s24_2, s24_3]
  exact hl _
theorem h2_hang_l (d : Nat) (i1 : Int32) (σ : Hs) (A : Nat → Bool) : ∀ m k n, k + m = 30 → n < 1073741824 → (∀ y, n.testBit y = true → A y = true) → ru (d + 1) 23 42 [.ref 2, .int i1, .int (nI (alN A 30)), .int (nI n), .int (nI k)] [] σ = some (some (.int (nI (itN A m n))), σ) := by
  intro m
  induction m with
  | zero =>
    intro k n hk hn ha
    obtain rfl : k = 30 := by omega
    simp only [s23_42]
    simp only [s23_44, s23_46, s23_49, s23_50, s23_53, s23_54, s23_55, s23_56, s23_59, s23_62, s23_63, n30w, Int32.le_refl, simprocAttr, if_true, if_false, true_and, and_true, false_and, and_false, not_false_eq_true, not_true_eq_false, gd_T, kont_i, kont_v]
    rfl
  | succ m ih =>
    intro k n hk hn ha
    have k31 : k < 2147483648 := by omega
    have e : ((30 : Int32) ≤ nI k) = False := by rw [show (30 : Int32) = nI 30 from rfl, le_nn (by omega) k31]; exact eq_false (by omega)
    have hi := ih (k + 1) (stN2 A n) (by omega) (st_lt hn) (st_in ha)
    have n1 := nI_1 k
    have hb := k_bs d n hn σ
    have ea := st_and hn ha
    simp only [s23_42]
    simp only [s23_44, s23_46, s23_49, s23_50, s23_53, s23_54, s23_55, s23_56, s23_59, e, hb, nx_land, ea, n1, simprocAttr, if_true, if_false, true_and, and_true, false_and, and_false, not_false_eq_true, not_true_eq_false, gd_T, kont_i, kont_v]
    exact hi
theorem pw_tb {p y : Nat} : (2 ^ p).testBit y = true ↔ p = y := by
  rw [Nat.testBit_two_pow, decide_eq_true_eq]
theorem h2_hang (d p : Nat) (hp : p < 30) (σ : Hs) (T : Nat → Int32) (h : HR 2 σ T) (hP : HP T) (hi : isT T p) : callD (d + 2) 23 [.ref 2, .int (nI p)] σ = some (some (.int (nI (itN (AoT T) 30 (2 ^ p)))), σ) := by
  have p2 : 2 ^ p < 1073741824 := Nat.pow_lt_pow_right (a := 2) (n := 30) (by omega) hp
  have h1 := fun l4 => h2_all_l (d + 1) (nI p) l4 σ T h hP 30 0 (by omega)
  have h2 := h2_hang_l d (nI p) σ (AoT T) 30 0 (2 ^ p) (by omega) p2 (fun y hy => by rw [← pw_tb.mp hy]; exact decide_eq_true hi)
  have sh := shl_1 p (by omega)
  simp only [c23, s23_0, s23_1, s23_2, s23_3]
  rw [show ru (d + 1) 23 4 [.ref 2, .int (nI p), .int 0, .int 0, uu] [] σ = _ from h1 uu]
  simp only [s23_35, s23_36, s23_37, s23_38, s23_39, s23_40, sh, simprocAttr, if_true, if_false, true_and, and_true, false_and, and_false, not_false_eq_true, not_true_eq_false, gd_T, kont_i, kont_v]
  exact h2
