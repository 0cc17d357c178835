/-! ===== text: levels 3 and 4 ===== -/
theorem sg_3_4_43 {τ0 : Hs} {n : Nat} {B : Nat → Nat} (hm : TPm τ0 n B) (E2 op a : Nat) (an : a < n) (be : B a = 43) (L : List Int32) (l1 : Value) : ru (E2 + 3) 151 4 [.ref 87, l1] [] (rmS τ0 a L false op) = ru (E2 + 3) 151 36 [.ref 87, .int 20005] [] (rmS τ0 (a + 1) L false op) := by
  have n60 : n ≤ 60 := hm.1
  have one : ((1 : Int32) = 0) = False := eq_false (by decide)
  have t0 : callD (E2 + 3) 146 [.ref 87, .int 43] (rmS τ0 a L false op) = _ := m_takes_y (E2 + 1) τ0 a n B (by omega) hm L op 43 an be
  simp only [s151_4, s151_5, s151_7_o87, s151_10, s151_13, s151_16, s151_19, s151_20, s151_22_o87, s151_25, s151_28, s151_31, s151_34, s151_35, t0, one, simprocAttr, if_true, if_false, true_and, and_true, false_and, and_false, not_false_eq_true, not_true_eq_false, gd_T, kont_i, kont_v]
theorem sg_3_4_45 {τ0 : Hs} {n : Nat} {B : Nat → Nat} (hm : TPm τ0 n B) (E2 op a : Nat) (an : a < n) (be : B a = 45) (L : List Int32) (l1 : Value) : ru (E2 + 3) 151 4 [.ref 87, l1] [] (rmS τ0 a L false op) = ru (E2 + 3) 151 36 [.ref 87, .int 20006] [] (rmS τ0 (a + 1) L false op) := by
  have n60 : n ≤ 60 := hm.1
  have one : ((1 : Int32) = 0) = False := eq_false (by decide)
  have t0 : callD (E2 + 3) 146 [.ref 87, .int 43] (rmS τ0 a L false op) = _ := m_takes_n (E2 + 1) τ0 a n B (by omega) hm L op 43 (by omega) (fun q => by rw [be] at q; exact absurd q.2 (by decide))
  have t1 : callD (E2 + 3) 146 [.ref 87, .int 45] (rmS τ0 a L false op) = _ := m_takes_y (E2 + 1) τ0 a n B (by omega) hm L op 45 an be
  simp only [s151_4, s151_5, s151_7_o87, s151_10, s151_13, s151_16, s151_19, s151_20, s151_22_o87, s151_25, s151_28, s151_31, s151_34, s151_35, t0, t1, one, simprocAttr, if_true, if_false, true_and, and_true, false_and, and_false, not_false_eq_true, not_true_eq_false, gd_T, kont_i, kont_v]
theorem sg_3_4_n {τ0 : Hs} {n : Nat} {B : Nat → Nat} (hm : TPm τ0 n B) (E2 op a : Nat) (ha : a ≤ n) (ne : ¬ (a < n ∧ (B a = 43 ∨ B a = 45))) (L : List Int32) (l1 : Value) : ru (E2 + 3) 151 4 [.ref 87, l1] [] (rmS τ0 a L false op) = some (none, rmS τ0 a L false op) := by
  have n60 : n ≤ 60 := hm.1
  have t0 : callD (E2 + 3) 146 [.ref 87, .int 43] (rmS τ0 a L false op) = _ := m_takes_n (E2 + 1) τ0 a n B (by omega) hm L op 43 (by omega) (fun q => ne ⟨q.1, by simp only [q.2]; omega⟩)
  have t1 : callD (E2 + 3) 146 [.ref 87, .int 45] (rmS τ0 a L false op) = _ := m_takes_n (E2 + 1) τ0 a n B (by omega) hm L op 45 (by omega) (fun q => ne ⟨q.1, by simp only [q.2]; omega⟩)
  simp only [s151_4, s151_5, s151_7_o87, s151_10, s151_13, s151_16, s151_19, s151_20, s151_22_o87, s151_25, s151_28, s151_31, s151_34, s151_35, t0, t1, simprocAttr, if_true, if_false, true_and, and_true, false_and, and_false, not_false_eq_true, not_true_eq_false, gd_T, kont_i, kont_v]
  simp only [s151_36]
  simp only [s151_37, s151_84, Int32.le_refl, simprocAttr, if_true, if_false, true_and, and_true, false_and, and_false, not_false_eq_true, not_true_eq_false, gd_T, kont_i, kont_v]
theorem sg_3_4_w {τ0 : Hs} (E2 op a : Nat) (ha : a ≤ 60) (L : List Int32) (l1 : Value) : ru (E2 + 3) 151 4 [.ref 87, l1] [] (rmS τ0 a L true op) = some (none, rmS τ0 a L true op) := by
  have t0 : callD (E2 + 3) 146 [.ref 87, .int 43] (rmS τ0 a L true op) = _ := m_takes_t (E2 + 1) τ0 a ha L op 43 (by omega)
  have t1 : callD (E2 + 3) 146 [.ref 87, .int 45] (rmS τ0 a L true op) = _ := m_takes_t (E2 + 1) τ0 a ha L op 45 (by omega)
  simp only [s151_4, s151_5, s151_7_o87, s151_10, s151_13, s151_16, s151_19, s151_20, s151_22_o87, s151_25, s151_28, s151_31, s151_34, s151_35, t0, t1, simprocAttr, if_true, if_false, true_and, and_true, false_and, and_false, not_false_eq_true, not_true_eq_false, gd_T, kont_i, kont_v]
  simp only [s151_36]
  simp only [s151_37, s151_84, Int32.le_refl, simprocAttr, if_true, if_false, true_and, and_true, false_and, and_false, not_false_eq_true, not_true_eq_false, gd_T, kont_i, kont_v]
theorem sg_3_49_43 {τ0 : Hs} {n : Nat} {B : Nat → Nat} (hm : TPm τ0 n B) (E2 op a : Nat) (an : a < n) (be : B a = 43) (L : List Int32) (l1 : Value) : ru (E2 + 3) 151 49 [.ref 87, l1] [] (rmS τ0 a L false op) = ru (E2 + 3) 151 36 [.ref 87, .int 20005] [] (rmS τ0 (a + 1) L false op) := by
  have n60 : n ≤ 60 := hm.1
  have one : ((1 : Int32) = 0) = False := eq_false (by decide)
  have t0 : callD (E2 + 3) 146 [.ref 87, .int 43] (rmS τ0 a L false op) = _ := m_takes_y (E2 + 1) τ0 a n B (by omega) hm L op 43 an be
  simp only [s151_49, s151_50, s151_52_o87, s151_55, s151_58, s151_61, s151_64, s151_65, s151_67_o87, s151_70, s151_73, s151_76, s151_79, s151_80, t0, s151_81, one, simprocAttr, if_true, if_false, true_and, and_true, false_and, and_false, not_false_eq_true, not_true_eq_false, gd_T, kont_i, kont_v]
theorem sg_3_49_45 {τ0 : Hs} {n : Nat} {B : Nat → Nat} (hm : TPm τ0 n B) (E2 op a : Nat) (an : a < n) (be : B a = 45) (L : List Int32) (l1 : Value) : ru (E2 + 3) 151 49 [.ref 87, l1] [] (rmS τ0 a L false op) = ru (E2 + 3) 151 36 [.ref 87, .int 20006] [] (rmS τ0 (a + 1) L false op) := by
  have n60 : n ≤ 60 := hm.1
  have one : ((1 : Int32) = 0) = False := eq_false (by decide)
  have t0 : callD (E2 + 3) 146 [.ref 87, .int 43] (rmS τ0 a L false op) = _ := m_takes_n (E2 + 1) τ0 a n B (by omega) hm L op 43 (by omega) (fun q => by rw [be] at q; exact absurd q.2 (by decide))
  have t1 : callD (E2 + 3) 146 [.ref 87, .int 45] (rmS τ0 a L false op) = _ := m_takes_y (E2 + 1) τ0 a n B (by omega) hm L op 45 an be
  simp only [s151_49, s151_50, s151_52_o87, s151_55, s151_58, s151_61, s151_64, s151_65, s151_67_o87, s151_70, s151_73, s151_76, s151_79, s151_80, t0, t1, s151_81, one, simprocAttr, if_true, if_false, true_and, and_true, false_and, and_false, not_false_eq_true, not_true_eq_false, gd_T, kont_i, kont_v]
theorem sg_3_49_n {τ0 : Hs} {n : Nat} {B : Nat → Nat} (hm : TPm τ0 n B) (E2 op a : Nat) (ha : a ≤ n) (ne : ¬ (a < n ∧ (B a = 43 ∨ B a = 45))) (L : List Int32) (l1 : Value) : ru (E2 + 3) 151 49 [.ref 87, l1] [] (rmS τ0 a L false op) = some (none, rmS τ0 a L false op) := by
  have n60 : n ≤ 60 := hm.1
  have t0 : callD (E2 + 3) 146 [.ref 87, .int 43] (rmS τ0 a L false op) = _ := m_takes_n (E2 + 1) τ0 a n B (by omega) hm L op 43 (by omega) (fun q => ne ⟨q.1, by simp only [q.2]; omega⟩)
  have t1 : callD (E2 + 3) 146 [.ref 87, .int 45] (rmS τ0 a L false op) = _ := m_takes_n (E2 + 1) τ0 a n B (by omega) hm L op 45 (by omega) (fun q => ne ⟨q.1, by simp only [q.2]; omega⟩)
  simp only [s151_49, s151_50, s151_52_o87, s151_55, s151_58, s151_61, s151_64, s151_65, s151_67_o87, s151_70, s151_73, s151_76, s151_79, s151_80, t0, t1, s151_81, simprocAttr, if_true, if_false, true_and, and_true, false_and, and_false, not_false_eq_true, not_true_eq_false, gd_T, kont_i, kont_v]
  simp only [s151_36]
  simp only [s151_37, s151_84, Int32.le_refl, simprocAttr, if_true, if_false, true_and, and_true, false_and, and_false, not_false_eq_true, not_true_eq_false, gd_T, kont_i, kont_v]
theorem sg_3_49_w {τ0 : Hs} (E2 op a : Nat) (ha : a ≤ 60) (L : List Int32) (l1 : Value) : ru (E2 + 3) 151 49 [.ref 87, l1] [] (rmS τ0 a L true op) = some (none, rmS τ0 a L true op) := by
  have t0 : callD (E2 + 3) 146 [.ref 87, .int 43] (rmS τ0 a L true op) = _ := m_takes_t (E2 + 1) τ0 a ha L op 43 (by omega)
  have t1 : callD (E2 + 3) 146 [.ref 87, .int 45] (rmS τ0 a L true op) = _ := m_takes_t (E2 + 1) τ0 a ha L op 45 (by omega)
  simp only [s151_49, s151_50, s151_52_o87, s151_55, s151_58, s151_61, s151_64, s151_65, s151_67_o87, s151_70, s151_73, s151_76, s151_79, s151_80, t0, t1, s151_81, simprocAttr, if_true, if_false, true_and, and_true, false_and, and_false, not_false_eq_true, not_true_eq_false, gd_T, kont_i, kont_v]
  simp only [s151_36]
  simp only [s151_37, s151_84, Int32.le_refl, simprocAttr, if_true, if_false, true_and, and_true, false_and, and_false, not_false_eq_true, not_true_eq_false, gd_T, kont_i, kont_v]
theorem sg_4_4_42 {τ0 : Hs} {n : Nat} {B : Nat → Nat} (hm : TPm τ0 n B) (E2 op a : Nat) (an : a < n) (be : B a = 42) (L : List Int32) (l1 : Value) : ru (E2 + 3) 152 4 [.ref 87, l1] [] (rmS τ0 a L false op) = ru (E2 + 3) 152 51 [.ref 87, .int 20007] [] (rmS τ0 (a + 1) L false op) := by
  have n60 : n ≤ 60 := hm.1
  have one : ((1 : Int32) = 0) = False := eq_false (by decide)
  have t0 : callD (E2 + 3) 146 [.ref 87, .int 42] (rmS τ0 a L false op) = _ := m_takes_y (E2 + 1) τ0 a n B (by omega) hm L op 42 an be
  simp only [s152_4, s152_5, s152_7_o87, s152_10, s152_13, s152_16, s152_19, s152_20, s152_22_o87, s152_25, s152_28, s152_31, s152_34, s152_35, s152_37_o87, s152_40, s152_43, s152_46, s152_49, s152_50, t0, one, simprocAttr, if_true, if_false, true_and, and_true, false_and, and_false, not_false_eq_true, not_true_eq_false, gd_T, kont_i, kont_v]
theorem sg_4_4_47 {τ0 : Hs} {n : Nat} {B : Nat → Nat} (hm : TPm τ0 n B) (E2 op a : Nat) (an : a < n) (be : B a = 47) (L : List Int32) (l1 : Value) : ru (E2 + 3) 152 4 [.ref 87, l1] [] (rmS τ0 a L false op) = ru (E2 + 3) 152 51 [.ref 87, .int 20008] [] (rmS τ0 (a + 1) L false op) := by
  have n60 : n ≤ 60 := hm.1
  have one : ((1 : Int32) = 0) = False := eq_false (by decide)
  have t0 : callD (E2 + 3) 146 [.ref 87, .int 42] (rmS τ0 a L false op) = _ := m_takes_n (E2 + 1) τ0 a n B (by omega) hm L op 42 (by omega) (fun q => by rw [be] at q; exact absurd q.2 (by decide))
  have t1 : callD (E2 + 3) 146 [.ref 87, .int 47] (rmS τ0 a L false op) = _ := m_takes_y (E2 + 1) τ0 a n B (by omega) hm L op 47 an be
  simp only [s152_4, s152_5, s152_7_o87, s152_10, s152_13, s152_16, s152_19, s152_20, s152_22_o87, s152_25, s152_28, s152_31, s152_34, s152_35, s152_37_o87, s152_40, s152_43, s152_46, s152_49, s152_50, t0, t1, one, simprocAttr, if_true, if_false, true_and, and_true, false_and, and_false, not_false_eq_true, not_true_eq_false, gd_T, kont_i, kont_v]
theorem sg_4_4_37 {τ0 : Hs} {n : Nat} {B : Nat → Nat} (hm : TPm τ0 n B) (E2 op a : Nat) (an : a < n) (be : B a = 37) (L : List Int32) (l1 : Value) : ru (E2 + 3) 152 4 [.ref 87, l1] [] (rmS τ0 a L false op) = ru (E2 + 3) 152 51 [.ref 87, .int 20009] [] (rmS τ0 (a + 1) L false op) := by
  have n60 : n ≤ 60 := hm.1
  have one : ((1 : Int32) = 0) = False := eq_false (by decide)
  have t0 : callD (E2 + 3) 146 [.ref 87, .int 42] (rmS τ0 a L false op) = _ := m_takes_n (E2 + 1) τ0 a n B (by omega) hm L op 42 (by omega) (fun q => by rw [be] at q; exact absurd q.2 (by decide))
  have t1 : callD (E2 + 3) 146 [.ref 87, .int 47] (rmS τ0 a L false op) = _ := m_takes_n (E2 + 1) τ0 a n B (by omega) hm L op 47 (by omega) (fun q => by rw [be] at q; exact absurd q.2 (by decide))
  have t2 : callD (E2 + 3) 146 [.ref 87, .int 37] (rmS τ0 a L false op) = _ := m_takes_y (E2 + 1) τ0 a n B (by omega) hm L op 37 an be
  simp only [s152_4, s152_5, s152_7_o87, s152_10, s152_13, s152_16, s152_19, s152_20, s152_22_o87, s152_25, s152_28, s152_31, s152_34, s152_35, s152_37_o87, s152_40, s152_43, s152_46, s152_49, s152_50, t0, t1, t2, one, simprocAttr, if_true, if_false, true_and, and_true, false_and, and_false, not_false_eq_true, not_true_eq_false, gd_T, kont_i, kont_v]
theorem sg_4_4_n {τ0 : Hs} {n : Nat} {B : Nat → Nat} (hm : TPm τ0 n B) (E2 op a : Nat) (ha : a ≤ n) (ne : ¬ (a < n ∧ (B a = 42 ∨ B a = 47 ∨ B a = 37))) (L : List Int32) (l1 : Value) : ru (E2 + 3) 152 4 [.ref 87, l1] [] (rmS τ0 a L false op) = some (none, rmS τ0 a L false op) := by
  have n60 : n ≤ 60 := hm.1
  have t0 : callD (E2 + 3) 146 [.ref 87, .int 42] (rmS τ0 a L false op) = _ := m_takes_n (E2 + 1) τ0 a n B (by omega) hm L op 42 (by omega) (fun q => ne ⟨q.1, by simp only [q.2]; omega⟩)
  have t1 : callD (E2 + 3) 146 [.ref 87, .int 47] (rmS τ0 a L false op) = _ := m_takes_n (E2 + 1) τ0 a n B (by omega) hm L op 47 (by omega) (fun q => ne ⟨q.1, by simp only [q.2]; omega⟩)
  have t2 : callD (E2 + 3) 146 [.ref 87, .int 37] (rmS τ0 a L false op) = _ := m_takes_n (E2 + 1) τ0 a n B (by omega) hm L op 37 (by omega) (fun q => ne ⟨q.1, by simp only [q.2]; omega⟩)
  simp only [s152_4, s152_5, s152_7_o87, s152_10, s152_13, s152_16, s152_19, s152_20, s152_22_o87, s152_25, s152_28, s152_31, s152_34, s152_35, s152_37_o87, s152_40, s152_43, s152_46, s152_49, s152_50, t0, t1, t2, simprocAttr, if_true, if_false, true_and, and_true, false_and, and_false, not_false_eq_true, not_true_eq_false, gd_T, kont_i, kont_v]
  simp only [s152_51]
  simp only [s152_52, s152_114, Int32.le_refl, simprocAttr, if_true, if_false, true_and, and_true, false_and, and_false, not_false_eq_true, not_true_eq_false, gd_T, kont_i, kont_v]
theorem sg_4_4_w {τ0 : Hs} (E2 op a : Nat) (ha : a ≤ 60) (L : List Int32) (l1 : Value) : ru (E2 + 3) 152 4 [.ref 87, l1] [] (rmS τ0 a L true op) = some (none, rmS τ0 a L true op) := by
  have t0 : callD (E2 + 3) 146 [.ref 87, .int 42] (rmS τ0 a L true op) = _ := m_takes_t (E2 + 1) τ0 a ha L op 42 (by omega)
  have t1 : callD (E2 + 3) 146 [.ref 87, .int 47] (rmS τ0 a L true op) = _ := m_takes_t (E2 + 1) τ0 a ha L op 47 (by omega)
  have t2 : callD (E2 + 3) 146 [.ref 87, .int 37] (rmS τ0 a L true op) = _ := m_takes_t (E2 + 1) τ0 a ha L op 37 (by omega)
  simp only [s152_4, s152_5, s152_7_o87, s152_10, s152_13, s152_16, s152_19, s152_20, s152_22_o87, s152_25, s152_28, s152_31, s152_34, s152_35, s152_37_o87, s152_40, s152_43, s152_46, s152_49, s152_50, t0, t1, t2, simprocAttr, if_true, if_false, true_and, and_true, false_and, and_false, not_false_eq_true, not_true_eq_false, gd_T, kont_i, kont_v]
  simp only [s152_51]
  simp only [s152_52, s152_114, Int32.le_refl, simprocAttr, if_true, if_false, true_and, and_true, false_and, and_false, not_false_eq_true, not_true_eq_false, gd_T, kont_i, kont_v]
theorem sg_4_64_42 {τ0 : Hs} {n : Nat} {B : Nat → Nat} (hm : TPm τ0 n B) (E2 op a : Nat) (an : a < n) (be : B a = 42) (L : List Int32) (l1 : Value) : ru (E2 + 3) 152 64 [.ref 87, l1] [] (rmS τ0 a L false op) = ru (E2 + 3) 152 51 [.ref 87, .int 20007] [] (rmS τ0 (a + 1) L false op) := by
  have n60 : n ≤ 60 := hm.1
  have one : ((1 : Int32) = 0) = False := eq_false (by decide)
  have t0 : callD (E2 + 3) 146 [.ref 87, .int 42] (rmS τ0 a L false op) = _ := m_takes_y (E2 + 1) τ0 a n B (by omega) hm L op 42 an be
  simp only [s152_64, s152_65, s152_67_o87, s152_70, s152_73, s152_76, s152_79, s152_80, s152_82_o87, s152_85, s152_88, s152_91, s152_94, s152_95, s152_97_o87, s152_100, s152_103, s152_106, s152_109, s152_110, t0, s152_111, one, simprocAttr, if_true, if_false, true_and, and_true, false_and, and_false, not_false_eq_true, not_true_eq_false, gd_T, kont_i, kont_v]
theorem sg_4_64_47 {τ0 : Hs} {n : Nat} {B : Nat → Nat} (hm : TPm τ0 n B) (E2 op a : Nat) (an : a < n) (be : B a = 47) (L : List Int32) (l1 : Value) : ru (E2 + 3) 152 64 [.ref 87, l1] [] (rmS τ0 a L false op) = ru (E2 + 3) 152 51 [.ref 87, .int 20008] [] (rmS τ0 (a + 1) L false op) := by
  have n60 : n ≤ 60 := hm.1
  have one : ((1 : Int32) = 0) = False := eq_false (by decide)
  have t0 : callD (E2 + 3) 146 [.ref 87, .int 42] (rmS τ0 a L false op) = _ := m_takes_n (E2 + 1) τ0 a n B (by omega) hm L op 42 (by omega) (fun q => by rw [be] at q; exact absurd q.2 (by decide))
  have t1 : callD (E2 + 3) 146 [.ref 87, .int 47] (rmS τ0 a L false op) = _ := m_takes_y (E2 + 1) τ0 a n B (by omega) hm L op 47 an be
  simp only [s152_64, s152_65, s152_67_o87, s152_70, s152_73, s152_76, s152_79, s152_80, s152_82_o87, s152_85, s152_88, s152_91, s152_94, s152_95, s152_97_o87, s152_100, s152_103, s152_106, s152_109, s152_110, t0, t1, s152_111, one, simprocAttr, if_true, if_false, true_and, and_true, false_and, and_false, not_false_eq_true, not_true_eq_false, gd_T, kont_i, kont_v]
theorem sg_4_64_37 {τ0 : Hs} {n : Nat} {B : Nat → Nat} (hm : TPm τ0 n B) (E2 op a : Nat) (an : a < n) (be : B a = 37) (L : List Int32) (l1 : Value) : ru (E2 + 3) 152 64 [.ref 87, l1] [] (rmS τ0 a L false op) = ru (E2 + 3) 152 51 [.ref 87, .int 20009] [] (rmS τ0 (a + 1) L false op) := by
  have n60 : n ≤ 60 := hm.1
  have one : ((1 : Int32) = 0) = False := eq_false (by decide)
  have t0 : callD (E2 + 3) 146 [.ref 87, .int 42] (rmS τ0 a L false op) = _ := m_takes_n (E2 + 1) τ0 a n B (by omega) hm L op 42 (by omega) (fun q => by rw [be] at q; exact absurd q.2 (by decide))
  have t1 : callD (E2 + 3) 146 [.ref 87, .int 47] (rmS τ0 a L false op) = _ := m_takes_n (E2 + 1) τ0 a n B (by omega) hm L op 47 (by omega) (fun q => by rw [be] at q; exact absurd q.2 (by decide))
  have t2 : callD (E2 + 3) 146 [.ref 87, .int 37] (rmS τ0 a L false op) = _ := m_takes_y (E2 + 1) τ0 a n B (by omega) hm L op 37 an be
  simp only [s152_64, s152_65, s152_67_o87, s152_70, s152_73, s152_76, s152_79, s152_80, s152_82_o87, s152_85, s152_88, s152_91, s152_94, s152_95, s152_97_o87, s152_100, s152_103, s152_106, s152_109, s152_110, t0, t1, t2, s152_111, one, simprocAttr, if_true, if_false, true_and, and_true, false_and, and_false, not_false_eq_true, not_true_eq_false, gd_T, kont_i, kont_v]
theorem sg_4_64_n {τ0 : Hs} {n : Nat} {B : Nat → Nat} (hm : TPm τ0 n B) (E2 op a : Nat) (ha : a ≤ n) (ne : ¬ (a < n ∧ (B a = 42 ∨ B a = 47 ∨ B a = 37))) (L : List Int32) (l1 : Value) : ru (E2 + 3) 152 64 [.ref 87, l1] [] (rmS τ0 a L false op) = some (none, rmS τ0 a L false op) := by
  have n60 : n ≤ 60 := hm.1
  have t0 : callD (E2 + 3) 146 [.ref 87, .int 42] (rmS τ0 a L false op) = _ := m_takes_n (E2 + 1) τ0 a n B (by omega) hm L op 42 (by omega) (fun q => ne ⟨q.1, by simp only [q.2]; omega⟩)
  have t1 : callD (E2 + 3) 146 [.ref 87, .int 47] (rmS τ0 a L false op) = _ := m_takes_n (E2 + 1) τ0 a n B (by omega) hm L op 47 (by omega) (fun q => ne ⟨q.1, by simp only [q.2]; omega⟩)
  have t2 : callD (E2 + 3) 146 [.ref 87, .int 37] (rmS τ0 a L false op) = _ := m_takes_n (E2 + 1) τ0 a n B (by omega) hm L op 37 (by omega) (fun q => ne ⟨q.1, by simp only [q.2]; omega⟩)
  simp only [s152_64, s152_65, s152_67_o87, s152_70, s152_73, s152_76, s152_79, s152_80, s152_82_o87, s152_85, s152_88, s152_91, s152_94, s152_95, s152_97_o87, s152_100, s152_103, s152_106, s152_109, s152_110, t0, t1, t2, s152_111, simprocAttr, if_true, if_false, true_and, and_true, false_and, and_false, not_false_eq_true, not_true_eq_false, gd_T, kont_i, kont_v]
  simp only [s152_51]
  simp only [s152_52, s152_114, Int32.le_refl, simprocAttr, if_true, if_false, true_and, and_true, false_and, and_false, not_false_eq_true, not_true_eq_false, gd_T, kont_i, kont_v]
theorem sg_4_64_w {τ0 : Hs} (E2 op a : Nat) (ha : a ≤ 60) (L : List Int32) (l1 : Value) : ru (E2 + 3) 152 64 [.ref 87, l1] [] (rmS τ0 a L true op) = some (none, rmS τ0 a L true op) := by
  have t0 : callD (E2 + 3) 146 [.ref 87, .int 42] (rmS τ0 a L true op) = _ := m_takes_t (E2 + 1) τ0 a ha L op 42 (by omega)
  have t1 : callD (E2 + 3) 146 [.ref 87, .int 47] (rmS τ0 a L true op) = _ := m_takes_t (E2 + 1) τ0 a ha L op 47 (by omega)
  have t2 : callD (E2 + 3) 146 [.ref 87, .int 37] (rmS τ0 a L true op) = _ := m_takes_t (E2 + 1) τ0 a ha L op 37 (by omega)
  simp only [s152_64, s152_65, s152_67_o87, s152_70, s152_73, s152_76, s152_79, s152_80, s152_82_o87, s152_85, s152_88, s152_91, s152_94, s152_95, s152_97_o87, s152_100, s152_103, s152_106, s152_109, s152_110, t0, t1, t2, s152_111, simprocAttr, if_true, if_false, true_and, and_true, false_and, and_false, not_false_eq_true, not_true_eq_false, gd_T, kont_i, kont_v]
  simp only [s152_51]
  simp only [s152_52, s152_114, Int32.le_refl, simprocAttr, if_true, if_false, true_and, and_true, false_and, and_false, not_false_eq_true, not_true_eq_false, gd_T, kont_i, kont_v]
