/-! ===== text: levels 3 and 4 ===== -/
theorem sg_3_4_43 {τ0 : Hs} {n : Nat} {B : Nat → Nat} (hm : TPm τ0 n B) (E2 op a : Nat) (an : a < n) (be : B a = 43) (L : List Int32) (l1 : Value) : ru (E2 + 3) 150 4 [.ref 87, l1] [] (rmS τ0 a L false op) = ru (E2 + 3) 150 36 [.ref 87, .int 20005] [] (rmS τ0 (a + 1) L false op) := by
  have n60 : n ≤ 60 := hm.1
  have one : ((1 : Int32) = 0) = False := eq_false (by decide)
  have t0 : callD (E2 + 3) 145 [.ref 87, .int 43] (rmS τ0 a L false op) = _ := m_takes_y (E2 + 1) τ0 a n B (by omega) hm L op 43 an be
  simp only [s150_4, s150_5, s150_7_o87, s150_10, s150_13, s150_16, s150_19, s150_20, s150_22_o87, s150_25, s150_28, s150_31, s150_34, s150_35, t0, one, simprocAttr, if_true, if_false, true_and, and_true, false_and, and_false, not_false_eq_true, not_true_eq_false, gd_T, kont_i, kont_v]
theorem sg_3_4_45 {τ0 : Hs} {n : Nat} {B : Nat → Nat} (hm : TPm τ0 n B) (E2 op a : Nat) (an : a < n) (be : B a = 45) (L : List Int32) (l1 : Value) : ru (E2 + 3) 150 4 [.ref 87, l1] [] (rmS τ0 a L false op) = ru (E2 + 3) 150 36 [.ref 87, .int 20006] [] (rmS τ0 (a + 1) L false op) := by
  have n60 : n ≤ 60 := hm.1
  have one : ((1 : Int32) = 0) = False := eq_false (by decide)
  have t0 : callD (E2 + 3) 145 [.ref 87, .int 43] (rmS τ0 a L false op) = _ := m_takes_n (E2 + 1) τ0 a n B (by omega) hm L op 43 (by omega) (fun q => by rw [be] at q; exact absurd q.2 (by decide))
  have t1 : callD (E2 + 3) 145 [.ref 87, .int 45] (rmS τ0 a L false op) = _ := m_takes_y (E2 + 1) τ0 a n B (by omega) hm L op 45 an be
  simp only [s150_4, s150_5, s150_7_o87, s150_10, s150_13, s150_16, s150_19, s150_20, s150_22_o87, s150_25, s150_28, s150_31, s150_34, s150_35, t0, t1, one, simprocAttr, if_true, if_false, true_and, and_true, false_and, and_false, not_false_eq_true, not_true_eq_false, gd_T, kont_i, kont_v]
theorem sg_3_4_n {τ0 : Hs} {n : Nat} {B : Nat → Nat} (hm : TPm τ0 n B) (E2 op a : Nat) (ha : a ≤ n) (ne : ¬ (a < n ∧ (B a = 43 ∨ B a = 45))) (L : List Int32) (l1 : Value) : ru (E2 + 3) 150 4 [.ref 87, l1] [] (rmS τ0 a L false op) = some (none, rmS τ0 a L false op) := by
  have n60 : n ≤ 60 := hm.1
  have t0 : callD (E2 + 3) 145 [.ref 87, .int 43] (rmS τ0 a L false op) = _ := m_takes_n (E2 + 1) τ0 a n B (by omega) hm L op 43 (by omega) (fun q => ne ⟨q.1, by simp only [q.2]; omega⟩)
  have t1 : callD (E2 + 3) 145 [.ref 87, .int 45] (rmS τ0 a L false op) = _ := m_takes_n (E2 + 1) τ0 a n B (by omega) hm L op 45 (by omega) (fun q => ne ⟨q.1, by simp only [q.2]; omega⟩)
  simp only [s150_4, s150_5, s150_7_o87, s150_10, s150_13, s150_16, s150_19, s150_20, s150_22_o87, s150_25, s150_28, s150_31, s150_34, s150_35, t0, t1, simprocAttr, if_true, if_false, true_and, and_true, false_and, and_false, not_false_eq_true, not_true_eq_false, gd_T, kont_i, kont_v]
  simp only [s150_36]
  simp only [s150_37, s150_84, Int32.le_refl, simprocAttr, if_true, if_false, true_and, and_true, false_and, and_false, not_false_eq_true, not_true_eq_false, gd_T, kont_i, kont_v]
theorem sg_3_4_w {τ0 : Hs} (E2 op a : Nat) (ha : a ≤ 60) (L : List Int32) (l1 : Value) : ru (E2 + 3) 150 4 [.ref 87, l1] [] (rmS τ0 a L true op) = some (none, rmS τ0 a L true op) := by
  have t0 : callD (E2 + 3) 145 [.ref 87, .int 43] (rmS τ0 a L true op) = _ := m_takes_t (E2 + 1) τ0 a ha L op 43 (by omega)
  have t1 : callD (E2 + 3) 145 [.ref 87, .int 45] (rmS τ0 a L true op) = _ := m_takes_t (E2 + 1) τ0 a ha L op 45 (by omega)
  simp only [s150_4, s150_5, s150_7_o87, s150_10, s150_13, s150_16, s150_19, s150_20, s150_22_o87, s150_25, s150_28, s150_31, s150_34, s150_35, t0, t1, simprocAttr, if_true, if_false, true_and, and_true, false_and, and_false, not_false_eq_true, not_true_eq_false, gd_T, kont_i, kont_v]
  simp only [s150_36]
  simp only [s150_37, s150_84, Int32.le_refl, simprocAttr, if_true, if_false, true_and, and_true, false_and, and_false, not_false_eq_true, not_true_eq_false, gd_T, kont_i, kont_v]
theorem sg_3_49_43 {τ0 : Hs} {n : Nat} {B : Nat → Nat} (hm : TPm τ0 n B) (E2 op a : Nat) (an : a < n) (be : B a = 43) (L : List Int32) (l1 : Value) : ru (E2 + 3) 150 49 [.ref 87, l1] [] (rmS τ0 a L false op) = ru (E2 + 3) 150 36 [.ref 87, .int 20005] [] (rmS τ0 (a + 1) L false op) := by
  have n60 : n ≤ 60 := hm.1
  have one : ((1 : Int32) = 0) = False := eq_false (by decide)
  have t0 : callD (E2 + 3) 145 [.ref 87, .int 43] (rmS τ0 a L false op) = _ := m_takes_y (E2 + 1) τ0 a n B (by omega) hm L op 43 an be
  simp only [s150_49, s150_50, s150_52_o87, s150_55, s150_58, s150_61, s150_64, s150_65, s150_67_o87, s150_70, s150_73, s150_76, s150_79, s150_80, t0, s150_81, one, simprocAttr, if_true, if_false, true_and, and_true, false_and, and_false, not_false_eq_true, not_true_eq_false, gd_T, kont_i, kont_v]
theorem sg_3_49_45 {τ0 : Hs} {n : Nat} {B : Nat → Nat} (hm : TPm τ0 n B) (E2 op a : Nat) (an : a < n) (be : B a = 45) (L : List Int32) (l1 : Value) : ru (E2 + 3) 150 49 [.ref 87, l1] [] (rmS τ0 a L false op) = ru (E2 + 3) 150 36 [.ref 87, .int 20006] [] (rmS τ0 (a + 1) L false op) := by
  have n60 : n ≤ 60 := hm.1
  have one : ((1 : Int32) = 0) = False := eq_false (by decide)
  have t0 : callD (E2 + 3) 145 [.ref 87, .int 43] (rmS τ0 a L false op) = _ := m_takes_n (E2 + 1) τ0 a n B (by omega) hm L op 43 (by omega) (fun q => by rw [be] at q; exact absurd q.2 (by decide))
  have t1 : callD (E2 + 3) 145 [.ref 87, .int 45] (rmS τ0 a L false op) = _ := m_takes_y (E2 + 1) τ0 a n B (by omega) hm L op 45 an be
  simp only [s150_49, s150_50, s150_52_o87, s150_55, s150_58, s150_61, s150_64, s150_65, s150_67_o87, s150_70, s150_73, s150_76, s150_79, s150_80, t0, t1, s150_81, one, simprocAttr, if_true, if_false, true_and, and_true, false_and, and_false, not_false_eq_true, not_true_eq_false, gd_T, kont_i, kont_v]
theorem sg_3_49_n {τ0 : Hs} {n : Nat} {B : Nat → Nat} (hm : TPm τ0 n B) (E2 op a : Nat) (ha : a ≤ n) (ne : ¬ (a < n ∧ (B a = 43 ∨ B a = 45))) (L : List Int32) (l1 : Value) : ru (E2 + 3) 150 49 [.ref 87, l1] [] (rmS τ0 a L false op) = some (none, rmS τ0 a L false op) := by
  have n60 : n ≤ 60 := hm.1
  have t0 : callD (E2 + 3) 145 [.ref 87, .int 43] (rmS τ0 a L false op) = _ := m_takes_n (E2 + 1) τ0 a n B (by omega) hm L op 43 (by omega) (fun q => ne ⟨q.1, by simp only [q.2]; omega⟩)
  have t1 : callD (E2 + 3) 145 [.ref 87, .int 45] (rmS τ0 a L false op) = _ := m_takes_n (E2 + 1) τ0 a n B (by omega) hm L op 45 (by omega) (fun q => ne ⟨q.1, by simp only [q.2]; omega⟩)
  simp only [s150_49, s150_50, s150_52_o87, s150_55, s150_58, s150_61, s150_64, s150_65, s150_67_o87, s150_70, s150_73, s150_76, s150_79, s150_80, t0, t1, s150_81, simprocAttr, if_true, if_false, true_and, and_true, false_and, and_false, not_false_eq_true, not_true_eq_false, gd_T, kont_i, kont_v]
  simp only [s150_36]
  simp only [s150_37, s150_84, Int32.le_refl, simprocAttr, if_true, if_false, true_and, and_true, false_and, and_false, not_false_eq_true, not_true_eq_false, gd_T, kont_i, kont_v]
theorem sg_3_49_w {τ0 : Hs} (E2 op a : Nat) (ha : a ≤ 60) (L : List Int32) (l1 : Value) : ru (E2 + 3) 150 49 [.ref 87, l1] [] (rmS τ0 a L true op) = some (none, rmS τ0 a L true op) := by
  have t0 : callD (E2 + 3) 145 [.ref 87, .int 43] (rmS τ0 a L true op) = _ := m_takes_t (E2 + 1) τ0 a ha L op 43 (by omega)
  have t1 : callD (E2 + 3) 145 [.ref 87, .int 45] (rmS τ0 a L true op) = _ := m_takes_t (E2 + 1) τ0 a ha L op 45 (by omega)
  simp only [s150_49, s150_50, s150_52_o87, s150_55, s150_58, s150_61, s150_64, s150_65, s150_67_o87, s150_70, s150_73, s150_76, s150_79, s150_80, t0, t1, s150_81, simprocAttr, if_true, if_false, true_and, and_true, false_and, and_false, not_false_eq_true, not_true_eq_false, gd_T, kont_i, kont_v]
  simp only [s150_36]
  simp only [s150_37, s150_84, Int32.le_refl, simprocAttr, if_true, if_false, true_and, and_true, false_and, and_false, not_false_eq_true, not_true_eq_false, gd_T, kont_i, kont_v]
theorem sg_4_4_42 {τ0 : Hs} {n : Nat} {B : Nat → Nat} (hm : TPm τ0 n B) (E2 op a : Nat) (an : a < n) (be : B a = 42) (L : List Int32) (l1 : Value) : ru (E2 + 3) 151 4 [.ref 87, l1] [] (rmS τ0 a L false op) = ru (E2 + 3) 151 51 [.ref 87, .int 20007] [] (rmS τ0 (a + 1) L false op) := by
  have n60 : n ≤ 60 := hm.1
  have one : ((1 : Int32) = 0) = False := eq_false (by decide)
  have t0 : callD (E2 + 3) 145 [.ref 87, .int 42] (rmS τ0 a L false op) = _ := m_takes_y (E2 + 1) τ0 a n B (by omega) hm L op 42 an be
  simp only [s151_4, s151_5, s151_7_o87, s151_10, s151_13, s151_16, s151_19, s151_20, s151_22_o87, s151_25, s151_28, s151_31, s151_34, s151_35, s151_37_o87, s151_40, s151_43, s151_46, s151_49, s151_50, t0, one, simprocAttr, if_true, if_false, true_and, and_true, false_and, and_false, not_false_eq_true, not_true_eq_false, gd_T, kont_i, kont_v]
theorem sg_4_4_47 {τ0 : Hs} {n : Nat} {B : Nat → Nat} (hm : TPm τ0 n B) (E2 op a : Nat) (an : a < n) (be : B a = 47) (L : List Int32) (l1 : Value) : ru (E2 + 3) 151 4 [.ref 87, l1] [] (rmS τ0 a L false op) = ru (E2 + 3) 151 51 [.ref 87, .int 20008] [] (rmS τ0 (a + 1) L false op) := by
  have n60 : n ≤ 60 := hm.1
  have one : ((1 : Int32) = 0) = False := eq_false (by decide)
  have t0 : callD (E2 + 3) 145 [.ref 87, .int 42] (rmS τ0 a L false op) = _ := m_takes_n (E2 + 1) τ0 a n B (by omega) hm L op 42 (by omega) (fun q => by rw [be] at q; exact absurd q.2 (by decide))
  have t1 : callD (E2 + 3) 145 [.ref 87, .int 47] (rmS τ0 a L false op) = _ := m_takes_y (E2 + 1) τ0 a n B (by omega) hm L op 47 an be
  simp only [s151_4, s151_5, s151_7_o87, s151_10, s151_13, s151_16, s151_19, s151_20, s151_22_o87, s151_25, s151_28, s151_31, s151_34, s151_35, s151_37_o87, s151_40, s151_43, s151_46, s151_49, s151_50, t0, t1, one, simprocAttr, if_true, if_false, true_and, and_true, false_and, and_false, not_false_eq_true, not_true_eq_false, gd_T, kont_i, kont_v]
theorem sg_4_4_37 {τ0 : Hs} {n : Nat} {B : Nat → Nat} (hm : TPm τ0 n B) (E2 op a : Nat) (an : a < n) (be : B a = 37) (L : List Int32) (l1 : Value) : ru (E2 + 3) 151 4 [.ref 87, l1] [] (rmS τ0 a L false op) = ru (E2 + 3) 151 51 [.ref 87, .int 20009] [] (rmS τ0 (a + 1) L false op) := by
  have n60 : n ≤ 60 := hm.1
  have one : ((1 : Int32) = 0) = False := eq_false (by decide)
  have t0 : callD (E2 + 3) 145 [.ref 87, .int 42] (rmS τ0 a L false op) = _ := m_takes_n (E2 + 1) τ0 a n B (by omega) hm L op 42 (by omega) (fun q => by rw [be] at q; exact absurd q.2 (by decide))
  have t1 : callD (E2 + 3) 145 [.ref 87, .int 47] (rmS τ0 a L false op) = _ := m_takes_n (E2 + 1) τ0 a n B (by omega) hm L op 47 (by omega) (fun q => by rw [be] at q; exact absurd q.2 (by decide))
  have t2 : callD (E2 + 3) 145 [.ref 87, .int 37] (rmS τ0 a L false op) = _ := m_takes_y (E2 + 1) τ0 a n B (by omega) hm L op 37 an be
  simp only [s151_4, s151_5, s151_7_o87, s151_10, s151_13, s151_16, s151_19, s151_20, s151_22_o87, s151_25, s151_28, s151_31, s151_34, s151_35, s151_37_o87, s151_40, s151_43, s151_46, s151_49, s151_50, t0, t1, t2, one, simprocAttr, if_true, if_false, true_and, and_true, false_and, and_false, not_false_eq_true, not_true_eq_false, gd_T, kont_i, kont_v]
theorem sg_4_4_n {τ0 : Hs} {n : Nat} {B : Nat → Nat} (hm : TPm τ0 n B) (E2 op a : Nat) (ha : a ≤ n) (ne : ¬ (a < n ∧ (B a = 42 ∨ B a = 47 ∨ B a = 37))) (L : List Int32) (l1 : Value) : ru (E2 + 3) 151 4 [.ref 87, l1] [] (rmS τ0 a L false op) = some (none, rmS τ0 a L false op) := by
  have n60 : n ≤ 60 := hm.1
  have t0 : callD (E2 + 3) 145 [.ref 87, .int 42] (rmS τ0 a L false op) = _ := m_takes_n (E2 + 1) τ0 a n B (by omega) hm L op 42 (by omega) (fun q => ne ⟨q.1, by simp only [q.2]; omega⟩)
  have t1 : callD (E2 + 3) 145 [.ref 87, .int 47] (rmS τ0 a L false op) = _ := m_takes_n (E2 + 1) τ0 a n B (by omega) hm L op 47 (by omega) (fun q => ne ⟨q.1, by simp only [q.2]; omega⟩)
  have t2 : callD (E2 + 3) 145 [.ref 87, .int 37] (rmS τ0 a L false op) = _ := m_takes_n (E2 + 1) τ0 a n B (by omega) hm L op 37 (by omega) (fun q => ne ⟨q.1, by simp only [q.2]; omega⟩)
  simp only [s151_4, s151_5, s151_7_o87, s151_10, s151_13, s151_16, s151_19, s151_20, s151_22_o87, s151_25, s151_28, s151_31, s151_34, s151_35, s151_37_o87, s151_40, s151_43, s151_46, s151_49, s151_50, t0, t1, t2, simprocAttr, if_true, if_false, true_and, and_true, false_and, and_false, not_false_eq_true, not_true_eq_false, gd_T, kont_i, kont_v]
  simp only [s151_51]
  simp only [s151_52, s151_114, Int32.le_refl, simprocAttr, if_true, if_false, true_and, and_true, false_and, and_false, not_false_eq_true, not_true_eq_false, gd_T, kont_i, kont_v]
theorem sg_4_4_w {τ0 : Hs} (E2 op a : Nat) (ha : a ≤ 60) (L : List Int32) (l1 : Value) : ru (E2 + 3) 151 4 [.ref 87, l1] [] (rmS τ0 a L true op) = some (none, rmS τ0 a L true op) := by
  have t0 : callD (E2 + 3) 145 [.ref 87, .int 42] (rmS τ0 a L true op) = _ := m_takes_t (E2 + 1) τ0 a ha L op 42 (by omega)
  have t1 : callD (E2 + 3) 145 [.ref 87, .int 47] (rmS τ0 a L true op) = _ := m_takes_t (E2 + 1) τ0 a ha L op 47 (by omega)
  have t2 : callD (E2 + 3) 145 [.ref 87, .int 37] (rmS τ0 a L true op) = _ := m_takes_t (E2 + 1) τ0 a ha L op 37 (by omega)
  simp only [s151_4, s151_5, s151_7_o87, s151_10, s151_13, s151_16, s151_19, s151_20, s151_22_o87, s151_25, s151_28, s151_31, s151_34, s151_35, s151_37_o87, s151_40, s151_43, s151_46, s151_49, s151_50, t0, t1, t2, simprocAttr, if_true, if_false, true_and, and_true, false_and, and_false, not_false_eq_true, not_true_eq_false, gd_T, kont_i, kont_v]
  simp only [s151_51]
  simp only [s151_52, s151_114, Int32.le_refl, simprocAttr, if_true, if_false, true_and, and_true, false_and, and_false, not_false_eq_true, not_true_eq_false, gd_T, kont_i, kont_v]
theorem sg_4_64_42 {τ0 : Hs} {n : Nat} {B : Nat → Nat} (hm : TPm τ0 n B) (E2 op a : Nat) (an : a < n) (be : B a = 42) (L : List Int32) (l1 : Value) : ru (E2 + 3) 151 64 [.ref 87, l1] [] (rmS τ0 a L false op) = ru (E2 + 3) 151 51 [.ref 87, .int 20007] [] (rmS τ0 (a + 1) L false op) := by
  have n60 : n ≤ 60 := hm.1
  have one : ((1 : Int32) = 0) = False := eq_false (by decide)
  have t0 : callD (E2 + 3) 145 [.ref 87, .int 42] (rmS τ0 a L false op) = _ := m_takes_y (E2 + 1) τ0 a n B (by omega) hm L op 42 an be
  simp only [s151_64, s151_65, s151_67_o87, s151_70, s151_73, s151_76, s151_79, s151_80, s151_82_o87, s151_85, s151_88, s151_91, s151_94, s151_95, s151_97_o87, s151_100, s151_103, s151_106, s151_109, s151_110, t0, s151_111, one, simprocAttr, if_true, if_false, true_and, and_true, false_and, and_false, not_false_eq_true, not_true_eq_false, gd_T, kont_i, kont_v]
theorem sg_4_64_47 {τ0 : Hs} {n : Nat} {B : Nat → Nat} (hm : TPm τ0 n B) (E2 op a : Nat) (an : a < n) (be : B a = 47) (L : List Int32) (l1 : Value) : ru (E2 + 3) 151 64 [.ref 87, l1] [] (rmS τ0 a L false op) = ru (E2 + 3) 151 51 [.ref 87, .int 20008] [] (rmS τ0 (a + 1) L false op) := by
  have n60 : n ≤ 60 := hm.1
  have one : ((1 : Int32) = 0) = False := eq_false (by decide)
  have t0 : callD (E2 + 3) 145 [.ref 87, .int 42] (rmS τ0 a L false op) = _ := m_takes_n (E2 + 1) τ0 a n B (by omega) hm L op 42 (by omega) (fun q => by rw [be] at q; exact absurd q.2 (by decide))
  have t1 : callD (E2 + 3) 145 [.ref 87, .int 47] (rmS τ0 a L false op) = _ := m_takes_y (E2 + 1) τ0 a n B (by omega) hm L op 47 an be
  simp only [s151_64, s151_65, s151_67_o87, s151_70, s151_73, s151_76, s151_79, s151_80, s151_82_o87, s151_85, s151_88, s151_91, s151_94, s151_95, s151_97_o87, s151_100, s151_103, s151_106, s151_109, s151_110, t0, t1, s151_111, one, simprocAttr, if_true, if_false, true_and, and_true, false_and, and_false, not_false_eq_true, not_true_eq_false, gd_T, kont_i, kont_v]
theorem sg_4_64_37 {τ0 : Hs} {n : Nat} {B : Nat → Nat} (hm : TPm τ0 n B) (E2 op a : Nat) (an : a < n) (be : B a = 37) (L : List Int32) (l1 : Value) : ru (E2 + 3) 151 64 [.ref 87, l1] [] (rmS τ0 a L false op) = ru (E2 + 3) 151 51 [.ref 87, .int 20009] [] (rmS τ0 (a + 1) L false op) := by
  have n60 : n ≤ 60 := hm.1
  have one : ((1 : Int32) = 0) = False := eq_false (by decide)
  have t0 : callD (E2 + 3) 145 [.ref 87, .int 42] (rmS τ0 a L false op) = _ := m_takes_n (E2 + 1) τ0 a n B (by omega) hm L op 42 (by omega) (fun q => by rw [be] at q; exact absurd q.2 (by decide))
  have t1 : callD (E2 + 3) 145 [.ref 87, .int 47] (rmS τ0 a L false op) = _ := m_takes_n (E2 + 1) τ0 a n B (by omega) hm L op 47 (by omega) (fun q => by rw [be] at q; exact absurd q.2 (by decide))
  have t2 : callD (E2 + 3) 145 [.ref 87, .int 37] (rmS τ0 a L false op) = _ := m_takes_y (E2 + 1) τ0 a n B (by omega) hm L op 37 an be
  simp only [s151_64, s151_65, s151_67_o87, s151_70, s151_73, s151_76, s151_79, s151_80, s151_82_o87, s151_85, s151_88, s151_91, s151_94, s151_95, s151_97_o87, s151_100, s151_103, s151_106, s151_109, s151_110, t0, t1, t2, s151_111, one, simprocAttr, if_true, if_false, true_and, and_true, false_and, and_false, not_false_eq_true, not_true_eq_false, gd_T, kont_i, kont_v]
theorem sg_4_64_n {τ0 : Hs} {n : Nat} {B : Nat → Nat} (hm : TPm τ0 n B) (E2 op a : Nat) (ha : a ≤ n) (ne : ¬ (a < n ∧ (B a = 42 ∨ B a = 47 ∨ B a = 37))) (L : List Int32) (l1 : Value) : ru (E2 + 3) 151 64 [.ref 87, l1] [] (rmS τ0 a L false op) = some (none, rmS τ0 a L false op) := by
  have n60 : n ≤ 60 := hm.1
  have t0 : callD (E2 + 3) 145 [.ref 87, .int 42] (rmS τ0 a L false op) = _ := m_takes_n (E2 + 1) τ0 a n B (by omega) hm L op 42 (by omega) (fun q => ne ⟨q.1, by simp only [q.2]; omega⟩)
  have t1 : callD (E2 + 3) 145 [.ref 87, .int 47] (rmS τ0 a L false op) = _ := m_takes_n (E2 + 1) τ0 a n B (by omega) hm L op 47 (by omega) (fun q => ne ⟨q.1, by simp only [q.2]; omega⟩)
  have t2 : callD (E2 + 3) 145 [.ref 87, .int 37] (rmS τ0 a L false op) = _ := m_takes_n (E2 + 1) τ0 a n B (by omega) hm L op 37 (by omega) (fun q => ne ⟨q.1, by simp only [q.2]; omega⟩)
  simp only [s151_64, s151_65, s151_67_o87, s151_70, s151_73, s151_76, s151_79, s151_80, s151_82_o87, s151_85, s151_88, s151_91, s151_94, s151_95, s151_97_o87, s151_100, s151_103, s151_106, s151_109, s151_110, t0, t1, t2, s151_111, simprocAttr, if_true, if_false, true_and, and_true, false_and, and_false, not_false_eq_true, not_true_eq_false, gd_T, kont_i, kont_v]
  simp only [s151_51]
  simp only [s151_52, s151_114, Int32.le_refl, simprocAttr, if_true, if_false, true_and, and_true, false_and, and_false, not_false_eq_true, not_true_eq_false, gd_T, kont_i, kont_v]
theorem sg_4_64_w {τ0 : Hs} (E2 op a : Nat) (ha : a ≤ 60) (L : List Int32) (l1 : Value) : ru (E2 + 3) 151 64 [.ref 87, l1] [] (rmS τ0 a L true op) = some (none, rmS τ0 a L true op) := by
  have t0 : callD (E2 + 3) 145 [.ref 87, .int 42] (rmS τ0 a L true op) = _ := m_takes_t (E2 + 1) τ0 a ha L op 42 (by omega)
  have t1 : callD (E2 + 3) 145 [.ref 87, .int 47] (rmS τ0 a L true op) = _ := m_takes_t (E2 + 1) τ0 a ha L op 47 (by omega)
  have t2 : callD (E2 + 3) 145 [.ref 87, .int 37] (rmS τ0 a L true op) = _ := m_takes_t (E2 + 1) τ0 a ha L op 37 (by omega)
  simp only [s151_64, s151_65, s151_67_o87, s151_70, s151_73, s151_76, s151_79, s151_80, s151_82_o87, s151_85, s151_88, s151_91, s151_94, s151_95, s151_97_o87, s151_100, s151_103, s151_106, s151_109, s151_110, t0, t1, t2, s151_111, simprocAttr, if_true, if_false, true_and, and_true, false_and, and_false, not_false_eq_true, not_true_eq_false, gd_T, kont_i, kont_v]
  simp only [s151_51]
  simp only [s151_52, s151_114, Int32.le_refl, simprocAttr, if_true, if_false, true_and, and_true, false_and, and_false, not_false_eq_true, not_true_eq_false, gd_T, kont_i, kont_v]
