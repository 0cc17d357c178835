/-! ===== reach: the model's run, and the call ===== -/
theorem m_side (d p0 p s r w : Nat) (hp : p < 30) (hs : s < 4) (hw : w < 1073741824) (σ : Hs) (l6 : Value) (ht : w.testBit p = true) : ru (d + 2) 189 55 [.ref 87, .int (nI p0), .int (nI r), .int (nI w), .int (nI p), .int (nI s), l6] [] σ = ru (d + 2) 189 55 [.ref 87, .int (nI p0), .int (nI (sdN (AoT (σ 88)) p s r)), .int (nI w), .int (nI p), .int (nI (s + 1)), .int (besI p s)] [] σ := by
  have e : ((4 : Int32) ≤ nI s) = False := by rw [show (4 : Int32) = nI 4 from rfl, le_nn (by omega) (by omega)]; exact eq_false (by omega)
  have hb : callD (d + 2) 113 [.int (nI w), .int (nI p)] σ = some (some (.int 1), σ) := by
    rw [m_has, b2_T (by rw [bit_b (by omega) (by omega)]; exact ht)]
  have he := m_beside (d + 1) p s hp hs σ
  have n1 := nI_1 s
  have one : ((1 : Int32) = 0) = False := eq_false (by decide)
  have zer : ((0 : Int32) = 0) = True := eq_true rfl
  generalize hR : ru (d + 2) 189 55 [.ref 87, .int (nI p0), .int (nI (sdN (AoT (σ 88)) p s r)), .int (nI w), .int (nI p), .int (nI (s + 1)), .int (besI p s)] [] σ = R
  simp only [s189_55]
  simp only [s189_57, s189_58, s189_61, s189_62, s189_64, s189_67, s189_70, s189_72, s189_74, s189_77, s189_79, s189_80, s189_82, s189_85, s189_86, s189_88_o87, s189_91, s189_94, s189_95, s189_97, s189_98, s189_101, s189_102, s189_103, s189_104, s189_107, e, hb, he, n1, one, simprocAttr, if_true, if_false, true_and, and_true, false_and, and_false, not_false_eq_true, not_true_eq_false, gd_T, kont_i, kont_v]
  unfold sdN at hR
  cases hx : besN p s with
  | none =>
    have g : (besI p s < 0) = True := by
      unfold besI
      rw [hx]
      show ((if s = 3 then (-2 : Int32) else -1) < 0) = True
      split <;> exact eq_true (by decide)
    rw [hx] at hR
    simp only [g, or_0, n1, simprocAttr, if_true, if_false, true_and, and_true, false_and, and_false, not_false_eq_true, not_true_eq_false, gd_T, kont_i, kont_v]
    exact hR
  | some x =>
    have gx : besI p s = nI x := by unfold besI; rw [hx]
    have x30 := besN_lt hp hx
    have g : (nI x < 0) = False := eq_false (nI_pos (by omega))
    have hi := m_is d x x30 σ
    rw [hx] at hR
    rw [gx] at hR ⊢
    by_cases c : isT (σ 88) x
    · have c' : AoT (σ 88) x = true := decide_eq_true c
      have hR : ru (d + 2) 189 55 [.ref 87, .int (nI p0), .int (nI (if AoT (σ 88) x = true then r ||| 2 ^ x else r)), .int (nI w), .int (nI p), .int (nI (s + 1)), .int (nI x)] [] σ = R := hR
      rw [if_pos c'] at hR
      simp only [s189_85, s189_86, s189_88_o87, s189_91, s189_94, s189_95, s189_97, s189_98, s189_101, s189_102, s189_103, s189_104, s189_107, g, hi, b2_T c, one, shl_1 x (by omega), nx_lor, n1, simprocAttr, if_true, if_false, true_and, and_true, false_and, and_false, not_false_eq_true, not_true_eq_false, gd_T, kont_i, kont_v]
      exact hR
    · have c' : ¬ AoT (σ 88) x = true := fun q => c (of_decide_eq_true q)
      have hR : ru (d + 2) 189 55 [.ref 87, .int (nI p0), .int (nI (if AoT (σ 88) x = true then r ||| 2 ^ x else r)), .int (nI w), .int (nI p), .int (nI (s + 1)), .int (nI x)] [] σ = R := hR
      rw [if_neg c'] at hR
      simp only [s189_85, s189_86, s189_88_o87, s189_91, s189_94, s189_95, s189_97, s189_98, s189_101, s189_102, s189_103, s189_104, s189_107, g, hi, b2_F c, zer, or_0, n1, simprocAttr, if_true, if_false, true_and, and_true, false_and, and_false, not_false_eq_true, not_true_eq_false, gd_T, kont_i, kont_v]
      exact hR
theorem m_plc (d p0 p r w : Nat) (hp : p < 30) (hw : w < 1073741824) (σ : Hs) (l5 l6 : Value) : ∃ k5 k6, ru (d + 2) 189 45 [.ref 87, .int (nI p0), .int (nI r), .int (nI w), .int (nI p), l5, l6] [] σ = ru (d + 2) 189 45 [.ref 87, .int (nI p0), .int (nI (plN (AoT (σ 88)) w p r)), .int (nI w), .int (nI (p + 1)), k5, k6] [] σ := by
  have e : ((30 : Int32) ≤ nI p) = False := by rw [show (30 : Int32) = nI 30 from rfl, le_nn (by omega) (by omega)]; exact eq_false (by omega)
  have n1 := nI_1 p
  unfold plN
  by_cases c : w.testBit p = true
  · rw [if_pos c]
    refine ⟨.int (nI 4), .int (besI p 3), ?_⟩
    generalize hR : ru (d + 2) 189 45 _ [] σ = R
    have t4 : ((4 : Int32) ≤ nI 4) = True := eq_true (by decide +kernel)
    rw [← hR]
    generalize hQ : ru (d + 2) 189 45 [.ref 87, .int (nI p0), .int (nI (sdN (AoT (σ 88)) p 3 (sdN (AoT (σ 88)) p 2 (sdN (AoT (σ 88)) p 1 (sdN (AoT (σ 88)) p 0 r))))), .int (nI w), .int (nI (p + 1)), .int (nI 4), .int (besI p 3)] [] σ = Q
    simp only [s189_45]
    simp only [s189_47, s189_49, s189_52, s189_53, e, simprocAttr, if_true, if_false, true_and, and_true, false_and, and_false, not_false_eq_true, not_true_eq_false, gd_T, kont_i, kont_v]
    rw [show (0 : Int32) = nI 0 from rfl, m_side d p0 p 0 r w hp (by omega) hw σ _ c, m_side d p0 p 1 _ w hp (by omega) hw σ _ c, m_side d p0 p 2 _ w hp (by omega) hw σ _ c, m_side d p0 p 3 _ w hp (by omega) hw σ _ c]
    simp only [s189_55]
    simp only [s189_57, s189_58, s189_110, s189_113, t4, n1, simprocAttr, if_true, if_false, true_and, and_true, false_and, and_false, not_false_eq_true, not_true_eq_false, gd_T, kont_i, kont_v]
    exact hQ
  · rw [if_neg c]
    refine ⟨.int (nI 0), l6, ?_⟩
    have hb : callD (d + 2) 113 [.int (nI w), .int (nI p)] σ = some (some (.int 0), σ) := by
      rw [m_has, b2_F (by rw [bit_b (by omega) (by omega)]; exact c)]
    have t4 : ((4 : Int32) ≤ nI 0) = False := eq_false (by decide +kernel)
    generalize hQ : ru (d + 2) 189 45 [.ref 87, .int (nI p0), .int (nI r), .int (nI w), .int (nI (p + 1)), .int (nI 0), l6] [] σ = Q
    simp only [s189_45]
    simp only [s189_47, s189_49, s189_52, s189_53, e, simprocAttr, if_true, if_false, true_and, and_true, false_and, and_false, not_false_eq_true, not_true_eq_false, gd_T, kont_i, kont_v]
    rw [show (0 : Int32) = nI 0 from rfl]
    simp only [s189_55]
    simp only [s189_57, s189_58, s189_61, s189_62, s189_64, s189_67, s189_110, s189_113, t4, hb, n1, simprocAttr, if_true, if_false, true_and, and_true, false_and, and_false, not_false_eq_true, not_true_eq_false, gd_T, kont_i, kont_v]
    exact hQ
theorem m_pass2 (d p0 w : Nat) (hw : w < 1073741824) (σ : Hs) : ∀ m k l5 l6, k + m = 30 → ∃ k5 k6, ru (d + 2) 189 45 [.ref 87, .int (nI p0), .int (nI (paN (AoT (σ 88)) w k w)), .int (nI w), .int (nI k), l5, l6] [] σ = ru (d + 2) 189 35 [.ref 87, .int (nI p0), .int (nI (stN2 (AoT (σ 88)) w)), .int (nI w), .int (nI 30), k5, k6] [] σ := by
  intro m
  induction m with
  | zero =>
    intro k l5 l6 hk
    obtain rfl : k = 30 := by omega
    refine ⟨l5, l6, ?_⟩
    unfold stN2
    simp only [s189_45]
    simp only [s189_47, s189_49, s189_116, n30w, Int32.le_refl, simprocAttr, if_true, if_false, true_and, and_true, false_and, and_false, not_false_eq_true, not_true_eq_false, gd_T, kont_i, kont_v]
  | succ m ih =>
    intro k l5 l6 hk
    obtain ⟨a5, a6, e1⟩ := m_plc d p0 k (paN (AoT (σ 88)) w k w) w (by omega) hw σ l5 l6
    obtain ⟨b5, b6, e2⟩ := ih (k + 1) a5 a6 (by omega)
    exact ⟨b5, b6, e1.trans e2⟩
theorem cd_full {n : Nat} : ∀ k, cdN n k = k → ∀ y, y < k → n.testBit y = true
  | 0, _, y, h => by omega
  | k + 1, h, y, hy => by
    rw [cdN] at h
    have l := cd_le n k
    cases e : n.testBit k with
    | false => rw [e] at h; simp at h; omega
    | true =>
      rw [e] at h
      simp at h
      by_cases c : y = k
      · rw [c]; exact e
      · exact cd_full k h y (by omega)
theorem m_reach_l (d p0 : Nat) (σ : Hs) : ∀ m w v l4 l5 l6, w < 1073741824 → v < 1073741824 → w ≠ v → 30 ≤ m + cdN w 30 → ru (d + 2) 189 35 [.ref 87, .int (nI p0), .int (nI w), .int (nI v), l4, l5, l6] [] σ = some (some (.int (nI (pcN (itN (AoT (σ 88)) m w)))), σ) := by
  intro m
  induction m with
  | zero =>
    intro w v l4 l5 l6 hw hv hne hc
    have fx : stN2 (AoT (σ 88)) w = w := by
      refine Classical.byContradiction (fun q => ?_)
      have := st_more hw q
      have := cd_le (stN2 (AoT (σ 88)) w) 30
      omega
    obtain ⟨b5, b6, e2⟩ := m_pass2 d p0 w hw σ 30 0 l5 l6 (by omega)
    rw [fx] at e2
    have g : (nI w = nI v) = False := by rw [eq_nn (by omega) (by omega)]; exact eq_false hne
    have g2 : (nI w = nI w) = True := eq_true rfl
    have mb := m_bits (d + 1) w (by omega) σ
    rw [paN] at e2
    simp only [s189_35]
    simp only [s189_36, s189_37, s189_40, s189_41, s189_42, s189_43, g, simprocAttr, if_true, if_false, true_and, and_true, false_and, and_false, not_false_eq_true, not_true_eq_false, gd_T, kont_i, kont_v]
    rw [show ru (d + 2) 189 45 [.ref 87, .int (nI p0), .int (nI w), .int (nI w), .int 0, l5, l6] [] σ = _ from e2]
    simp only [s189_35]
    simp only [s189_36, s189_37, s189_119, s189_120, s189_123, g2, mb, simprocAttr, if_true, if_false, true_and, and_true, false_and, and_false, not_false_eq_true, not_true_eq_false, gd_T, kont_i, kont_v]
    rfl
  | succ m ih =>
    intro w v l4 l5 l6 hw hv hne hc
    obtain ⟨b5, b6, e2⟩ := m_pass2 d p0 w hw σ 30 0 l5 l6 (by omega)
    have g : (nI w = nI v) = False := by rw [eq_nn (by omega) (by omega)]; exact eq_false hne
    rw [paN] at e2
    simp only [s189_35]
    simp only [s189_36, s189_37, s189_40, s189_41, s189_42, s189_43, g, simprocAttr, if_true, if_false, true_and, and_true, false_and, and_false, not_false_eq_true, not_true_eq_false, gd_T, kont_i, kont_v]
    rw [show ru (d + 2) 189 45 [.ref 87, .int (nI p0), .int (nI w), .int (nI w), .int 0, l5, l6] [] σ = _ from e2]
    by_cases fx : stN2 (AoT (σ 88)) w = w
    · have g2 : (nI w = nI w) = True := eq_true rfl
      have mb := m_bits (d + 1) w (by omega) σ
      rw [fx, it_fix fx]
      simp only [s189_35]
      simp only [s189_36, s189_37, s189_119, s189_120, s189_123, g2, mb, simprocAttr, if_true, if_false, true_and, and_true, false_and, and_false, not_false_eq_true, not_true_eq_false, gd_T, kont_i, kont_v]
    · have := st_more hw fx
      exact ih (stN2 (AoT (σ 88)) w) w _ b5 b6 (st_lt hw) hw fx (by omega)
theorem L_reach {i : Nat} {σ : Hs} (h : RR i σ) (d : Nat) (v : Int32) : Step d i 83 189 [.int v] σ := by
  by_cases hv : 0 ≤ v ∧ v ≤ 29
  · obtain ⟨p, hp, rfl⟩ := plc_n hv
    have hvt := eq_true hv
    have p31 : p < 2147483648 := by omega
    have ei := h2_has (d + 98) p hp σ (σ 88) h.hr h.wi.P
    by_cases hi : isT (σ 88) p
    · have p2 : 2 ^ p < 1073741824 := Nat.pow_lt_pow_right (a := 2) (n := 30) (by omega) hp
      have p0 : 2 ^ p ≠ 0 := by have := Nat.two_pow_pos p; omega
      have e1 := h2_hang (d + 97) p hp σ (σ 88) h.hr h.wi.P hi
      have lt := it_lt (A := AoT (σ 88)) 30 (2 ^ p) p2
      have e2 := k_bc (d + 98) (nI (itN (AoT (σ 88)) 30 (2 ^ p))) σ
      rw [bcI_n (by omega)] at e2
      have c1 : callD (d + 100) 83 [.ref 0, .int (nI p)] σ = some (some (.int (nI (pcN (itN (AoT (σ 88)) 30 (2 ^ p))))), σ) := by
        simp only [c83, s83_0, s83_1, s83_4, s83_7, s83_8, s83_9_o0, s83_12, s83_13, s83_14_o0, s83_17_o1, s83_20, s83_21_o2, s83_24, s83_27, s83_28, s83_29_o0, s83_32, s83_33, s83_34_o0, s83_37_o1, s83_40, s83_41_o2, s83_44, s83_47, k_isPlace, lt_le30, hvt, b2_t, ei, b2_T hi, e1, e2, simprocAttr, if_true, if_false, true_and, and_true, false_and, and_false, not_false_eq_true, not_true_eq_false, gd_T, kont_i, kont_v]
      have c2 : callD (d + 100) 189 [.ref 87, .int (nI p)] σ = some (some (.int (nI (pcN (itN (AoT (σ 88)) 30 (2 ^ p))))), σ) := by
        have hl := fun l4 l5 l6 => m_reach_l (d + 97) p σ 30 (2 ^ p) 0 l4 l5 l6 p2 (by omega) p0 (by omega)
        have sh := shl_1 p (by omega)
        simp only [c189, s189_0, s189_1, s189_4, s189_7, s189_8, s189_10_o87, s189_13, s189_14, s189_15, s189_16_o87, s189_19, s189_22, s189_23, s189_25_o87, s189_28, s189_29, s189_30, s189_31, s189_32, s189_33, s189_34, m_isPlace, hvt, b2_t, m_is _ _ hp, b2_T hi, sh, simprocAttr, if_true, if_false, true_and, and_true, false_and, and_false, not_false_eq_true, not_true_eq_false, gd_T, kont_i, kont_v]
        exact hl _ _ _
      exact ⟨_, _, _, c1, c2, h.same⟩
    · refine Step_err h 2 (v := -1000002) ?_ ?_
      · simp only [c83, s83_0, s83_1, s83_4, s83_7, s83_8, s83_9_o0, s83_12, s83_13, s83_14_o0, s83_17_o1, s83_20, s83_21_o2, s83_24, s83_27, s83_28, s83_29_o0, s83_32, s83_33, s83_34_o0, s83_37_o1, s83_40, s83_41_o2, s83_44, s83_47, k_isPlace, lt_le30, hvt, b2_t, ei, b2_F hi, k_failed_2, simprocAttr, if_true, if_false, true_and, and_true, false_and, and_false, not_false_eq_true, not_true_eq_false, gd_T, kont_i, kont_v]
      · have hi1 : ¬ isT (erC σ 2 88) p := by rw [show erC σ 2 88 = σ 88 from rep_ne (by omega)]; exact hi
        simp only [c189, s189_0, s189_1, s189_4, s189_7, s189_8, s189_10_o87, s189_13, s189_14, s189_15, s189_16_o87, s189_19, s189_22, s189_23, s189_25_o87, s189_28, s189_29, s189_30, s189_31, s189_32, s189_33, s189_34, m_isPlace, hvt, b2_t, m_is _ _ hp, b2_F hi1, m_fin_2, simprocAttr, if_true, if_false, true_and, and_true, false_and, and_false, not_false_eq_true, not_true_eq_false, gd_T, kont_i, kont_v]
  · have hvf := nplc hv
    refine Step_err h 1 (v := -1000001) ?_ ?_
    · simp only [c83, s83_0, s83_1, s83_4, s83_7, s83_8, s83_9_o0, s83_12, s83_13, s83_14_o0, s83_17_o1, s83_20, s83_21_o2, s83_24, s83_27, s83_28, s83_29_o0, s83_32, s83_33, s83_34_o0, s83_37_o1, s83_40, s83_41_o2, s83_44, s83_47, k_isPlace, lt_le30, hvf, b2_f, k_failed_1, simprocAttr, if_true, if_false, true_and, and_true, false_and, and_false, not_false_eq_true, not_true_eq_false, gd_T, kont_i, kont_v]
    · simp only [c189, s189_0, s189_1, s189_4, s189_7, s189_8, s189_10_o87, s189_13, s189_14, s189_15, s189_16_o87, s189_19, s189_22, s189_23, s189_25_o87, s189_28, s189_29, s189_30, s189_31, s189_32, s189_33, s189_34, m_isPlace, hvf, b2_f, m_fin_1, simprocAttr, if_true, if_false, true_and, and_true, false_and, and_false, not_false_eq_true, not_true_eq_false, gd_T, kont_i, kont_v]
