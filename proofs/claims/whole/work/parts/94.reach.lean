/-! ===== reach: the model's run, and the call ===== -/
theorem m_side (d p0 p s r w : Nat) (hp : p < 30) (hs : s < 4) (hw : w < 1073741824) (σ : Hs) (l6 : Value) (ht : w.testBit p = true) : ru (d + 2) 190 55 [.ref 87, .int (nI p0), .int (nI r), .int (nI w), .int (nI p), .int (nI s), l6] [] σ = ru (d + 2) 190 55 [.ref 87, .int (nI p0), .int (nI (sdN (AoT (σ 88)) p s r)), .int (nI w), .int (nI p), .int (nI (s + 1)), .int (besI p s)] [] σ := by
  have e : ((4 : Int32) ≤ nI s) = False := by rw [show (4 : Int32) = nI 4 from rfl, le_nn (by omega) (by omega)]; exact eq_false (by omega)
  have hb : callD (d + 2) 114 [.int (nI w), .int (nI p)] σ = some (some (.int 1), σ) := by
    rw [m_has, b2_T (by rw [bit_b (by omega) (by omega)]; exact ht)]
  have he := m_beside (d + 1) p s hp hs σ
  have n1 := nI_1 s
  have one : ((1 : Int32) = 0) = False := eq_false (by decide)
  have zer : ((0 : Int32) = 0) = True := eq_true rfl
  generalize hR : ru (d + 2) 190 55 [.ref 87, .int (nI p0), .int (nI (sdN (AoT (σ 88)) p s r)), .int (nI w), .int (nI p), .int (nI (s + 1)), .int (besI p s)] [] σ = R
  simp only [s190_55]
  simp only [s190_57, s190_58, s190_61, s190_62, s190_64, s190_67, s190_70, s190_72, s190_74, s190_77, s190_79, s190_80, s190_82, s190_85, s190_86, s190_88_o87, s190_91, s190_94, s190_95, s190_97, s190_98, s190_101, s190_102, s190_103, s190_104, s190_107, e, hb, he, n1, one, simprocAttr, if_true, if_false, true_and, and_true, false_and, and_false, not_false_eq_true, not_true_eq_false, gd_T, kont_i, kont_v]
  unfold sdN at hR
  cases hx : besN p s with
  | none =>
    have g : (besI p s < 0) = True := by
      unfold besI
      rw [hx]
      show ((if s = 3 then (-2 : Int32) else -1) < 0) = True
      split <;> exact eq_true (by decide)
    rw [hx] at hR
    simp only [g, or_0, n1, simprocAttr, if_true, if_false, true_and, and_true, false_and, and_false, not_false_eq_true, not_true_eq_false, gd_T, kont_i, kont_v]
    exact hR
  | some x =>
    have gx : besI p s = nI x := by unfold besI; rw [hx]
    have x30 := besN_lt hp hx
    have g : (nI x < 0) = False := eq_false (nI_pos (by omega))
    have hi := m_is d x x30 σ
    rw [hx] at hR
    rw [gx] at hR ⊢
    by_cases c : isT (σ 88) x
    · have c' : AoT (σ 88) x = true := decide_eq_true c
      have hR : ru (d + 2) 190 55 [.ref 87, .int (nI p0), .int (nI (if AoT (σ 88) x = true then r ||| 2 ^ x else r)), .int (nI w), .int (nI p), .int (nI (s + 1)), .int (nI x)] [] σ = R := hR
      rw [if_pos c'] at hR
      simp only [s190_85, s190_86, s190_88_o87, s190_91, s190_94, s190_95, s190_97, s190_98, s190_101, s190_102, s190_103, s190_104, s190_107, g, hi, b2_T c, one, shl_1 x (by omega), nx_lor, n1, simprocAttr, if_true, if_false, true_and, and_true, false_and, and_false, not_false_eq_true, not_true_eq_false, gd_T, kont_i, kont_v]
      exact hR
    · have c' : ¬ AoT (σ 88) x = true := fun q => c (of_decide_eq_true q)
      have hR : ru (d + 2) 190 55 [.ref 87, .int (nI p0), .int (nI (if AoT (σ 88) x = true then r ||| 2 ^ x else r)), .int (nI w), .int (nI p), .int (nI (s + 1)), .int (nI x)] [] σ = R := hR
      rw [if_neg c'] at hR
      simp only [s190_85, s190_86, s190_88_o87, s190_91, s190_94, s190_95, s190_97, s190_98, s190_101, s190_102, s190_103, s190_104, s190_107, g, hi, b2_F c, zer, or_0, n1, simprocAttr, if_true, if_false, true_and, and_true, false_and, and_false, not_false_eq_true, not_true_eq_false, gd_T, kont_i, kont_v]
      exact hR
theorem m_plc (d p0 p r w : Nat) (hp : p < 30) (hw : w < 1073741824) (σ : Hs) (l5 l6 : Value) : ∃ k5 k6, ru (d + 2) 190 45 [.ref 87, .int (nI p0), .int (nI r), .int (nI w), .int (nI p), l5, l6] [] σ = ru (d + 2) 190 45 [.ref 87, .int (nI p0), .int (nI (plN (AoT (σ 88)) w p r)), .int (nI w), .int (nI (p + 1)), k5, k6] [] σ := by
  have e : ((30 : Int32) ≤ nI p) = False := by rw [show (30 : Int32) = nI 30 from rfl, le_nn (by omega) (by omega)]; exact eq_false (by omega)
  have n1 := nI_1 p
  unfold plN
  by_cases c : w.testBit p = true
  · rw [if_pos c]
    refine ⟨.int (nI 4), .int (besI p 3), ?_⟩
    generalize hR : ru (d + 2) 190 45 _ [] σ = R
    have t4 : ((4 : Int32) ≤ nI 4) = True := eq_true (by decide +kernel)
    rw [← hR]
    generalize hQ : ru (d + 2) 190 45 [.ref 87, .int (nI p0), .int (nI (sdN (AoT (σ 88)) p 3 (sdN (AoT (σ 88)) p 2 (sdN (AoT (σ 88)) p 1 (sdN (AoT (σ 88)) p 0 r))))), .int (nI w), .int (nI (p + 1)), .int (nI 4), .int (besI p 3)] [] σ = Q
    simp only [s190_45]
    simp only [s190_47, s190_49, s190_52, s190_53, e, simprocAttr, if_true, if_false, true_and, and_true, false_and, and_false, not_false_eq_true, not_true_eq_false, gd_T, kont_i, kont_v]
    rw [show (0 : Int32) = nI 0 from rfl, m_side d p0 p 0 r w hp (by omega) hw σ _ c, m_side d p0 p 1 _ w hp (by omega) hw σ _ c, m_side d p0 p 2 _ w hp (by omega) hw σ _ c, m_side d p0 p 3 _ w hp (by omega) hw σ _ c]
    simp only [s190_55]
    simp only [s190_57, s190_58, s190_110, s190_113, t4, n1, simprocAttr, if_true, if_false, true_and, and_true, false_and, and_false, not_false_eq_true, not_true_eq_false, gd_T, kont_i, kont_v]
    exact hQ
  · rw [if_neg c]
    refine ⟨.int (nI 0), l6, ?_⟩
    have hb : callD (d + 2) 114 [.int (nI w), .int (nI p)] σ = some (some (.int 0), σ) := by
      rw [m_has, b2_F (by rw [bit_b (by omega) (by omega)]; exact c)]
    have t4 : ((4 : Int32) ≤ nI 0) = False := eq_false (by decide +kernel)
    generalize hQ : ru (d + 2) 190 45 [.ref 87, .int (nI p0), .int (nI r), .int (nI w), .int (nI (p + 1)), .int (nI 0), l6] [] σ = Q
    simp only [s190_45]
    simp only [s190_47, s190_49, s190_52, s190_53, e, simprocAttr, if_true, if_false, true_and, and_true, false_and, and_false, not_false_eq_true, not_true_eq_false, gd_T, kont_i, kont_v]
    rw [show (0 : Int32) = nI 0 from rfl]
    simp only [s190_55]
    simp only [s190_57, s190_58, s190_61, s190_62, s190_64, s190_67, s190_110, s190_113, t4, hb, n1, simprocAttr, if_true, if_false, true_and, and_true, false_and, and_false, not_false_eq_true, not_true_eq_false, gd_T, kont_i, kont_v]
    exact hQ
theorem m_pass2 (d p0 w : Nat) (hw : w < 1073741824) (σ : Hs) : ∀ m k l5 l6, k + m = 30 → ∃ k5 k6, ru (d + 2) 190 45 [.ref 87, .int (nI p0), .int (nI (paN (AoT (σ 88)) w k w)), .int (nI w), .int (nI k), l5, l6] [] σ = ru (d + 2) 190 35 [.ref 87, .int (nI p0), .int (nI (stN2 (AoT (σ 88)) w)), .int (nI w), .int (nI 30), k5, k6] [] σ := by
  intro m
  induction m with
  | zero =>
    intro k l5 l6 hk
    obtain rfl : k = 30 := by omega
    refine ⟨l5, l6, ?_⟩
    unfold stN2
    simp only [s190_45]
    simp only [s190_47, s190_49, s190_116, n30w, Int32.le_refl, simprocAttr, if_true, if_false, true_and, and_true, false_and, and_false, not_false_eq_true, not_true_eq_false, gd_T, kont_i, kont_v]
  | succ m ih =>
    intro k l5 l6 hk
    obtain ⟨a5, a6, e1⟩ := m_plc d p0 k (paN (AoT (σ 88)) w k w) w (by omega) hw σ l5 l6
    obtain ⟨b5, b6, e2⟩ := ih (k + 1) a5 a6 (by omega)
    exact ⟨b5, b6, e1.trans e2⟩
theorem cd_full {n : Nat} : ∀ k, cdN n k = k → ∀ y, y < k → n.testBit y = true
  | 0, _, y, h => by omega
  | k + 1, h, y, hy => by
    rw [cdN] at h
    have l := cd_le n k
    cases e : n.testBit k with
    | false => rw [e] at h; simp at h; omega
    | true =>
      rw [e] at h
      simp at h
      by_cases c : y = k
      · rw [c]; exact e
      · exact cd_full k h y (by omega)
theorem m_reach_l (d p0 : Nat) (σ : Hs) : ∀ m w v l4 l5 l6, w < 1073741824 → v < 1073741824 → w ≠ v → 30 ≤ m + cdN w 30 → ru (d + 2) 190 35 [.ref 87, .int (nI p0), .int (nI w), .int (nI v), l4, l5, l6] [] σ = some (some (.int (nI (pcN (itN (AoT (σ 88)) m w)))), σ) := by
  intro m
  induction m with
  | zero =>
    intro w v l4 l5 l6 hw hv hne hc
    have fx : stN2 (AoT (σ 88)) w = w := by
      refine Classical.byContradiction (fun q => ?_)
      have := st_more hw q
      have := cd_le (stN2 (AoT (σ 88)) w) 30
      omega
    obtain ⟨b5, b6, e2⟩ := m_pass2 d p0 w hw σ 30 0 l5 l6 (by omega)
    rw [fx] at e2
    have g : (nI w = nI v) = False := by rw [eq_nn (by omega) (by omega)]; exact eq_false hne
    have g2 : (nI w = nI w) = True := eq_true rfl
    have mb := m_bits (d + 1) w (by omega) σ
    rw [paN] at e2
    simp only [s190_35]
    simp only [s190_36, s190_37, s190_40, s190_41, s190_42, s190_43, g, simprocAttr, if_true, if_false, true_and, and_true, false_and, and_false, not_false_eq_true, not_true_eq_false, gd_T, kont_i, kont_v]
    rw [show ru (d + 2) 190 45 [.ref 87, .int (nI p0), .int (nI w), .int (nI w), .int 0, l5, l6] [] σ = _ from e2]
    simp only [s190_35]
    simp only [s190_36, s190_37, s190_119, s190_120, s190_123, g2, mb, simprocAttr, if_true, if_false, true_and, and_true, false_and, and_false, not_false_eq_true, not_true_eq_false, gd_T, kont_i, kont_v]
    rfl
  | succ m ih =>
    intro w v l4 l5 l6 hw hv hne hc
    obtain ⟨b5, b6, e2⟩ := m_pass2 d p0 w hw σ 30 0 l5 l6 (by omega)
    have g : (nI w = nI v) = False := by rw [eq_nn (by omega) (by omega)]; exact eq_false hne
    rw [paN] at e2
    simp only [s190_35]
    simp only [s190_36, s190_37, s190_40, s190_41, s190_42, s190_43, g, simprocAttr, if_true, if_false, true_and, and_true, false_and, and_false, not_false_eq_true, not_true_eq_false, gd_T, kont_i, kont_v]
    rw [show ru (d + 2) 190 45 [.ref 87, .int (nI p0), .int (nI w), .int (nI w), .int 0, l5, l6] [] σ = _ from e2]
    by_cases fx : stN2 (AoT (σ 88)) w = w
    · have g2 : (nI w = nI w) = True := eq_true rfl
      have mb := m_bits (d + 1) w (by omega) σ
      rw [fx, it_fix fx]
      simp only [s190_35]
      simp only [s190_36, s190_37, s190_119, s190_120, s190_123, g2, mb, simprocAttr, if_true, if_false, true_and, and_true, false_and, and_false, not_false_eq_true, not_true_eq_false, gd_T, kont_i, kont_v]
    · have := st_more hw fx
      exact ih (stN2 (AoT (σ 88)) w) w _ b5 b6 (st_lt hw) hw fx (by omega)
theorem L_reach {i : Nat} {σ : Hs} (h : RR i σ) (d : Nat) (v : Int32) : Step d i 84 190 [.int v] σ := by
  by_cases hv : 0 ≤ v ∧ v ≤ 29
  · obtain ⟨p, hp, rfl⟩ := plc_n hv
    have hvt := eq_true hv
    have p31 : p < 2147483648 := by omega
    have ei := h2_has (d + 98) p hp σ (σ 88) h.hr h.wi.P
    by_cases hi : isT (σ 88) p
    · have p2 : 2 ^ p < 1073741824 := Nat.pow_lt_pow_right (a := 2) (n := 30) (by omega) hp
      have p0 : 2 ^ p ≠ 0 := by have := Nat.two_pow_pos p; omega
      have e1 := h2_hang (d + 97) p hp σ (σ 88) h.hr h.wi.P hi
      have lt := it_lt (A := AoT (σ 88)) 30 (2 ^ p) p2
      have e2 := k_bc (d + 98) (nI (itN (AoT (σ 88)) 30 (2 ^ p))) σ
      rw [bcI_n (by omega)] at e2
      have c1 : callD (d + 100) 84 [.ref 0, .int (nI p)] σ = some (some (.int (nI (pcN (itN (AoT (σ 88)) 30 (2 ^ p))))), σ) := by
        simp only [c84, s84_0, s84_1, s84_4, s84_7, s84_8, s84_9_o0, s84_12, s84_13, s84_14_o0, s84_17_o1, s84_20, s84_21_o2, s84_24, s84_27, s84_28, s84_29_o0, s84_32, s84_33, s84_34_o0, s84_37_o1, s84_40, s84_41_o2, s84_44, s84_47, k_isPlace, lt_le30, hvt, b2_t, ei, b2_T hi, e1, e2, simprocAttr, if_true, if_false, true_and, and_true, false_and, and_false, not_false_eq_true, not_true_eq_false, gd_T, kont_i, kont_v]
      have c2 : callD (d + 100) 190 [.ref 87, .int (nI p)] σ = some (some (.int (nI (pcN (itN (AoT (σ 88)) 30 (2 ^ p))))), σ) := by
        have hl := fun l4 l5 l6 => m_reach_l (d + 97) p σ 30 (2 ^ p) 0 l4 l5 l6 p2 (by omega) p0 (by omega)
        have sh := shl_1 p (by omega)
        simp only [c190, s190_0, s190_1, s190_4, s190_7, s190_8, s190_10_o87, s190_13, s190_14, s190_15, s190_16_o87, s190_19, s190_22, s190_23, s190_25_o87, s190_28, s190_29, s190_30, s190_31, s190_32, s190_33, s190_34, m_isPlace, hvt, b2_t, m_is _ _ hp, b2_T hi, sh, simprocAttr, if_true, if_false, true_and, and_true, false_and, and_false, not_false_eq_true, not_true_eq_false, gd_T, kont_i, kont_v]
        exact hl _ _ _
      exact ⟨_, _, _, c1, c2, h.same⟩
    · refine Step_err h 2 (v := -1000002) ?_ ?_
      · simp only [c84, s84_0, s84_1, s84_4, s84_7, s84_8, s84_9_o0, s84_12, s84_13, s84_14_o0, s84_17_o1, s84_20, s84_21_o2, s84_24, s84_27, s84_28, s84_29_o0, s84_32, s84_33, s84_34_o0, s84_37_o1, s84_40, s84_41_o2, s84_44, s84_47, k_isPlace, lt_le30, hvt, b2_t, ei, b2_F hi, k_failed_2, simprocAttr, if_true, if_false, true_and, and_true, false_and, and_false, not_false_eq_true, not_true_eq_false, gd_T, kont_i, kont_v]
      · have hi1 : ¬ isT (erC σ 2 88) p := by rw [show erC σ 2 88 = σ 88 from rep_ne (by omega)]; exact hi
        simp only [c190, s190_0, s190_1, s190_4, s190_7, s190_8, s190_10_o87, s190_13, s190_14, s190_15, s190_16_o87, s190_19, s190_22, s190_23, s190_25_o87, s190_28, s190_29, s190_30, s190_31, s190_32, s190_33, s190_34, m_isPlace, hvt, b2_t, m_is _ _ hp, b2_F hi1, m_fin_2, simprocAttr, if_true, if_false, true_and, and_true, false_and, and_false, not_false_eq_true, not_true_eq_false, gd_T, kont_i, kont_v]
  · have hvf := nplc hv
    refine Step_err h 1 (v := -1000001) ?_ ?_
    · simp only [c84, s84_0, s84_1, s84_4, s84_7, s84_8, s84_9_o0, s84_12, s84_13, s84_14_o0, s84_17_o1, s84_20, s84_21_o2, s84_24, s84_27, s84_28, s84_29_o0, s84_32, s84_33, s84_34_o0, s84_37_o1, s84_40, s84_41_o2, s84_44, s84_47, k_isPlace, lt_le30, hvf, b2_f, k_failed_1, simprocAttr, if_true, if_false, true_and, and_true, false_and, and_false, not_false_eq_true, not_true_eq_false, gd_T, kont_i, kont_v]
    · simp only [c190, s190_0, s190_1, s190_4, s190_7, s190_8, s190_10_o87, s190_13, s190_14, s190_15, s190_16_o87, s190_19, s190_22, s190_23, s190_25_o87, s190_28, s190_29, s190_30, s190_31, s190_32, s190_33, s190_34, m_isPlace, hvf, b2_f, m_fin_1, simprocAttr, if_true, if_false, true_and, and_true, false_and, and_false, not_false_eq_true, not_true_eq_false, gd_T, kont_i, kont_v]
