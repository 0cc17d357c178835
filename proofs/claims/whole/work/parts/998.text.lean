/-! ===== text: a number ===== -/
theorem ch_lt {σ0 : Hs} {n : Nat} {B : Nat → Nat} (ht : TPc σ0 n B) (a : Nat) : chN B n a < 256 := by
  unfold chN
  by_cases q : a < n
  · rw [if_pos q]; exact (ht.2.2.2 a q).1
  · rw [if_neg q]; omega
theorem he_dig {τ0 : Hs} {n : Nat} {B : Nat → Nat} (ht : TPm τ0 n B) (a : Nat) : ((48 : Int32) ≤ heI B n a ∧ heI B n a ≤ 57) = (48 ≤ chN B n a ∧ chN B n a ≤ 57) := by
  unfold heI chN
  by_cases q : a < n
  · have lt := (ht.2.2 a q).1
    rw [if_pos q, if_pos q, show (48 : Int32) = nI 48 from rfl, show (57 : Int32) = nI 57 from rfl, le_nn (by omega) (by omega), le_nn (by omega) (by omega)]
  · rw [if_neg q, if_neg q]
    exact propext ⟨fun h => absurd h.1 (by decide), fun h => absurd h.1 (by omega)⟩
theorem num_l {σ0 τ0 : Hs} {n : Nat} {B : Nat → Nat} (hc : TPc σ0 n B) (hm : TPm τ0 n B) (D1 D2 op : Nat) (i1 : Int32) : ∀ m k a v Lc Lm, k + m = 4 → v < 10 ^ k → a ≤ n → Lm.length < 60 → ∃ a2 v2, a ≤ a2 ∧ a2 ≤ n ∧ v2 < 10000 ∧ (0 < m → 48 ≤ chN B n a ∧ chN B n a ≤ 57 → a < a2) ∧ ru (D1 + 3) 41 4 [.ref 70, .int (nI v), .int (nI k)] [] (rcS σ0 a Lc false) = some (none, rcS σ0 a2 (nI v2 :: Lc) false) ∧ ru (D2 + 3) 153 131 [.ref 87, .int i1, .int (nI v), .int (nI k)] [] (rmS τ0 a Lm false op) = some (none, rmS τ0 a2 (nI v2 :: Lm) false op) := by
  intro m
  induction m with
  | zero =>
    intro k a v Lc Lm hk hv ha hl
    obtain rfl : k = 4 := by omega
    obtain ⟨b, had⟩ := rc_add (D1 + 2) σ0 a Lc false (nI v)
    have hco := m_codes_f (D2 + 2) τ0 a Lm op (nI v) hl
    have g : ((4 : Int32) ≤ nI 4) = True := eq_true (by decide +kernel)
    refine ⟨a, v, by omega, ha, by omega, fun h => absurd h (by omega), ?_, ?_⟩
    · simp only [s41_4]
      simp only [s41_5, s41_6, s41_9, s41_10_o70, s41_13, s41_16, s41_19, s41_21, s41_22, s41_23, s41_24_o70, s41_27, s41_29, s41_30, s41_31, s41_32, s41_33, s41_34_o70, s41_37, s41_38, s41_39_o70, s41_42, s41_45, s41_48, s41_49_o70, s41_52, s41_53_o71, s41_56, s41_57, g, had, simprocAttr, if_true, if_false, true_and, and_true, false_and, and_false, not_false_eq_true, not_true_eq_false, gd_T, kont_i, kont_v]
    · simp only [s153_131]
      simp only [s153_132, s153_133, s153_179, s153_180, s153_181_o87, s153_184, s153_187, s153_188, s153_191, s153_192, s153_195, s153_196, s153_197_o87, s153_200, s153_201, s153_202, s153_203_o87, s153_206, s153_209, s153_210, s153_213, s153_214, s153_217, s153_218_o87, s153_221, s153_222_o87, s153_225, s153_228, s153_229, s153_232, s153_233, s153_234_o87, s153_237, s153_238, s153_239_o87, s153_242, s153_243, s153_244_o87, s153_247, g, hco, simprocAttr, if_true, if_false, true_and, and_true, false_and, and_false, not_false_eq_true, not_true_eq_false, gd_T, kont_i, kont_v]
  | succ m ih =>
    intro k a v Lc Lm hk hv ha hl
    have n60 : n ≤ 60 := hc.1
    have g : ((4 : Int32) ≤ nI k) = False := by rw [show (4 : Int32) = nI 4 from rfl, le_nn (by omega) (by omega)]; exact eq_false (by omega)
    have kn := k_next (D1 + 1) σ0 a n B (by omega) hc Lc false
    have kd := k_isDigit (D1 + 2) (chN B n a) (ch_lt hc a) (rcS σ0 a Lc false)
    have mh := m_here_f (D2 + 2) τ0 a n B (by omega) hm Lm op
    have mw := m_within (D2 + 2) (heI B n a) 48 57 (rmS τ0 a Lm false op)
    by_cases q : 48 ≤ chN B n a ∧ chN B n a ≤ 57
    · have an : a < n := by
        unfold chN at q
        refine Nat.lt_of_not_le (fun z => ?_)
        rw [if_neg (by omega)] at q
        omega
      have ec : chN B n a = B a := by unfold chN; rw [if_pos an]
      have eh : heI B n a = nI (B a) := by unfold heI; rw [if_pos an]
      have ps : 10 ^ (k + 1) = 10 * 10 ^ k := by rw [Nat.pow_succ, Nat.mul_comm]
      have pk : 10 ^ k ≤ 10 ^ 3 := Nat.pow_le_pow_right (by omega) (by omega)
      rw [b2_T q] at kd
      rw [b2_T (by rw [he_dig hm a]; exact q)] at mw
      rw [ec] at q kn kd
      rw [eh] at mh mw
      obtain ⟨a2, v2, x1, x2, x3, x4, x5, x6⟩ := ih (k + 1) (a + 1) (10 * v + (B a - 48)) Lc Lm (by omega) (by omega) (by omega) hl
      refine ⟨a2, v2, by omega, x2, x3, fun _ _ => by omega, ?_, ?_⟩
      · have one : ((1 : Int32) = 0) = False := eq_false (by decide)
        have e1 : (10 : Int32) * nI v + (nI (B a) - 48) = nI (10 * v + (B a - 48)) := by
          rw [show (10 : Int32) = nI 10 from rfl, show (48 : Int32) = nI 48 from rfl, pk_sub (by omega), pk_mul, nI_add]
        have f3 := rc_at σ0 a Lc false
        have n1 := nI_1 a
        have n2 := nI_1 k
        have sa := rc_sa σ0 a (a + 1) Lc false
        rw [← x5]
        generalize hR : ru (D1 + 3) 41 4 _ [] (rcS σ0 (a + 1) Lc false) = R
        simp only [s41_4]
        simp only [s41_5, s41_6, s41_9, s41_10_o70, s41_13, s41_16, s41_19, s41_21, s41_22, s41_23, s41_24_o70, s41_27, s41_29, s41_30, s41_31, s41_32, s41_33, s41_34_o70, s41_37, s41_38, s41_39_o70, s41_42, s41_45, g, kn, kd, one, e1, f3, n1, n2, up2_rep, sa, simprocAttr, if_true, if_false, true_and, and_true, false_and, and_false, not_false_eq_true, not_true_eq_false, gd_T, kont_i, kont_v]
        exact hR
      · have one : ((1 : Int32) = 0) = False := eq_false (by decide)
        have e1 : (10 : Int32) * nI v + nI (B a) - 48 = nI (10 * v + (B a - 48)) := by
          rw [show (10 : Int32) = nI 10 from rfl, show (48 : Int32) = nI 48 from rfl, pk_mul, nI_add, pk_sub (by omega)]
          congr 1
          omega
        have f3 := rm_at τ0 a Lm false op
        have n1 := nI_1 a
        have n2 := nI_1 k
        have sa := rm_sa τ0 a (a + 1) Lm false op
        rw [← x6]
        generalize hR : ru (D2 + 3) 153 131 _ [] (rmS τ0 (a + 1) Lm false op) = R
        simp only [s153_131]
        simp only [s153_132, s153_133, s153_136, s153_137_o87, s153_140, s153_142, s153_144, s153_147, s153_150, s153_152, s153_153, s153_154, s153_155_o87, s153_158, s153_159, s153_161, s153_162, s153_163, s153_164, s153_165_o87, s153_168, s153_169, s153_170_o87, s153_173, s153_176, g, mh, mw, one, e1, f3, n1, n2, up2_rep, sa, simprocAttr, if_true, if_false, true_and, and_true, false_and, and_false, not_false_eq_true, not_true_eq_false, gd_T, kont_i, kont_v]
        exact hR
    · rw [b2_F q] at kd
      rw [b2_F (by rw [he_dig hm a]; exact q)] at mw
      obtain ⟨b, had⟩ := rc_add (D1 + 2) σ0 a Lc false (nI v)
      have hco := m_codes_f (D2 + 2) τ0 a Lm op (nI v) hl
      have pk : 10 ^ k ≤ 10 ^ 3 := Nat.pow_le_pow_right (by omega) (by omega)
      refine ⟨a, v, by omega, ha, by omega, fun _ h => absurd h q, ?_, ?_⟩
      · simp only [s41_4]
        simp only [s41_5, s41_6, s41_9, s41_10_o70, s41_13, s41_16, s41_19, s41_21, s41_22, s41_23, s41_24_o70, s41_27, s41_29, s41_30, s41_31, s41_32, s41_33, s41_34_o70, s41_37, s41_38, s41_39_o70, s41_42, s41_45, s41_48, s41_49_o70, s41_52, s41_53_o71, s41_56, s41_57, g, kn, kd, had, simprocAttr, if_true, if_false, true_and, and_true, false_and, and_false, not_false_eq_true, not_true_eq_false, gd_T, kont_i, kont_v]
      · simp only [s153_131]
        simp only [s153_132, s153_133, s153_136, s153_137_o87, s153_140, s153_142, s153_144, s153_147, s153_179, s153_180, s153_181_o87, s153_184, s153_187, s153_188, s153_191, s153_192, s153_195, s153_196, s153_197_o87, s153_200, s153_201, s153_202, s153_203_o87, s153_206, s153_209, s153_210, s153_213, s153_214, s153_217, s153_218_o87, s153_221, s153_222_o87, s153_225, s153_228, s153_229, s153_232, s153_233, s153_234_o87, s153_237, s153_238, s153_239_o87, s153_242, s153_243, s153_244_o87, s153_247, g, mh, mw, hco, simprocAttr, if_true, if_false, true_and, and_true, false_and, and_false, not_false_eq_true, not_true_eq_false, gd_T, kont_i, kont_v]
