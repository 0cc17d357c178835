/-! ===== text: a number ===== -/
theorem ch_lt {σ0 : Hs} {n : Nat} {B : Nat → Nat} (ht : TPc σ0 n B) (a : Nat) : chN B n a < 256 := by
  unfold chN
  by_cases q : a < n
  · rw [if_pos q]; exact (ht.2.2.2 a q).1
  · rw [if_neg q]; omega
theorem he_dig {τ0 : Hs} {n : Nat} {B : Nat → Nat} (ht : TPm τ0 n B) (a : Nat) : ((48 : Int32) ≤ heI B n a ∧ heI B n a ≤ 57) = (48 ≤ chN B n a ∧ chN B n a ≤ 57) := by
  unfold heI chN
  by_cases q : a < n
  · have lt := (ht.2.2 a q).1
    rw [if_pos q, if_pos q, show (48 : Int32) = nI 48 from rfl, show (57 : Int32) = nI 57 from rfl, le_nn (by omega) (by omega), le_nn (by omega) (by omega)]
  · rw [if_neg q, if_neg q]
    exact propext ⟨fun h => absurd h.1 (by decide), fun h => absurd h.1 (by omega)⟩
theorem num_l {σ0 τ0 : Hs} {n : Nat} {B : Nat → Nat} (hc : TPc σ0 n B) (hm : TPm τ0 n B) (D1 D2 op : Nat) (i1 : Int32) : ∀ m k a v Lc Lm, k + m = 4 → v < 10 ^ k → a ≤ n → Lm.length < 60 → ∃ a2 v2, a ≤ a2 ∧ a2 ≤ n ∧ v2 < 10000 ∧ (0 < m → 48 ≤ chN B n a ∧ chN B n a ≤ 57 → a < a2) ∧ ru (D1 + 3) 42 4 [.ref 70, .int (nI v), .int (nI k)] [] (rcS σ0 a Lc false) = some (none, rcS σ0 a2 (nI v2 :: Lc) false) ∧ ru (D2 + 3) 154 131 [.ref 87, .int i1, .int (nI v), .int (nI k)] [] (rmS τ0 a Lm false op) = some (none, rmS τ0 a2 (nI v2 :: Lm) false op) := by
  intro m
  induction m with
  | zero =>
    intro k a v Lc Lm hk hv ha hl
    obtain rfl : k = 4 := by omega
    obtain ⟨b, had⟩ := rc_add (D1 + 2) σ0 a Lc false (nI v)
    have hco := m_codes_f (D2 + 2) τ0 a Lm op (nI v) hl
    have g : ((4 : Int32) ≤ nI 4) = True := eq_true (by decide +kernel)
    refine ⟨a, v, by omega, ha, by omega, fun h => absurd h (by omega), ?_, ?_⟩
    · simp only [s42_4]
      simp only [s42_5, s42_6, s42_9, s42_10_o70, s42_13, s42_16, s42_19, s42_21, s42_22, s42_23, s42_24_o70, s42_27, s42_29, s42_30, s42_31, s42_32, s42_33, s42_34_o70, s42_37, s42_38, s42_39_o70, s42_42, s42_45, s42_48, s42_49_o70, s42_52, s42_53_o71, s42_56, s42_57, g, had, simprocAttr, if_true, if_false, true_and, and_true, false_and, and_false, not_false_eq_true, not_true_eq_false, gd_T, kont_i, kont_v]
    · simp only [s154_131]
      simp only [s154_132, s154_133, s154_179, s154_180, s154_181_o87, s154_184, s154_187, s154_188, s154_191, s154_192, s154_195, s154_196, s154_197_o87, s154_200, s154_201, s154_202, s154_203_o87, s154_206, s154_209, s154_210, s154_213, s154_214, s154_217, s154_218_o87, s154_221, s154_222_o87, s154_225, s154_228, s154_229, s154_232, s154_233, s154_234_o87, s154_237, s154_238, s154_239_o87, s154_242, s154_243, s154_244_o87, s154_247, g, hco, simprocAttr, if_true, if_false, true_and, and_true, false_and, and_false, not_false_eq_true, not_true_eq_false, gd_T, kont_i, kont_v]
  | succ m ih =>
    intro k a v Lc Lm hk hv ha hl
    have n60 : n ≤ 60 := hc.1
    have g : ((4 : Int32) ≤ nI k) = False := by rw [show (4 : Int32) = nI 4 from rfl, le_nn (by omega) (by omega)]; exact eq_false (by omega)
    have kn := k_next (D1 + 1) σ0 a n B (by omega) hc Lc false
    have kd := k_isDigit (D1 + 2) (chN B n a) (ch_lt hc a) (rcS σ0 a Lc false)
    have mh := m_here_f (D2 + 2) τ0 a n B (by omega) hm Lm op
    have mw := m_within (D2 + 2) (heI B n a) 48 57 (rmS τ0 a Lm false op)
    by_cases q : 48 ≤ chN B n a ∧ chN B n a ≤ 57
    · have an : a < n := by
        unfold chN at q
        refine Nat.lt_of_not_le (fun z => ?_)
        rw [if_neg (by omega)] at q
        omega
      have ec : chN B n a = B a := by unfold chN; rw [if_pos an]
      have eh : heI B n a = nI (B a) := by unfold heI; rw [if_pos an]
      have ps : 10 ^ (k + 1) = 10 * 10 ^ k := by rw [Nat.pow_succ, Nat.mul_comm]
      have pk : 10 ^ k ≤ 10 ^ 3 := Nat.pow_le_pow_right (by omega) (by omega)
      rw [b2_T q] at kd
      rw [b2_T (by rw [he_dig hm a]; exact q)] at mw
      rw [ec] at q kn kd
      rw [eh] at mh mw
      obtain ⟨a2, v2, x1, x2, x3, x4, x5, x6⟩ := ih (k + 1) (a + 1) (10 * v + (B a - 48)) Lc Lm (by omega) (by omega) (by omega) hl
      refine ⟨a2, v2, by omega, x2, x3, fun _ _ => by omega, ?_, ?_⟩
      · have one : ((1 : Int32) = 0) = False := eq_false (by decide)
        have e1 : (10 : Int32) * nI v + (nI (B a) - 48) = nI (10 * v + (B a - 48)) := by
          rw [show (10 : Int32) = nI 10 from rfl, show (48 : Int32) = nI 48 from rfl, pk_sub (by omega), pk_mul, nI_add]
        have f3 := rc_at σ0 a Lc false
        have n1 := nI_1 a
        have n2 := nI_1 k
        have sa := rc_sa σ0 a (a + 1) Lc false
        rw [← x5]
        generalize hR : ru (D1 + 3) 42 4 _ [] (rcS σ0 (a + 1) Lc false) = R
        simp only [s42_4]
        simp only [s42_5, s42_6, s42_9, s42_10_o70, s42_13, s42_16, s42_19, s42_21, s42_22, s42_23, s42_24_o70, s42_27, s42_29, s42_30, s42_31, s42_32, s42_33, s42_34_o70, s42_37, s42_38, s42_39_o70, s42_42, s42_45, g, kn, kd, one, e1, f3, n1, n2, up2_rep, sa, simprocAttr, if_true, if_false, true_and, and_true, false_and, and_false, not_false_eq_true, not_true_eq_false, gd_T, kont_i, kont_v]
        exact hR
      · have one : ((1 : Int32) = 0) = False := eq_false (by decide)
        have e1 : (10 : Int32) * nI v + nI (B a) - 48 = nI (10 * v + (B a - 48)) := by
          rw [show (10 : Int32) = nI 10 from rfl, show (48 : Int32) = nI 48 from rfl, pk_mul, nI_add, pk_sub (by omega)]
          congr 1
          omega
        have f3 := rm_at τ0 a Lm false op
        have n1 := nI_1 a
        have n2 := nI_1 k
        have sa := rm_sa τ0 a (a + 1) Lm false op
        rw [← x6]
        generalize hR : ru (D2 + 3) 154 131 _ [] (rmS τ0 (a + 1) Lm false op) = R
        simp only [s154_131]
        simp only [s154_132, s154_133, s154_136, s154_137_o87, s154_140, s154_142, s154_144, s154_147, s154_150, s154_152, s154_153, s154_154, s154_155_o87, s154_158, s154_159, s154_161, s154_162, s154_163, s154_164, s154_165_o87, s154_168, s154_169, s154_170_o87, s154_173, s154_176, g, mh, mw, one, e1, f3, n1, n2, up2_rep, sa, simprocAttr, if_true, if_false, true_and, and_true, false_and, and_false, not_false_eq_true, not_true_eq_false, gd_T, kont_i, kont_v]
        exact hR
    · rw [b2_F q] at kd
      rw [b2_F (by rw [he_dig hm a]; exact q)] at mw
      obtain ⟨b, had⟩ := rc_add (D1 + 2) σ0 a Lc false (nI v)
      have hco := m_codes_f (D2 + 2) τ0 a Lm op (nI v) hl
      have pk : 10 ^ k ≤ 10 ^ 3 := Nat.pow_le_pow_right (by omega) (by omega)
      refine ⟨a, v, by omega, ha, by omega, fun _ h => absurd h q, ?_, ?_⟩
      · simp only [s42_4]
        simp only [s42_5, s42_6, s42_9, s42_10_o70, s42_13, s42_16, s42_19, s42_21, s42_22, s42_23, s42_24_o70, s42_27, s42_29, s42_30, s42_31, s42_32, s42_33, s42_34_o70, s42_37, s42_38, s42_39_o70, s42_42, s42_45, s42_48, s42_49_o70, s42_52, s42_53_o71, s42_56, s42_57, g, kn, kd, had, simprocAttr, if_true, if_false, true_and, and_true, false_and, and_false, not_false_eq_true, not_true_eq_false, gd_T, kont_i, kont_v]
      · simp only [s154_131]
        simp only [s154_132, s154_133, s154_136, s154_137_o87, s154_140, s154_142, s154_144, s154_147, s154_179, s154_180, s154_181_o87, s154_184, s154_187, s154_188, s154_191, s154_192, s154_195, s154_196, s154_197_o87, s154_200, s154_201, s154_202, s154_203_o87, s154_206, s154_209, s154_210, s154_213, s154_214, s154_217, s154_218_o87, s154_221, s154_222_o87, s154_225, s154_228, s154_229, s154_232, s154_233, s154_234_o87, s154_237, s154_238, s154_239_o87, s154_242, s154_243, s154_244_o87, s154_247, g, mh, mw, hco, simprocAttr, if_true, if_false, true_and, and_true, false_and, and_false, not_false_eq_true, not_true_eq_false, gd_T, kont_i, kont_v]
