/-! ===== the call: move ===== -/
abbrev stQ (q : Nat) (x n : Int32) : Prop := 0 ≤ x ∧ 0 ≤ n ∧ n ≤ nI q ∧ x ≤ nI q - n
theorem stQ_n {q : Nat} {x n : Int32} (hq : q ≤ 24) : stQ q x n ↔ ∃ a b : Nat, x = nI a ∧ n = nI b ∧ a + b ≤ q := by
  constructor
  · rintro ⟨h1, h2, h3, h4⟩
    obtain ⟨a, ha, rfl⟩ := nI_of (Int32.not_lt.mpr h1)
    obtain ⟨b, hb, rfl⟩ := nI_of (Int32.not_lt.mpr h2)
    rw [le_nn hb (by omega)] at h3
    rw [pk_sub h3, le_nn ha (by omega)] at h4
    exact ⟨a, b, rfl, rfl, by omega⟩
  · rintro ⟨a, b, rfl, rfl, h⟩
    refine ⟨nI_pos' (by omega), nI_pos' (by omega), by rw [le_nn (by omega) (by omega)]; omega, ?_⟩
    rw [pk_sub (by omega), le_nn (by omega) (by omega)]; omega
def caF (F G : Nat → Int32) (a m : Nat) : Nat → Int32 := fun q => if q < m then F (a + q) else G q
theorem caF_0 (F G : Nat → Int32) (a : Nat) : caF F G a 0 = G := by
  funext q
  unfold caF
  rw [if_neg (by omega)]
theorem caF_s (F G : Nat → Int32) (a m : Nat) : upd (caF F G a m) m (F (a + m)) = caF F G a (m + 1) := by
  funext q
  simp only [upd, caF]
  by_cases c : q = m
  · rw [if_pos c, if_pos (by omega), c]
  · rw [if_neg c]
    by_cases c2 : q < m
    · rw [if_pos c2, if_pos (by omega)]
    · rw [if_neg c2, if_neg (by omega)]
def cbF (F G : Nat → Int32) (b m : Nat) : Nat → Int32 := fun q => if b ≤ q ∧ q < b + m then F (q - b) else G q
theorem cbF_0 (F G : Nat → Int32) (b : Nat) : cbF F G b 0 = G := by
  funext q
  unfold cbF
  rw [if_neg (by omega)]
theorem cbF_s (F G : Nat → Int32) (b m : Nat) : upd (cbF F G b m) (b + m) (F m) = cbF F G b (m + 1) := by
  funext q
  simp only [upd, cbF]
  by_cases c : q = b + m
  · rw [if_pos c, if_pos (by omega), show q - b = m by omega]
  · rw [if_neg c]
    by_cases c2 : b ≤ q ∧ q < b + m
    · rw [if_pos c2, if_pos (by omega)]
    · rw [if_neg c2, if_neg (by omega)]
theorem m_move_1 (d s a n o b : Nat) (hs : s < 4) (ho : o < 4) (ha : a + n ≤ 24) (hb : b + n ≤ 24) (σ : Hs) (G : Nat → Int32) : ∀ m k, k + m = n → ru d 206 127 [.ref 87, .int (nI s), .int (nI a), .int (nI o), .int (nI b), .int (nI n), .int (nI k)] [] (rep σ 103 (caF (σ 102) G (24 * s + a) k)) = ru d 206 161 [.ref 87, .int (nI s), .int (nI a), .int (nI o), .int (nI b), .int (nI n), .int (nI n)] [] (rep σ 103 (caF (σ 102) G (24 * s + a) n)) := by
  intro m
  induction m with
  | zero =>
    intro k hk
    obtain rfl : k = n := by omega
    simp only [s206_127]
    simp only [s206_129, s206_131, Int32.le_refl, simprocAttr, if_true, if_false, true_and, and_true, false_and, and_false, not_false_eq_true, not_true_eq_false, gd_T, kont_i, kont_v]
  | succ m ih =>
    intro k hk
    have e : (nI n ≤ nI k) = False := by rw [le_nn (by omega) (by omega)]; exact eq_false (by omega)
    have ix : (24 : Int32) * nI s + nI a + nI k = nI (24 * s + a + k) := by rw [show (24 : Int32) = nI 24 from rfl, pk_mul, nI_add, nI_add]
    have hi := ih (k + 1) (by omega)
    rw [← hi]
    generalize hR : ru d 206 127 [.ref 87, .int (nI s), .int (nI a), .int (nI o), .int (nI b), .int (nI n), .int (nI (k + 1))] [] _ = R
    simp only [s206_127]
    simp only [s206_129, s206_131, s206_134, s206_135_o87, s206_138, s206_140, s206_141_o87, s206_144, s206_146, s206_147, s206_148, s206_149, s206_150, s206_152, s206_153_o102, s206_154_o103, s206_155, s206_158, e, ix, vp_nI (show k < 24 by omega), cl_nI (show k < 2147483648 by omega), vp_nI (show 24 * s + a + k < 96 by omega), cl_nI (show 24 * s + a + k < 2147483648 by omega), up2_rep, rep_at, rep_rep, caF_s, nI_1, simprocAttr, if_true, if_false, true_and, and_true, false_and, and_false, not_false_eq_true, not_true_eq_false, gd_T, kont_i, kont_v]
    exact hR
theorem m_move_2 (d s a n o b : Nat) (hs : s < 4) (ho : o < 4) (ha : a + n ≤ 24) (hb : b + n ≤ 24) (σ : Hs) (G : Nat → Int32) : ∀ m k, k + m = n → ru d 206 164 [.ref 87, .int (nI s), .int (nI a), .int (nI o), .int (nI b), .int (nI n), .int (nI k)] [] (rep σ 102 (cbF (σ 103) G (24 * o + b) k)) = some (some (.int (nI n)), rep σ 102 (cbF (σ 103) G (24 * o + b) n)) := by
  intro m
  induction m with
  | zero =>
    intro k hk
    obtain rfl : k = n := by omega
    simp only [s206_164]
    simp only [s206_166, s206_168, s206_199, s206_201, Int32.le_refl, simprocAttr, if_true, if_false, true_and, and_true, false_and, and_false, not_false_eq_true, not_true_eq_false, gd_T, kont_i, kont_v]
  | succ m ih =>
    intro k hk
    have e : (nI n ≤ nI k) = False := by rw [le_nn (by omega) (by omega)]; exact eq_false (by omega)
    have ix : (24 : Int32) * nI o + nI b + nI k = nI (24 * o + b + k) := by rw [show (24 : Int32) = nI 24 from rfl, pk_mul, nI_add, nI_add]
    have hi := ih (k + 1) (by omega)
    rw [← hi]
    generalize hR : ru d 206 164 [.ref 87, .int (nI s), .int (nI a), .int (nI o), .int (nI b), .int (nI n), .int (nI (k + 1))] [] _ = R
    simp only [s206_164]
    simp only [s206_166, s206_168, s206_171, s206_172_o87, s206_175, s206_177, s206_178, s206_179, s206_181, s206_182, s206_184, s206_185, s206_186_o87, s206_189, s206_191_o103, s206_192_o102, s206_193, s206_196, e, ix, vp_nI (show k < 24 by omega), cl_nI (show k < 2147483648 by omega), vp_nI (show 24 * o + b + k < 96 by omega), cl_nI (show 24 * o + b + k < 2147483648 by omega), up2_rep, rep_at, rep_rep, cbF_s, nI_1, simprocAttr, if_true, if_false, true_and, and_true, false_and, and_false, not_false_eq_true, not_true_eq_false, gd_T, kont_i, kont_v]
    exact hR
theorem m_move_ok (d s a n o b qs qo : Nat) (hs : s < 4) (ho : o < 4) (hqs : qs ≤ 24) (hqo : qo ≤ 24) (ha : a + n ≤ qs) (hb : b + n ≤ qo) (σ : Hs) (w : Int32) (w0 : ¬ w = 0) (e1 : σ 100 s = w) (e2 : σ 100 o = w) (e3 : σ 101 s = nI qs) (e4 : σ 101 o = nI qo) : ∃ F, callD (d + 100) 206 [.ref 87, .int (nI s), .int (nI a), .int (nI o), .int (nI b), .int (nI n)] σ = some (some (.int (nI n)), rep (rep σ 103 F) 102 (cbF (fun q => σ 102 (24 * s + a + q)) (σ 102) (24 * o + b) n)) := by
  have s31 : s < 2147483648 := by omega
  have o31 : o < 2147483648 := by omega
  have hst : (0 ≤ nI s ∧ nI s ≤ 3) = True := eq_true ⟨nI_pos' s31, nI_le (b := 3) (by omega) (by omega)⟩
  have hot : (0 ≤ nI o ∧ nI o ≤ 3) = True := eq_true ⟨nI_pos' o31, nI_le (b := 3) (by omega) (by omega)⟩
  have h1 := m_move_1 (d + 99) s a n o b hs ho (by omega) (by omega) σ (σ 103) n 0 (by omega)
  rw [caF_0, rep_same, n_0] at h1
  have h2 := m_move_2 (d + 99) s a n o b hs ho (by omega) (by omega) (rep σ 103 (caF (σ 102) (σ 103) (24 * s + a) n)) (σ 102) n 0 (by omega)
  rw [cbF_0, n_0] at h2
  have e0 : rep (rep σ 103 (caF (σ 102) (σ 103) (24 * s + a) n)) 102 (σ 102) = rep σ 103 (caF (σ 102) (σ 103) (24 * s + a) n) := by
    funext q
    rw [rep_at]
    by_cases c : q = 102
    · rw [if_pos c, c, rep_ne (by omega)]
    · rw [if_neg c]
  rw [e0, rep_self] at h2
  refine ⟨caF (σ 102) (σ 103) (24 * s + a) n, ?_⟩
  have ef : cbF (caF (σ 102) (σ 103) (24 * s + a) n) (σ 102) (24 * o + b) n = cbF (fun q => σ 102 (24 * s + a + q)) (σ 102) (24 * o + b) n := by
    funext q
    unfold cbF caF
    by_cases c : 24 * o + b ≤ q ∧ q < 24 * o + b + n
    · rw [if_pos c, if_pos c, if_pos (by omega)]
    · rw [if_neg c, if_neg c]
  rw [ef] at h2
  have w0' := eq_false w0
  have n0 : (nI n < 0) = False := eq_false (nI_pos (by omega))
  have a0 : (nI a < 0) = False := eq_false (nI_pos (by omega))
  have b0 : (nI b < 0) = False := eq_false (nI_pos (by omega))
  have q1 : (0 < lg_cmp (lN (a + n)) (lN qs)) = False := by rw [lg_cmp_gt, pk_lLT (by omega) (by omega)]; exact eq_false (by omega)
  have q2 : (lg_cmp (lN (b + n)) (lN qo) ≤ 0) = True := by rw [lg_cmp_le, pk_lLE (by omega) (by omega)]; exact eq_true (by omega)
  simp only [c206, s206_0, s206_1, s206_4, s206_7, s206_8, s206_11, s206_14, s206_15, s206_17_o87, s206_20, s206_21, s206_22_o87, s206_25, s206_26_o100, s206_27, s206_30, s206_31_o87, s206_34, s206_35_o100, s206_36, s206_39, s206_40, s206_42_o87, s206_45, s206_46, s206_47_o87, s206_50, s206_51_o100, s206_52, s206_53_o87, s206_56, s206_57_o100, s206_58, s206_61, s206_62, s206_64_o87, s206_67, s206_68, s206_70, s206_73, s206_74, s206_77, s206_79, s206_82, s206_83, s206_84, s206_86, s206_87, s206_88, s206_89_o87, s206_92, s206_93_o101, s206_94, s206_95, s206_96, s206_99, s206_101, s206_102, s206_104, s206_105, s206_106, s206_107_o87, s206_110, s206_111_o101, s206_112, s206_113, s206_114, s206_117, s206_118, s206_120_o87, s206_123, s206_124, s206_125, m_isSheet, hst, hot, b2_t, vp_nI hs, cl_nI s31, vp_nI ho, cl_nI o31, e1, e2, e3, e4, w0', n0, a0, b0, nI_l (show a < 2147483648 by omega), nI_l (show b < 2147483648 by omega), nI_l (show n < 2147483648 by omega), nI_l (show qs < 2147483648 by omega), nI_l (show qo < 2147483648 by omega), lN_add, q1, q2, simprocAttr, if_true, if_false, true_and, and_true, false_and, and_false, not_false_eq_true, not_true_eq_false, gd_T, kont_i, kont_v]
  rw [h1]
  simp only [s206_161, s206_162]
  exact h2
theorem m_move_no (d s o qs qo : Nat) (hs : s < 4) (ho : o < 4) (hqs : qs ≤ 24) (hqo : qo ≤ 24) (x y n : Int32) (hn : ¬ (stQ qs x n ∧ stQ qo y n)) (σ : Hs) (w : Int32) (w0 : ¬ w = 0) (e1 : σ 100 s = w) (e2 : σ 100 o = w) (e3 : σ 101 s = nI qs) (e4 : σ 101 o = nI qo) : callD (d + 100) 206 [.ref 87, .int (nI s), .int x, .int (nI o), .int y, .int n] σ = some (some (.int (-1000001)), erM σ 1) := by
  have s31 : s < 2147483648 := by omega
  have o31 : o < 2147483648 := by omega
  have hst : (0 ≤ nI s ∧ nI s ≤ 3) = True := eq_true ⟨nI_pos' s31, nI_le (b := 3) (by omega) (by omega)⟩
  have hot : (0 ≤ nI o ∧ nI o ≤ 3) = True := eq_true ⟨nI_pos' o31, nI_le (b := 3) (by omega) (by omega)⟩
  have w0' := eq_false w0
  by_cases n0 : n < 0
  · have n0' := eq_true n0
    simp only [c206, s206_0, s206_1, s206_4, s206_7, s206_8, s206_11, s206_14, s206_15, s206_17_o87, s206_20, s206_21, s206_22_o87, s206_25, s206_26_o100, s206_27, s206_30, s206_31_o87, s206_34, s206_35_o100, s206_36, s206_39, s206_40, s206_42_o87, s206_45, s206_46, s206_47_o87, s206_50, s206_51_o100, s206_52, s206_53_o87, s206_56, s206_57_o100, s206_58, s206_61, s206_62, s206_64_o87, s206_67, s206_68, s206_70, s206_73, s206_74, s206_77, s206_79, s206_82, s206_83, s206_84, s206_86, s206_87, s206_88, s206_89_o87, s206_92, s206_93_o101, s206_94, s206_95, s206_96, s206_99, s206_101, s206_102, s206_104, s206_105, s206_106, s206_107_o87, s206_110, s206_111_o101, s206_112, s206_113, s206_114, s206_117, s206_118, s206_120_o87, s206_123, s206_124, s206_125, m_isSheet, hst, hot, b2_t, vp_nI hs, cl_nI s31, vp_nI ho, cl_nI o31, e1, e2, w0', n0', m_fin_1, simprocAttr, if_true, if_false, true_and, and_true, false_and, and_false, not_false_eq_true, not_true_eq_false, gd_T, kont_i, kont_v]
  have n0' := eq_false n0
  by_cases x0 : x < 0
  · have x0' := eq_true x0
    simp only [c206, s206_0, s206_1, s206_4, s206_7, s206_8, s206_11, s206_14, s206_15, s206_17_o87, s206_20, s206_21, s206_22_o87, s206_25, s206_26_o100, s206_27, s206_30, s206_31_o87, s206_34, s206_35_o100, s206_36, s206_39, s206_40, s206_42_o87, s206_45, s206_46, s206_47_o87, s206_50, s206_51_o100, s206_52, s206_53_o87, s206_56, s206_57_o100, s206_58, s206_61, s206_62, s206_64_o87, s206_67, s206_68, s206_70, s206_73, s206_74, s206_77, s206_79, s206_82, s206_83, s206_84, s206_86, s206_87, s206_88, s206_89_o87, s206_92, s206_93_o101, s206_94, s206_95, s206_96, s206_99, s206_101, s206_102, s206_104, s206_105, s206_106, s206_107_o87, s206_110, s206_111_o101, s206_112, s206_113, s206_114, s206_117, s206_118, s206_120_o87, s206_123, s206_124, s206_125, m_isSheet, hst, hot, b2_t, vp_nI hs, cl_nI s31, vp_nI ho, cl_nI o31, e1, e2, w0', n0', x0', m_fin_1, simprocAttr, if_true, if_false, true_and, and_true, false_and, and_false, not_false_eq_true, not_true_eq_false, gd_T, kont_i, kont_v]
  have x0' := eq_false x0
  by_cases y0 : y < 0
  · have y0' := eq_true y0
    simp only [c206, s206_0, s206_1, s206_4, s206_7, s206_8, s206_11, s206_14, s206_15, s206_17_o87, s206_20, s206_21, s206_22_o87, s206_25, s206_26_o100, s206_27, s206_30, s206_31_o87, s206_34, s206_35_o100, s206_36, s206_39, s206_40, s206_42_o87, s206_45, s206_46, s206_47_o87, s206_50, s206_51_o100, s206_52, s206_53_o87, s206_56, s206_57_o100, s206_58, s206_61, s206_62, s206_64_o87, s206_67, s206_68, s206_70, s206_73, s206_74, s206_77, s206_79, s206_82, s206_83, s206_84, s206_86, s206_87, s206_88, s206_89_o87, s206_92, s206_93_o101, s206_94, s206_95, s206_96, s206_99, s206_101, s206_102, s206_104, s206_105, s206_106, s206_107_o87, s206_110, s206_111_o101, s206_112, s206_113, s206_114, s206_117, s206_118, s206_120_o87, s206_123, s206_124, s206_125, m_isSheet, hst, hot, b2_t, vp_nI hs, cl_nI s31, vp_nI ho, cl_nI o31, e1, e2, w0', n0', x0', y0', m_fin_1, simprocAttr, if_true, if_false, true_and, and_true, false_and, and_false, not_false_eq_true, not_true_eq_false, gd_T, kont_i, kont_v]
  have y0' := eq_false y0
  obtain ⟨nn, ln, rfl⟩ := nI_of n0
  obtain ⟨a, la, rfl⟩ := nI_of x0
  obtain ⟨b, lb, rfl⟩ := nI_of y0
  by_cases c1 : qs < a + nn
  · have q1 : (0 < lg_cmp (lN (a + nn)) (lN qs)) = True := by rw [lg_cmp_gt, pk_lLT (by omega) (by omega)]; exact eq_true c1
    simp only [c206, s206_0, s206_1, s206_4, s206_7, s206_8, s206_11, s206_14, s206_15, s206_17_o87, s206_20, s206_21, s206_22_o87, s206_25, s206_26_o100, s206_27, s206_30, s206_31_o87, s206_34, s206_35_o100, s206_36, s206_39, s206_40, s206_42_o87, s206_45, s206_46, s206_47_o87, s206_50, s206_51_o100, s206_52, s206_53_o87, s206_56, s206_57_o100, s206_58, s206_61, s206_62, s206_64_o87, s206_67, s206_68, s206_70, s206_73, s206_74, s206_77, s206_79, s206_82, s206_83, s206_84, s206_86, s206_87, s206_88, s206_89_o87, s206_92, s206_93_o101, s206_94, s206_95, s206_96, s206_99, s206_101, s206_102, s206_104, s206_105, s206_106, s206_107_o87, s206_110, s206_111_o101, s206_112, s206_113, s206_114, s206_117, s206_118, s206_120_o87, s206_123, s206_124, s206_125, m_isSheet, hst, hot, b2_t, vp_nI hs, cl_nI s31, vp_nI ho, cl_nI o31, e1, e2, e3, w0', n0', x0', y0', nI_l la, nI_l ln, nI_l (show qs < 2147483648 by omega), lN_add, q1, m_fin_1, simprocAttr, if_true, if_false, true_and, and_true, false_and, and_false, not_false_eq_true, not_true_eq_false, gd_T, kont_i, kont_v]
  · have q1 : (0 < lg_cmp (lN (a + nn)) (lN qs)) = False := by rw [lg_cmp_gt, pk_lLT (by omega) (by omega)]; exact eq_false c1
    have c2 : qo < b + nn := by
      refine Nat.lt_of_not_le (fun q => hn ⟨?_, ?_⟩)
      · exact (stQ_n hqs).mpr ⟨a, nn, rfl, rfl, by omega⟩
      · exact (stQ_n hqo).mpr ⟨b, nn, rfl, rfl, by omega⟩
    have q2 : (lg_cmp (lN (b + nn)) (lN qo) ≤ 0) = False := by rw [lg_cmp_le, pk_lLE (by omega) (by omega)]; exact eq_false (by omega)
    simp only [c206, s206_0, s206_1, s206_4, s206_7, s206_8, s206_11, s206_14, s206_15, s206_17_o87, s206_20, s206_21, s206_22_o87, s206_25, s206_26_o100, s206_27, s206_30, s206_31_o87, s206_34, s206_35_o100, s206_36, s206_39, s206_40, s206_42_o87, s206_45, s206_46, s206_47_o87, s206_50, s206_51_o100, s206_52, s206_53_o87, s206_56, s206_57_o100, s206_58, s206_61, s206_62, s206_64_o87, s206_67, s206_68, s206_70, s206_73, s206_74, s206_77, s206_79, s206_82, s206_83, s206_84, s206_86, s206_87, s206_88, s206_89_o87, s206_92, s206_93_o101, s206_94, s206_95, s206_96, s206_99, s206_101, s206_102, s206_104, s206_105, s206_106, s206_107_o87, s206_110, s206_111_o101, s206_112, s206_113, s206_114, s206_117, s206_118, s206_120_o87, s206_123, s206_124, s206_125, m_isSheet, hst, hot, b2_t, vp_nI hs, cl_nI s31, vp_nI ho, cl_nI o31, e1, e2, e3, e4, w0', n0', x0', y0', nI_l la, nI_l lb, nI_l ln, nI_l (show qs < 2147483648 by omega), nI_l (show qo < 2147483648 by omega), lN_add, q1, q2, m_fin_1, simprocAttr, if_true, if_false, true_and, and_true, false_and, and_false, not_false_eq_true, not_true_eq_false, gd_T, kont_i, kont_v]
theorem bnd_m {σ : Hs} {x y a b n : Nat} (h : x < 104 ∧ y < 104 ∧ (shp x).1 = 10 ∧ (shp y).1 = 10 ∧ (shp x).2 = 24 ∧ (shp y).2 = 24) (ha : a + n ≤ 24) (hb : b + n ≤ 24) : bndC σ x y (nI a) (nI b) (nI n) = True := by
  obtain ⟨h1, h2, h3, h4, h5, h6⟩ := h
  refine eq_true ⟨h1, h2, Or.inl h3, h4.trans h3.symm, nI_pos (by omega), nI_pos (by omega), nI_pos (by omega), ?_, ?_, fun h => ?_⟩
  · rw [cl_nI (by omega), cl_nI (by omega), h6]; exact ha
  · rw [cl_nI (by omega), cl_nI (by omega), h5]; exact hb
  · rw [h3] at h; cases h
/-- what SHr says when one row of numbers changes -/
theorem SHr_num {σ σ2 : Hs} (h : SHr σ) {o : Nat} (ho : o < 4) (f : ∀ x, ((77 ≤ x ∧ x ≤ 84 ∧ x ≠ 78 + 2 * o) ∨ x = 100 ∨ x = 101) → σ2 x = σ x) (e1 : ∀ k, k < 24 → σ2 (78 + 2 * o) k = σ2 102 (24 * o + k)) (e2 : ∀ k, (k < 24 * o ∨ 24 * o + 24 ≤ k) → σ2 102 k = σ 102 k) : SHr σ2 := by
  intro q hq
  obtain ⟨⟨a1, a2⟩, m, m1, m2, m3, m4⟩ := h q hq
  refine ⟨⟨?_, ?_⟩, m, m1, ?_, ?_, fun k hk => ?_⟩
  · rw [f _ (by omega), f 100 (by omega)]; exact a1
  · rw [f 100 (by omega)]; exact a2
  · rw [f _ (by omega)]; exact m2
  · rw [f 101 (by omega)]; exact m3
  · by_cases c : q = o
    · rw [c]; exact e1 k hk
    · rw [f _ (by omega), e2 _ (by omega)]; exact m4 k hk
theorem L_move_0_0 {i : Nat} {σ : Hs} (h : RR i σ) (d : Nat) (x y n : Int32) : Step d i 91 206 [.int (nI 0), .int x, .int (nI 0), .int y, .int n] σ := by
  have hst : (0 ≤ nI 0 ∧ nI 0 ≤ 3) = True := eq_true (by decide +kernel)
  have hot : (0 ≤ nI 0 ∧ nI 0 ≤ 3) = True := eq_true (by decide +kernel)
  obtain ⟨⟨a1, a2⟩, qs, p1, p2, p3, p4⟩ := h.2.2.2.2.2.2.1 0 (by omega)
  obtain ⟨⟨b1, b2_⟩, qo, r1, r2, r3, r4⟩ := h.2.2.2.2.2.2.1 0 (by omega)
  have a1 : σ 77 1 = σ 100 0 := a1
  have b1 : σ 77 1 = σ 100 0 := b1
  have p2 : σ 77 2 = nI qs := p2
  have r2 : σ 77 2 = nI qo := r2
  have vs : vp_in (nI 0) 4 = True := vp_nI (by omega) (by omega)
  have vo : vp_in (nI 0) 4 = True := vp_nI (by omega) (by omega)
  have cs : (nI 0).toNatClampNeg = 0 := cl_nI (by omega)
  have co : (nI 0).toNatClampNeg = 0 := cl_nI (by omega)
  have ms := k_isMissing_0 (d + 98) σ _ a1
  have mo_ := k_isMissing_0 (d + 98) σ _ b1
  have g100 : ∀ k, erC σ k 100 = σ 100 := fun k => rep_ne (by omega)
  have g101 : ∀ k, erC σ k 101 = σ 101 := fun k => rep_ne (by omega)
  by_cases w1 : σ 100 0 = 0
  · refine Step_err h 2 (v := -1000002) ?_ ?_
    · simp only [c91, s91_0, s91_1, s91_4, s91_7, s91_8, s91_11, s91_14, s91_15, s91_16_o0, s91_19, s91_20, s91_21_o0, s91_24, s91_25_o76, s91_26, s91_28, s91_29_o0, s91_32, s91_33_o76, s91_34, s91_36, s91_38_o77, s91_38_o79, s91_38_o81, s91_38_o83, s91_41, s91_44, s91_46_o77, s91_46_o79, s91_46_o81, s91_46_o83, s91_49, s91_52, s91_53, s91_54_o0, s91_57, s91_58, s91_60_o77, s91_60_o79, s91_60_o81, s91_60_o83, s91_63, s91_65_o77, s91_65_o79, s91_65_o81, s91_65_o83, s91_68, s91_71, s91_72, s91_73_o0, s91_76, s91_77, s91_79, s91_80, s91_82_o77, s91_82_o79, s91_82_o81, s91_82_o83, s91_85, s91_88, s91_90, s91_92, s91_94_o77, s91_94_o79, s91_94_o81, s91_94_o83, s91_97, s91_100, s91_101, s91_102_o0, s91_105, s91_106, s91_108_o77, s91_108_o79, s91_108_o81, s91_108_o83, s91_111, s91_112, s91_114_o77, s91_114_o79, s91_114_o81, s91_114_o83, s91_117, s91_119, s91_121, s91_124, s91_126, k_isSheet, hst, hot, b2_t, vs, vo, cs, co, cr76_0, cr76_0, ms, b2_T w1, k_failed_2, simprocAttr, if_true, if_false, true_and, and_true, false_and, and_false, not_false_eq_true, not_true_eq_false, gd_T, kont_i, kont_v]
    · simp only [c206, s206_0, s206_1, s206_4, s206_7, s206_8, s206_11, s206_14, s206_15, s206_17_o87, s206_20, s206_21, s206_22_o87, s206_25, s206_26_o100, s206_27, s206_30, s206_31_o87, s206_34, s206_35_o100, s206_36, s206_39, s206_40, s206_42_o87, s206_45, s206_46, s206_47_o87, s206_50, s206_51_o100, s206_52, s206_53_o87, s206_56, s206_57_o100, s206_58, s206_61, s206_62, s206_64_o87, s206_67, s206_68, s206_70, s206_73, s206_74, s206_77, s206_79, s206_82, s206_83, s206_84, s206_86, s206_87, s206_88, s206_89_o87, s206_92, s206_93_o101, s206_94, s206_95, s206_96, s206_99, s206_101, s206_102, s206_104, s206_105, s206_106, s206_107_o87, s206_110, s206_111_o101, s206_112, s206_113, s206_114, s206_117, s206_118, s206_120_o87, s206_123, s206_124, s206_125, m_isSheet, hst, hot, b2_t, vs, vo, cs, co, g100, w1, m_fin_2, simprocAttr, if_true, if_false, true_and, and_true, false_and, and_false, not_false_eq_true, not_true_eq_false, gd_T, kont_i, kont_v]
  by_cases w2 : σ 100 0 = 0
  · first
      | exact absurd w2 w1
      | (refine Step_err h 2 (v := -1000002) ?_ ?_
         · simp only [c91, s91_0, s91_1, s91_4, s91_7, s91_8, s91_11, s91_14, s91_15, s91_16_o0, s91_19, s91_20, s91_21_o0, s91_24, s91_25_o76, s91_26, s91_28, s91_29_o0, s91_32, s91_33_o76, s91_34, s91_36, s91_38_o77, s91_38_o79, s91_38_o81, s91_38_o83, s91_41, s91_44, s91_46_o77, s91_46_o79, s91_46_o81, s91_46_o83, s91_49, s91_52, s91_53, s91_54_o0, s91_57, s91_58, s91_60_o77, s91_60_o79, s91_60_o81, s91_60_o83, s91_63, s91_65_o77, s91_65_o79, s91_65_o81, s91_65_o83, s91_68, s91_71, s91_72, s91_73_o0, s91_76, s91_77, s91_79, s91_80, s91_82_o77, s91_82_o79, s91_82_o81, s91_82_o83, s91_85, s91_88, s91_90, s91_92, s91_94_o77, s91_94_o79, s91_94_o81, s91_94_o83, s91_97, s91_100, s91_101, s91_102_o0, s91_105, s91_106, s91_108_o77, s91_108_o79, s91_108_o81, s91_108_o83, s91_111, s91_112, s91_114_o77, s91_114_o79, s91_114_o81, s91_114_o83, s91_117, s91_119, s91_121, s91_124, s91_126, k_isSheet, hst, hot, b2_t, vs, vo, cs, co, cr76_0, cr76_0, ms, mo_, b2_F w1, b2_T w2, k_failed_2, simprocAttr, if_true, if_false, true_and, and_true, false_and, and_false, not_false_eq_true, not_true_eq_false, gd_T, kont_i, kont_v]
         · have w1' := eq_false w1
           simp only [c206, s206_0, s206_1, s206_4, s206_7, s206_8, s206_11, s206_14, s206_15, s206_17_o87, s206_20, s206_21, s206_22_o87, s206_25, s206_26_o100, s206_27, s206_30, s206_31_o87, s206_34, s206_35_o100, s206_36, s206_39, s206_40, s206_42_o87, s206_45, s206_46, s206_47_o87, s206_50, s206_51_o100, s206_52, s206_53_o87, s206_56, s206_57_o100, s206_58, s206_61, s206_62, s206_64_o87, s206_67, s206_68, s206_70, s206_73, s206_74, s206_77, s206_79, s206_82, s206_83, s206_84, s206_86, s206_87, s206_88, s206_89_o87, s206_92, s206_93_o101, s206_94, s206_95, s206_96, s206_99, s206_101, s206_102, s206_104, s206_105, s206_106, s206_107_o87, s206_110, s206_111_o101, s206_112, s206_113, s206_114, s206_117, s206_118, s206_120_o87, s206_123, s206_124, s206_125, m_isSheet, hst, hot, b2_t, vs, vo, cs, co, g100, w1', w2, m_fin_2, simprocAttr, if_true, if_false, true_and, and_true, false_and, and_false, not_false_eq_true, not_true_eq_false, gd_T, kont_i, kont_v])
  by_cases w3 : σ 100 0 = σ 100 0
  · have k1 := k_stand_0 (d + 98) x n σ _ p2
    have k2 := k_stand_0 (d + 98) y n σ _ r2
    by_cases c1 : stQ qs x n
    · rw [b2_T c1] at k1
      by_cases c2 : stQ qo y n
      · rw [b2_T c2] at k2
        obtain ⟨a, nn, rfl, rfl, hq1⟩ := (stQ_n p1).mp c1
        obtain ⟨b, nn2, rfl, en, hq2⟩ := (stQ_n r1).mp c2
        have : nn = nn2 := by
          obtain ⟨-, h2, h3, -⟩ := c2
          have hb2 : nn2 ≤ qo := by omega
          rw [nI_eq (by omega) (by omega)] at en
          exact en
        subst this
        have hb := bnd_m (σ := σ) (x := 78) (y := 78) (a := a) (b := b) (n := nn) (by decide +kernel) (by omega) (by omega)
        have e1 : callD (d + 100) 91 [.ref 0, .int (nI 0), .int (nI a), .int (nI 0), .int (nI b), .int (nI nn)] σ = some (some (.int (nI nn)), rep σ 78 (va_cpy (σ 78) (σ 78) a b nn)) := by
          simp only [c91, s91_0, s91_1, s91_4, s91_7, s91_8, s91_11, s91_14, s91_15, s91_16_o0, s91_19, s91_20, s91_21_o0, s91_24, s91_25_o76, s91_26, s91_28, s91_29_o0, s91_32, s91_33_o76, s91_34, s91_36, s91_38_o77, s91_38_o79, s91_38_o81, s91_38_o83, s91_41, s91_44, s91_46_o77, s91_46_o79, s91_46_o81, s91_46_o83, s91_49, s91_52, s91_53, s91_54_o0, s91_57, s91_58, s91_60_o77, s91_60_o79, s91_60_o81, s91_60_o83, s91_63, s91_65_o77, s91_65_o79, s91_65_o81, s91_65_o83, s91_68, s91_71, s91_72, s91_73_o0, s91_76, s91_77, s91_79, s91_80, s91_82_o77, s91_82_o79, s91_82_o81, s91_82_o83, s91_85, s91_88, s91_90, s91_92, s91_94_o77, s91_94_o79, s91_94_o81, s91_94_o83, s91_97, s91_100, s91_101, s91_102_o0, s91_105, s91_106, s91_108_o77, s91_108_o79, s91_108_o81, s91_108_o83, s91_111, s91_112, s91_114_o77, s91_114_o79, s91_114_o81, s91_114_o83, s91_117, s91_119, s91_121, s91_124, s91_126, k_isSheet, hst, hot, b2_t, vs, vo, cs, co, cr76_0, cr76_0, ms, mo_, b2_F w1, b2_F w2, a1, b1, w3, k1, k2, hb, cl_nI (show a < 2147483648 by omega), cl_nI (show b < 2147483648 by omega), cl_nI (show nn < 2147483648 by omega), cp2_rep, simprocAttr, if_true, if_false, true_and, and_true, false_and, and_false, not_false_eq_true, not_true_eq_false, gd_T, kont_i, kont_v]
        obtain ⟨F, e2⟩ := m_move_ok d 0 a nn 0 b qs qo (by omega) (by omega) p1 r1 hq1 hq2 (rep σ 78 (va_cpy (σ 78) (σ 78) a b nn)) (σ 100 0) w1 (by rw [rep_ne (by omega)]) (by first | (rw [rep_ne (by omega)]; exact w3.symm) | rw [rep_ne (by omega)]) (by rw [rep_ne (by omega)]; exact p3) (by rw [rep_ne (by omega)]; exact r3)
        rw [rep_ne (show 102 ≠ 78 by omega)] at e2
        refine ⟨_, _, _, e1, e2, h.shx (SHr_num (o := 0) h.2.2.2.2.2.2.1 (by omega) (fun z hz => ?_) (fun k hk => ?_) (fun k hk => ?_)) (h.wb.two e1 e2) (fun z hz => ?_)⟩
        · rw [rep_ne (by omega), rep_ne (by omega), rep_ne (by omega)]
        · rw [rep_ne (by omega), rep_ne (by omega), rep_self, rep_self]
          unfold cbF
          by_cases c : b ≤ k ∧ k < b + nn
          · rw [pk_cpy_in c.1 c.2, if_pos (by omega)]
            have := p4 (a + (k - b)) (by omega)
            rw [show σ 78 (a + (k - b)) = σ 102 (24 * 0 + (a + (k - b))) from this]
            congr 1
            omega
          · rw [pk_cpy_out (by omega), if_neg (by omega)]
            exact r4 k hk
        · rw [rep_self]
          unfold cbF
          rw [if_neg (by omega)]
        · rw [rep_ne (by omega), rep_ne (by omega), rep_ne (by omega)]
      · rw [b2_F c2] at k2
        refine Step_err h 1 (v := -1000001) ?_ ?_
        · simp only [c91, s91_0, s91_1, s91_4, s91_7, s91_8, s91_11, s91_14, s91_15, s91_16_o0, s91_19, s91_20, s91_21_o0, s91_24, s91_25_o76, s91_26, s91_28, s91_29_o0, s91_32, s91_33_o76, s91_34, s91_36, s91_38_o77, s91_38_o79, s91_38_o81, s91_38_o83, s91_41, s91_44, s91_46_o77, s91_46_o79, s91_46_o81, s91_46_o83, s91_49, s91_52, s91_53, s91_54_o0, s91_57, s91_58, s91_60_o77, s91_60_o79, s91_60_o81, s91_60_o83, s91_63, s91_65_o77, s91_65_o79, s91_65_o81, s91_65_o83, s91_68, s91_71, s91_72, s91_73_o0, s91_76, s91_77, s91_79, s91_80, s91_82_o77, s91_82_o79, s91_82_o81, s91_82_o83, s91_85, s91_88, s91_90, s91_92, s91_94_o77, s91_94_o79, s91_94_o81, s91_94_o83, s91_97, s91_100, s91_101, s91_102_o0, s91_105, s91_106, s91_108_o77, s91_108_o79, s91_108_o81, s91_108_o83, s91_111, s91_112, s91_114_o77, s91_114_o79, s91_114_o81, s91_114_o83, s91_117, s91_119, s91_121, s91_124, s91_126, k_isSheet, hst, hot, b2_t, vs, vo, cs, co, cr76_0, cr76_0, ms, mo_, b2_F w1, b2_F w2, a1, b1, w3, k1, k2, k_failed_1, simprocAttr, if_true, if_false, true_and, and_true, false_and, and_false, not_false_eq_true, not_true_eq_false, gd_T, kont_i, kont_v]
        · exact m_move_no d 0 0 qs qo (by omega) (by omega) p1 r1 x y n (fun q => c2 q.2) (erC σ 1) (σ 100 0) w1 (by rw [g100]) (by first | (rw [g100]; exact w3.symm) | rw [g100]) (by rw [g101]; exact p3) (by rw [g101]; exact r3)
    · rw [b2_F c1] at k1
      refine Step_err h 1 (v := -1000001) ?_ ?_
      · simp only [c91, s91_0, s91_1, s91_4, s91_7, s91_8, s91_11, s91_14, s91_15, s91_16_o0, s91_19, s91_20, s91_21_o0, s91_24, s91_25_o76, s91_26, s91_28, s91_29_o0, s91_32, s91_33_o76, s91_34, s91_36, s91_38_o77, s91_38_o79, s91_38_o81, s91_38_o83, s91_41, s91_44, s91_46_o77, s91_46_o79, s91_46_o81, s91_46_o83, s91_49, s91_52, s91_53, s91_54_o0, s91_57, s91_58, s91_60_o77, s91_60_o79, s91_60_o81, s91_60_o83, s91_63, s91_65_o77, s91_65_o79, s91_65_o81, s91_65_o83, s91_68, s91_71, s91_72, s91_73_o0, s91_76, s91_77, s91_79, s91_80, s91_82_o77, s91_82_o79, s91_82_o81, s91_82_o83, s91_85, s91_88, s91_90, s91_92, s91_94_o77, s91_94_o79, s91_94_o81, s91_94_o83, s91_97, s91_100, s91_101, s91_102_o0, s91_105, s91_106, s91_108_o77, s91_108_o79, s91_108_o81, s91_108_o83, s91_111, s91_112, s91_114_o77, s91_114_o79, s91_114_o81, s91_114_o83, s91_117, s91_119, s91_121, s91_124, s91_126, k_isSheet, hst, hot, b2_t, vs, vo, cs, co, cr76_0, cr76_0, ms, mo_, b2_F w1, b2_F w2, a1, b1, w3, k1, k_failed_1, simprocAttr, if_true, if_false, true_and, and_true, false_and, and_false, not_false_eq_true, not_true_eq_false, gd_T, kont_i, kont_v]
      · exact m_move_no d 0 0 qs qo (by omega) (by omega) p1 r1 x y n (fun q => c1 q.1) (erC σ 1) (σ 100 0) w1 (by rw [g100]) (by first | (rw [g100]; exact w3.symm) | rw [g100]) (by rw [g101]; exact p3) (by rw [g101]; exact r3)
  · first
      | exact absurd rfl w3
      | (have w1' := eq_false w1
         have w2' := eq_false w2
         have w3' := eq_false w3
         refine Step_err h 5 (v := -1000005) ?_ ?_
         · simp only [c91, s91_0, s91_1, s91_4, s91_7, s91_8, s91_11, s91_14, s91_15, s91_16_o0, s91_19, s91_20, s91_21_o0, s91_24, s91_25_o76, s91_26, s91_28, s91_29_o0, s91_32, s91_33_o76, s91_34, s91_36, s91_38_o77, s91_38_o79, s91_38_o81, s91_38_o83, s91_41, s91_44, s91_46_o77, s91_46_o79, s91_46_o81, s91_46_o83, s91_49, s91_52, s91_53, s91_54_o0, s91_57, s91_58, s91_60_o77, s91_60_o79, s91_60_o81, s91_60_o83, s91_63, s91_65_o77, s91_65_o79, s91_65_o81, s91_65_o83, s91_68, s91_71, s91_72, s91_73_o0, s91_76, s91_77, s91_79, s91_80, s91_82_o77, s91_82_o79, s91_82_o81, s91_82_o83, s91_85, s91_88, s91_90, s91_92, s91_94_o77, s91_94_o79, s91_94_o81, s91_94_o83, s91_97, s91_100, s91_101, s91_102_o0, s91_105, s91_106, s91_108_o77, s91_108_o79, s91_108_o81, s91_108_o83, s91_111, s91_112, s91_114_o77, s91_114_o79, s91_114_o81, s91_114_o83, s91_117, s91_119, s91_121, s91_124, s91_126, k_isSheet, hst, hot, b2_t, vs, vo, cs, co, cr76_0, cr76_0, ms, mo_, b2_F w1, b2_F w2, a1, b1, w3', k_failed_5, simprocAttr, if_true, if_false, true_and, and_true, false_and, and_false, not_false_eq_true, not_true_eq_false, gd_T, kont_i, kont_v]
         · simp only [c206, s206_0, s206_1, s206_4, s206_7, s206_8, s206_11, s206_14, s206_15, s206_17_o87, s206_20, s206_21, s206_22_o87, s206_25, s206_26_o100, s206_27, s206_30, s206_31_o87, s206_34, s206_35_o100, s206_36, s206_39, s206_40, s206_42_o87, s206_45, s206_46, s206_47_o87, s206_50, s206_51_o100, s206_52, s206_53_o87, s206_56, s206_57_o100, s206_58, s206_61, s206_62, s206_64_o87, s206_67, s206_68, s206_70, s206_73, s206_74, s206_77, s206_79, s206_82, s206_83, s206_84, s206_86, s206_87, s206_88, s206_89_o87, s206_92, s206_93_o101, s206_94, s206_95, s206_96, s206_99, s206_101, s206_102, s206_104, s206_105, s206_106, s206_107_o87, s206_110, s206_111_o101, s206_112, s206_113, s206_114, s206_117, s206_118, s206_120_o87, s206_123, s206_124, s206_125, m_isSheet, hst, hot, b2_t, vs, vo, cs, co, g100, w1', w2', w3', m_fin_5, simprocAttr, if_true, if_false, true_and, and_true, false_and, and_false, not_false_eq_true, not_true_eq_false, gd_T, kont_i, kont_v])
theorem L_move_0_1 {i : Nat} {σ : Hs} (h : RR i σ) (d : Nat) (x y n : Int32) : Step d i 91 206 [.int (nI 0), .int x, .int (nI 1), .int y, .int n] σ := by
  have hst : (0 ≤ nI 0 ∧ nI 0 ≤ 3) = True := eq_true (by decide +kernel)
  have hot : (0 ≤ nI 1 ∧ nI 1 ≤ 3) = True := eq_true (by decide +kernel)
  obtain ⟨⟨a1, a2⟩, qs, p1, p2, p3, p4⟩ := h.2.2.2.2.2.2.1 0 (by omega)
  obtain ⟨⟨b1, b2_⟩, qo, r1, r2, r3, r4⟩ := h.2.2.2.2.2.2.1 1 (by omega)
  have a1 : σ 77 1 = σ 100 0 := a1
  have b1 : σ 79 1 = σ 100 1 := b1
  have p2 : σ 77 2 = nI qs := p2
  have r2 : σ 79 2 = nI qo := r2
  have vs : vp_in (nI 0) 4 = True := vp_nI (by omega) (by omega)
  have vo : vp_in (nI 1) 4 = True := vp_nI (by omega) (by omega)
  have cs : (nI 0).toNatClampNeg = 0 := cl_nI (by omega)
  have co : (nI 1).toNatClampNeg = 1 := cl_nI (by omega)
  have ms := k_isMissing_0 (d + 98) σ _ a1
  have mo_ := k_isMissing_1 (d + 98) σ _ b1
  have g100 : ∀ k, erC σ k 100 = σ 100 := fun k => rep_ne (by omega)
  have g101 : ∀ k, erC σ k 101 = σ 101 := fun k => rep_ne (by omega)
  by_cases w1 : σ 100 0 = 0
  · refine Step_err h 2 (v := -1000002) ?_ ?_
    · simp only [c91, s91_0, s91_1, s91_4, s91_7, s91_8, s91_11, s91_14, s91_15, s91_16_o0, s91_19, s91_20, s91_21_o0, s91_24, s91_25_o76, s91_26, s91_28, s91_29_o0, s91_32, s91_33_o76, s91_34, s91_36, s91_38_o77, s91_38_o79, s91_38_o81, s91_38_o83, s91_41, s91_44, s91_46_o77, s91_46_o79, s91_46_o81, s91_46_o83, s91_49, s91_52, s91_53, s91_54_o0, s91_57, s91_58, s91_60_o77, s91_60_o79, s91_60_o81, s91_60_o83, s91_63, s91_65_o77, s91_65_o79, s91_65_o81, s91_65_o83, s91_68, s91_71, s91_72, s91_73_o0, s91_76, s91_77, s91_79, s91_80, s91_82_o77, s91_82_o79, s91_82_o81, s91_82_o83, s91_85, s91_88, s91_90, s91_92, s91_94_o77, s91_94_o79, s91_94_o81, s91_94_o83, s91_97, s91_100, s91_101, s91_102_o0, s91_105, s91_106, s91_108_o77, s91_108_o79, s91_108_o81, s91_108_o83, s91_111, s91_112, s91_114_o77, s91_114_o79, s91_114_o81, s91_114_o83, s91_117, s91_119, s91_121, s91_124, s91_126, k_isSheet, hst, hot, b2_t, vs, vo, cs, co, cr76_0, cr76_1, ms, b2_T w1, k_failed_2, simprocAttr, if_true, if_false, true_and, and_true, false_and, and_false, not_false_eq_true, not_true_eq_false, gd_T, kont_i, kont_v]
    · simp only [c206, s206_0, s206_1, s206_4, s206_7, s206_8, s206_11, s206_14, s206_15, s206_17_o87, s206_20, s206_21, s206_22_o87, s206_25, s206_26_o100, s206_27, s206_30, s206_31_o87, s206_34, s206_35_o100, s206_36, s206_39, s206_40, s206_42_o87, s206_45, s206_46, s206_47_o87, s206_50, s206_51_o100, s206_52, s206_53_o87, s206_56, s206_57_o100, s206_58, s206_61, s206_62, s206_64_o87, s206_67, s206_68, s206_70, s206_73, s206_74, s206_77, s206_79, s206_82, s206_83, s206_84, s206_86, s206_87, s206_88, s206_89_o87, s206_92, s206_93_o101, s206_94, s206_95, s206_96, s206_99, s206_101, s206_102, s206_104, s206_105, s206_106, s206_107_o87, s206_110, s206_111_o101, s206_112, s206_113, s206_114, s206_117, s206_118, s206_120_o87, s206_123, s206_124, s206_125, m_isSheet, hst, hot, b2_t, vs, vo, cs, co, g100, w1, m_fin_2, simprocAttr, if_true, if_false, true_and, and_true, false_and, and_false, not_false_eq_true, not_true_eq_false, gd_T, kont_i, kont_v]
  by_cases w2 : σ 100 1 = 0
  · first
      | exact absurd w2 w1
      | (refine Step_err h 2 (v := -1000002) ?_ ?_
         · simp only [c91, s91_0, s91_1, s91_4, s91_7, s91_8, s91_11, s91_14, s91_15, s91_16_o0, s91_19, s91_20, s91_21_o0, s91_24, s91_25_o76, s91_26, s91_28, s91_29_o0, s91_32, s91_33_o76, s91_34, s91_36, s91_38_o77, s91_38_o79, s91_38_o81, s91_38_o83, s91_41, s91_44, s91_46_o77, s91_46_o79, s91_46_o81, s91_46_o83, s91_49, s91_52, s91_53, s91_54_o0, s91_57, s91_58, s91_60_o77, s91_60_o79, s91_60_o81, s91_60_o83, s91_63, s91_65_o77, s91_65_o79, s91_65_o81, s91_65_o83, s91_68, s91_71, s91_72, s91_73_o0, s91_76, s91_77, s91_79, s91_80, s91_82_o77, s91_82_o79, s91_82_o81, s91_82_o83, s91_85, s91_88, s91_90, s91_92, s91_94_o77, s91_94_o79, s91_94_o81, s91_94_o83, s91_97, s91_100, s91_101, s91_102_o0, s91_105, s91_106, s91_108_o77, s91_108_o79, s91_108_o81, s91_108_o83, s91_111, s91_112, s91_114_o77, s91_114_o79, s91_114_o81, s91_114_o83, s91_117, s91_119, s91_121, s91_124, s91_126, k_isSheet, hst, hot, b2_t, vs, vo, cs, co, cr76_0, cr76_1, ms, mo_, b2_F w1, b2_T w2, k_failed_2, simprocAttr, if_true, if_false, true_and, and_true, false_and, and_false, not_false_eq_true, not_true_eq_false, gd_T, kont_i, kont_v]
         · have w1' := eq_false w1
           simp only [c206, s206_0, s206_1, s206_4, s206_7, s206_8, s206_11, s206_14, s206_15, s206_17_o87, s206_20, s206_21, s206_22_o87, s206_25, s206_26_o100, s206_27, s206_30, s206_31_o87, s206_34, s206_35_o100, s206_36, s206_39, s206_40, s206_42_o87, s206_45, s206_46, s206_47_o87, s206_50, s206_51_o100, s206_52, s206_53_o87, s206_56, s206_57_o100, s206_58, s206_61, s206_62, s206_64_o87, s206_67, s206_68, s206_70, s206_73, s206_74, s206_77, s206_79, s206_82, s206_83, s206_84, s206_86, s206_87, s206_88, s206_89_o87, s206_92, s206_93_o101, s206_94, s206_95, s206_96, s206_99, s206_101, s206_102, s206_104, s206_105, s206_106, s206_107_o87, s206_110, s206_111_o101, s206_112, s206_113, s206_114, s206_117, s206_118, s206_120_o87, s206_123, s206_124, s206_125, m_isSheet, hst, hot, b2_t, vs, vo, cs, co, g100, w1', w2, m_fin_2, simprocAttr, if_true, if_false, true_and, and_true, false_and, and_false, not_false_eq_true, not_true_eq_false, gd_T, kont_i, kont_v])
  by_cases w3 : σ 100 0 = σ 100 1
  · have k1 := k_stand_0 (d + 98) x n σ _ p2
    have k2 := k_stand_1 (d + 98) y n σ _ r2
    by_cases c1 : stQ qs x n
    · rw [b2_T c1] at k1
      by_cases c2 : stQ qo y n
      · rw [b2_T c2] at k2
        obtain ⟨a, nn, rfl, rfl, hq1⟩ := (stQ_n p1).mp c1
        obtain ⟨b, nn2, rfl, en, hq2⟩ := (stQ_n r1).mp c2
        have : nn = nn2 := by
          obtain ⟨-, h2, h3, -⟩ := c2
          have hb2 : nn2 ≤ qo := by omega
          rw [nI_eq (by omega) (by omega)] at en
          exact en
        subst this
        have hb := bnd_m (σ := σ) (x := 80) (y := 78) (a := a) (b := b) (n := nn) (by decide +kernel) (by omega) (by omega)
        have e1 : callD (d + 100) 91 [.ref 0, .int (nI 0), .int (nI a), .int (nI 1), .int (nI b), .int (nI nn)] σ = some (some (.int (nI nn)), rep σ 80 (va_cpy (σ 78) (σ 80) a b nn)) := by
          simp only [c91, s91_0, s91_1, s91_4, s91_7, s91_8, s91_11, s91_14, s91_15, s91_16_o0, s91_19, s91_20, s91_21_o0, s91_24, s91_25_o76, s91_26, s91_28, s91_29_o0, s91_32, s91_33_o76, s91_34, s91_36, s91_38_o77, s91_38_o79, s91_38_o81, s91_38_o83, s91_41, s91_44, s91_46_o77, s91_46_o79, s91_46_o81, s91_46_o83, s91_49, s91_52, s91_53, s91_54_o0, s91_57, s91_58, s91_60_o77, s91_60_o79, s91_60_o81, s91_60_o83, s91_63, s91_65_o77, s91_65_o79, s91_65_o81, s91_65_o83, s91_68, s91_71, s91_72, s91_73_o0, s91_76, s91_77, s91_79, s91_80, s91_82_o77, s91_82_o79, s91_82_o81, s91_82_o83, s91_85, s91_88, s91_90, s91_92, s91_94_o77, s91_94_o79, s91_94_o81, s91_94_o83, s91_97, s91_100, s91_101, s91_102_o0, s91_105, s91_106, s91_108_o77, s91_108_o79, s91_108_o81, s91_108_o83, s91_111, s91_112, s91_114_o77, s91_114_o79, s91_114_o81, s91_114_o83, s91_117, s91_119, s91_121, s91_124, s91_126, k_isSheet, hst, hot, b2_t, vs, vo, cs, co, cr76_0, cr76_1, ms, mo_, b2_F w1, b2_F w2, a1, b1, w3, k1, k2, hb, cl_nI (show a < 2147483648 by omega), cl_nI (show b < 2147483648 by omega), cl_nI (show nn < 2147483648 by omega), cp2_rep, simprocAttr, if_true, if_false, true_and, and_true, false_and, and_false, not_false_eq_true, not_true_eq_false, gd_T, kont_i, kont_v]
        obtain ⟨F, e2⟩ := m_move_ok d 0 a nn 1 b qs qo (by omega) (by omega) p1 r1 hq1 hq2 (rep σ 80 (va_cpy (σ 78) (σ 80) a b nn)) (σ 100 0) w1 (by rw [rep_ne (by omega)]) (by first | (rw [rep_ne (by omega)]; exact w3.symm) | rw [rep_ne (by omega)]) (by rw [rep_ne (by omega)]; exact p3) (by rw [rep_ne (by omega)]; exact r3)
        rw [rep_ne (show 102 ≠ 80 by omega)] at e2
        refine ⟨_, _, _, e1, e2, h.shx (SHr_num (o := 1) h.2.2.2.2.2.2.1 (by omega) (fun z hz => ?_) (fun k hk => ?_) (fun k hk => ?_)) (h.wb.two e1 e2) (fun z hz => ?_)⟩
        · rw [rep_ne (by omega), rep_ne (by omega), rep_ne (by omega)]
        · rw [rep_ne (by omega), rep_ne (by omega), rep_self, rep_self]
          unfold cbF
          by_cases c : b ≤ k ∧ k < b + nn
          · rw [pk_cpy_in c.1 c.2, if_pos (by omega)]
            have := p4 (a + (k - b)) (by omega)
            rw [show σ 78 (a + (k - b)) = σ 102 (24 * 0 + (a + (k - b))) from this]
            congr 1
            omega
          · rw [pk_cpy_out (by omega), if_neg (by omega)]
            exact r4 k hk
        · rw [rep_self]
          unfold cbF
          rw [if_neg (by omega)]
        · rw [rep_ne (by omega), rep_ne (by omega), rep_ne (by omega)]
      · rw [b2_F c2] at k2
        refine Step_err h 1 (v := -1000001) ?_ ?_
        · simp only [c91, s91_0, s91_1, s91_4, s91_7, s91_8, s91_11, s91_14, s91_15, s91_16_o0, s91_19, s91_20, s91_21_o0, s91_24, s91_25_o76, s91_26, s91_28, s91_29_o0, s91_32, s91_33_o76, s91_34, s91_36, s91_38_o77, s91_38_o79, s91_38_o81, s91_38_o83, s91_41, s91_44, s91_46_o77, s91_46_o79, s91_46_o81, s91_46_o83, s91_49, s91_52, s91_53, s91_54_o0, s91_57, s91_58, s91_60_o77, s91_60_o79, s91_60_o81, s91_60_o83, s91_63, s91_65_o77, s91_65_o79, s91_65_o81, s91_65_o83, s91_68, s91_71, s91_72, s91_73_o0, s91_76, s91_77, s91_79, s91_80, s91_82_o77, s91_82_o79, s91_82_o81, s91_82_o83, s91_85, s91_88, s91_90, s91_92, s91_94_o77, s91_94_o79, s91_94_o81, s91_94_o83, s91_97, s91_100, s91_101, s91_102_o0, s91_105, s91_106, s91_108_o77, s91_108_o79, s91_108_o81, s91_108_o83, s91_111, s91_112, s91_114_o77, s91_114_o79, s91_114_o81, s91_114_o83, s91_117, s91_119, s91_121, s91_124, s91_126, k_isSheet, hst, hot, b2_t, vs, vo, cs, co, cr76_0, cr76_1, ms, mo_, b2_F w1, b2_F w2, a1, b1, w3, k1, k2, k_failed_1, simprocAttr, if_true, if_false, true_and, and_true, false_and, and_false, not_false_eq_true, not_true_eq_false, gd_T, kont_i, kont_v]
        · exact m_move_no d 0 1 qs qo (by omega) (by omega) p1 r1 x y n (fun q => c2 q.2) (erC σ 1) (σ 100 0) w1 (by rw [g100]) (by first | (rw [g100]; exact w3.symm) | rw [g100]) (by rw [g101]; exact p3) (by rw [g101]; exact r3)
    · rw [b2_F c1] at k1
      refine Step_err h 1 (v := -1000001) ?_ ?_
      · simp only [c91, s91_0, s91_1, s91_4, s91_7, s91_8, s91_11, s91_14, s91_15, s91_16_o0, s91_19, s91_20, s91_21_o0, s91_24, s91_25_o76, s91_26, s91_28, s91_29_o0, s91_32, s91_33_o76, s91_34, s91_36, s91_38_o77, s91_38_o79, s91_38_o81, s91_38_o83, s91_41, s91_44, s91_46_o77, s91_46_o79, s91_46_o81, s91_46_o83, s91_49, s91_52, s91_53, s91_54_o0, s91_57, s91_58, s91_60_o77, s91_60_o79, s91_60_o81, s91_60_o83, s91_63, s91_65_o77, s91_65_o79, s91_65_o81, s91_65_o83, s91_68, s91_71, s91_72, s91_73_o0, s91_76, s91_77, s91_79, s91_80, s91_82_o77, s91_82_o79, s91_82_o81, s91_82_o83, s91_85, s91_88, s91_90, s91_92, s91_94_o77, s91_94_o79, s91_94_o81, s91_94_o83, s91_97, s91_100, s91_101, s91_102_o0, s91_105, s91_106, s91_108_o77, s91_108_o79, s91_108_o81, s91_108_o83, s91_111, s91_112, s91_114_o77, s91_114_o79, s91_114_o81, s91_114_o83, s91_117, s91_119, s91_121, s91_124, s91_126, k_isSheet, hst, hot, b2_t, vs, vo, cs, co, cr76_0, cr76_1, ms, mo_, b2_F w1, b2_F w2, a1, b1, w3, k1, k_failed_1, simprocAttr, if_true, if_false, true_and, and_true, false_and, and_false, not_false_eq_true, not_true_eq_false, gd_T, kont_i, kont_v]
      · exact m_move_no d 0 1 qs qo (by omega) (by omega) p1 r1 x y n (fun q => c1 q.1) (erC σ 1) (σ 100 0) w1 (by rw [g100]) (by first | (rw [g100]; exact w3.symm) | rw [g100]) (by rw [g101]; exact p3) (by rw [g101]; exact r3)
  · first
      | exact absurd rfl w3
      | (have w1' := eq_false w1
         have w2' := eq_false w2
         have w3' := eq_false w3
         refine Step_err h 5 (v := -1000005) ?_ ?_
         · simp only [c91, s91_0, s91_1, s91_4, s91_7, s91_8, s91_11, s91_14, s91_15, s91_16_o0, s91_19, s91_20, s91_21_o0, s91_24, s91_25_o76, s91_26, s91_28, s91_29_o0, s91_32, s91_33_o76, s91_34, s91_36, s91_38_o77, s91_38_o79, s91_38_o81, s91_38_o83, s91_41, s91_44, s91_46_o77, s91_46_o79, s91_46_o81, s91_46_o83, s91_49, s91_52, s91_53, s91_54_o0, s91_57, s91_58, s91_60_o77, s91_60_o79, s91_60_o81, s91_60_o83, s91_63, s91_65_o77, s91_65_o79, s91_65_o81, s91_65_o83, s91_68, s91_71, s91_72, s91_73_o0, s91_76, s91_77, s91_79, s91_80, s91_82_o77, s91_82_o79, s91_82_o81, s91_82_o83, s91_85, s91_88, s91_90, s91_92, s91_94_o77, s91_94_o79, s91_94_o81, s91_94_o83, s91_97, s91_100, s91_101, s91_102_o0, s91_105, s91_106, s91_108_o77, s91_108_o79, s91_108_o81, s91_108_o83, s91_111, s91_112, s91_114_o77, s91_114_o79, s91_114_o81, s91_114_o83, s91_117, s91_119, s91_121, s91_124, s91_126, k_isSheet, hst, hot, b2_t, vs, vo, cs, co, cr76_0, cr76_1, ms, mo_, b2_F w1, b2_F w2, a1, b1, w3', k_failed_5, simprocAttr, if_true, if_false, true_and, and_true, false_and, and_false, not_false_eq_true, not_true_eq_false, gd_T, kont_i, kont_v]
         · simp only [c206, s206_0, s206_1, s206_4, s206_7, s206_8, s206_11, s206_14, s206_15, s206_17_o87, s206_20, s206_21, s206_22_o87, s206_25, s206_26_o100, s206_27, s206_30, s206_31_o87, s206_34, s206_35_o100, s206_36, s206_39, s206_40, s206_42_o87, s206_45, s206_46, s206_47_o87, s206_50, s206_51_o100, s206_52, s206_53_o87, s206_56, s206_57_o100, s206_58, s206_61, s206_62, s206_64_o87, s206_67, s206_68, s206_70, s206_73, s206_74, s206_77, s206_79, s206_82, s206_83, s206_84, s206_86, s206_87, s206_88, s206_89_o87, s206_92, s206_93_o101, s206_94, s206_95, s206_96, s206_99, s206_101, s206_102, s206_104, s206_105, s206_106, s206_107_o87, s206_110, s206_111_o101, s206_112, s206_113, s206_114, s206_117, s206_118, s206_120_o87, s206_123, s206_124, s206_125, m_isSheet, hst, hot, b2_t, vs, vo, cs, co, g100, w1', w2', w3', m_fin_5, simprocAttr, if_true, if_false, true_and, and_true, false_and, and_false, not_false_eq_true, not_true_eq_false, gd_T, kont_i, kont_v])
theorem L_move_0_2 {i : Nat} {σ : Hs} (h : RR i σ) (d : Nat) (x y n : Int32) : Step d i 91 206 [.int (nI 0), .int x, .int (nI 2), .int y, .int n] σ := by
  have hst : (0 ≤ nI 0 ∧ nI 0 ≤ 3) = True := eq_true (by decide +kernel)
  have hot : (0 ≤ nI 2 ∧ nI 2 ≤ 3) = True := eq_true (by decide +kernel)
  obtain ⟨⟨a1, a2⟩, qs, p1, p2, p3, p4⟩ := h.2.2.2.2.2.2.1 0 (by omega)
  obtain ⟨⟨b1, b2_⟩, qo, r1, r2, r3, r4⟩ := h.2.2.2.2.2.2.1 2 (by omega)
  have a1 : σ 77 1 = σ 100 0 := a1
  have b1 : σ 81 1 = σ 100 2 := b1
  have p2 : σ 77 2 = nI qs := p2
  have r2 : σ 81 2 = nI qo := r2
  have vs : vp_in (nI 0) 4 = True := vp_nI (by omega) (by omega)
  have vo : vp_in (nI 2) 4 = True := vp_nI (by omega) (by omega)
  have cs : (nI 0).toNatClampNeg = 0 := cl_nI (by omega)
  have co : (nI 2).toNatClampNeg = 2 := cl_nI (by omega)
  have ms := k_isMissing_0 (d + 98) σ _ a1
  have mo_ := k_isMissing_2 (d + 98) σ _ b1
  have g100 : ∀ k, erC σ k 100 = σ 100 := fun k => rep_ne (by omega)
  have g101 : ∀ k, erC σ k 101 = σ 101 := fun k => rep_ne (by omega)
  by_cases w1 : σ 100 0 = 0
  · refine Step_err h 2 (v := -1000002) ?_ ?_
    · simp only [c91, s91_0, s91_1, s91_4, s91_7, s91_8, s91_11, s91_14, s91_15, s91_16_o0, s91_19, s91_20, s91_21_o0, s91_24, s91_25_o76, s91_26, s91_28, s91_29_o0, s91_32, s91_33_o76, s91_34, s91_36, s91_38_o77, s91_38_o79, s91_38_o81, s91_38_o83, s91_41, s91_44, s91_46_o77, s91_46_o79, s91_46_o81, s91_46_o83, s91_49, s91_52, s91_53, s91_54_o0, s91_57, s91_58, s91_60_o77, s91_60_o79, s91_60_o81, s91_60_o83, s91_63, s91_65_o77, s91_65_o79, s91_65_o81, s91_65_o83, s91_68, s91_71, s91_72, s91_73_o0, s91_76, s91_77, s91_79, s91_80, s91_82_o77, s91_82_o79, s91_82_o81, s91_82_o83, s91_85, s91_88, s91_90, s91_92, s91_94_o77, s91_94_o79, s91_94_o81, s91_94_o83, s91_97, s91_100, s91_101, s91_102_o0, s91_105, s91_106, s91_108_o77, s91_108_o79, s91_108_o81, s91_108_o83, s91_111, s91_112, s91_114_o77, s91_114_o79, s91_114_o81, s91_114_o83, s91_117, s91_119, s91_121, s91_124, s91_126, k_isSheet, hst, hot, b2_t, vs, vo, cs, co, cr76_0, cr76_2, ms, b2_T w1, k_failed_2, simprocAttr, if_true, if_false, true_and, and_true, false_and, and_false, not_false_eq_true, not_true_eq_false, gd_T, kont_i, kont_v]
    · simp only [c206, s206_0, s206_1, s206_4, s206_7, s206_8, s206_11, s206_14, s206_15, s206_17_o87, s206_20, s206_21, s206_22_o87, s206_25, s206_26_o100, s206_27, s206_30, s206_31_o87, s206_34, s206_35_o100, s206_36, s206_39, s206_40, s206_42_o87, s206_45, s206_46, s206_47_o87, s206_50, s206_51_o100, s206_52, s206_53_o87, s206_56, s206_57_o100, s206_58, s206_61, s206_62, s206_64_o87, s206_67, s206_68, s206_70, s206_73, s206_74, s206_77, s206_79, s206_82, s206_83, s206_84, s206_86, s206_87, s206_88, s206_89_o87, s206_92, s206_93_o101, s206_94, s206_95, s206_96, s206_99, s206_101, s206_102, s206_104, s206_105, s206_106, s206_107_o87, s206_110, s206_111_o101, s206_112, s206_113, s206_114, s206_117, s206_118, s206_120_o87, s206_123, s206_124, s206_125, m_isSheet, hst, hot, b2_t, vs, vo, cs, co, g100, w1, m_fin_2, simprocAttr, if_true, if_false, true_and, and_true, false_and, and_false, not_false_eq_true, not_true_eq_false, gd_T, kont_i, kont_v]
  by_cases w2 : σ 100 2 = 0
  · first
      | exact absurd w2 w1
      | (refine Step_err h 2 (v := -1000002) ?_ ?_
         · simp only [c91, s91_0, s91_1, s91_4, s91_7, s91_8, s91_11, s91_14, s91_15, s91_16_o0, s91_19, s91_20, s91_21_o0, s91_24, s91_25_o76, s91_26, s91_28, s91_29_o0, s91_32, s91_33_o76, s91_34, s91_36, s91_38_o77, s91_38_o79, s91_38_o81, s91_38_o83, s91_41, s91_44, s91_46_o77, s91_46_o79, s91_46_o81, s91_46_o83, s91_49, s91_52, s91_53, s91_54_o0, s91_57, s91_58, s91_60_o77, s91_60_o79, s91_60_o81, s91_60_o83, s91_63, s91_65_o77, s91_65_o79, s91_65_o81, s91_65_o83, s91_68, s91_71, s91_72, s91_73_o0, s91_76, s91_77, s91_79, s91_80, s91_82_o77, s91_82_o79, s91_82_o81, s91_82_o83, s91_85, s91_88, s91_90, s91_92, s91_94_o77, s91_94_o79, s91_94_o81, s91_94_o83, s91_97, s91_100, s91_101, s91_102_o0, s91_105, s91_106, s91_108_o77, s91_108_o79, s91_108_o81, s91_108_o83, s91_111, s91_112, s91_114_o77, s91_114_o79, s91_114_o81, s91_114_o83, s91_117, s91_119, s91_121, s91_124, s91_126, k_isSheet, hst, hot, b2_t, vs, vo, cs, co, cr76_0, cr76_2, ms, mo_, b2_F w1, b2_T w2, k_failed_2, simprocAttr, if_true, if_false, true_and, and_true, false_and, and_false, not_false_eq_true, not_true_eq_false, gd_T, kont_i, kont_v]
         · have w1' := eq_false w1
           simp only [c206, s206_0, s206_1, s206_4, s206_7, s206_8, s206_11, s206_14, s206_15, s206_17_o87, s206_20, s206_21, s206_22_o87, s206_25, s206_26_o100, s206_27, s206_30, s206_31_o87, s206_34, s206_35_o100, s206_36, s206_39, s206_40, s206_42_o87, s206_45, s206_46, s206_47_o87, s206_50, s206_51_o100, s206_52, s206_53_o87, s206_56, s206_57_o100, s206_58, s206_61, s206_62, s206_64_o87, s206_67, s206_68, s206_70, s206_73, s206_74, s206_77, s206_79, s206_82, s206_83, s206_84, s206_86, s206_87, s206_88, s206_89_o87, s206_92, s206_93_o101, s206_94, s206_95, s206_96, s206_99, s206_101, s206_102, s206_104, s206_105, s206_106, s206_107_o87, s206_110, s206_111_o101, s206_112, s206_113, s206_114, s206_117, s206_118, s206_120_o87, s206_123, s206_124, s206_125, m_isSheet, hst, hot, b2_t, vs, vo, cs, co, g100, w1', w2, m_fin_2, simprocAttr, if_true, if_false, true_and, and_true, false_and, and_false, not_false_eq_true, not_true_eq_false, gd_T, kont_i, kont_v])
  by_cases w3 : σ 100 0 = σ 100 2
  · have k1 := k_stand_0 (d + 98) x n σ _ p2
    have k2 := k_stand_2 (d + 98) y n σ _ r2
    by_cases c1 : stQ qs x n
    · rw [b2_T c1] at k1
      by_cases c2 : stQ qo y n
      · rw [b2_T c2] at k2
        obtain ⟨a, nn, rfl, rfl, hq1⟩ := (stQ_n p1).mp c1
        obtain ⟨b, nn2, rfl, en, hq2⟩ := (stQ_n r1).mp c2
        have : nn = nn2 := by
          obtain ⟨-, h2, h3, -⟩ := c2
          have hb2 : nn2 ≤ qo := by omega
          rw [nI_eq (by omega) (by omega)] at en
          exact en
        subst this
        have hb := bnd_m (σ := σ) (x := 82) (y := 78) (a := a) (b := b) (n := nn) (by decide +kernel) (by omega) (by omega)
        have e1 : callD (d + 100) 91 [.ref 0, .int (nI 0), .int (nI a), .int (nI 2), .int (nI b), .int (nI nn)] σ = some (some (.int (nI nn)), rep σ 82 (va_cpy (σ 78) (σ 82) a b nn)) := by
          simp only [c91, s91_0, s91_1, s91_4, s91_7, s91_8, s91_11, s91_14, s91_15, s91_16_o0, s91_19, s91_20, s91_21_o0, s91_24, s91_25_o76, s91_26, s91_28, s91_29_o0, s91_32, s91_33_o76, s91_34, s91_36, s91_38_o77, s91_38_o79, s91_38_o81, s91_38_o83, s91_41, s91_44, s91_46_o77, s91_46_o79, s91_46_o81, s91_46_o83, s91_49, s91_52, s91_53, s91_54_o0, s91_57, s91_58, s91_60_o77, s91_60_o79, s91_60_o81, s91_60_o83, s91_63, s91_65_o77, s91_65_o79, s91_65_o81, s91_65_o83, s91_68, s91_71, s91_72, s91_73_o0, s91_76, s91_77, s91_79, s91_80, s91_82_o77, s91_82_o79, s91_82_o81, s91_82_o83, s91_85, s91_88, s91_90, s91_92, s91_94_o77, s91_94_o79, s91_94_o81, s91_94_o83, s91_97, s91_100, s91_101, s91_102_o0, s91_105, s91_106, s91_108_o77, s91_108_o79, s91_108_o81, s91_108_o83, s91_111, s91_112, s91_114_o77, s91_114_o79, s91_114_o81, s91_114_o83, s91_117, s91_119, s91_121, s91_124, s91_126, k_isSheet, hst, hot, b2_t, vs, vo, cs, co, cr76_0, cr76_2, ms, mo_, b2_F w1, b2_F w2, a1, b1, w3, k1, k2, hb, cl_nI (show a < 2147483648 by omega), cl_nI (show b < 2147483648 by omega), cl_nI (show nn < 2147483648 by omega), cp2_rep, simprocAttr, if_true, if_false, true_and, and_true, false_and, and_false, not_false_eq_true, not_true_eq_false, gd_T, kont_i, kont_v]
        obtain ⟨F, e2⟩ := m_move_ok d 0 a nn 2 b qs qo (by omega) (by omega) p1 r1 hq1 hq2 (rep σ 82 (va_cpy (σ 78) (σ 82) a b nn)) (σ 100 0) w1 (by rw [rep_ne (by omega)]) (by first | (rw [rep_ne (by omega)]; exact w3.symm) | rw [rep_ne (by omega)]) (by rw [rep_ne (by omega)]; exact p3) (by rw [rep_ne (by omega)]; exact r3)
        rw [rep_ne (show 102 ≠ 82 by omega)] at e2
        refine ⟨_, _, _, e1, e2, h.shx (SHr_num (o := 2) h.2.2.2.2.2.2.1 (by omega) (fun z hz => ?_) (fun k hk => ?_) (fun k hk => ?_)) (h.wb.two e1 e2) (fun z hz => ?_)⟩
        · rw [rep_ne (by omega), rep_ne (by omega), rep_ne (by omega)]
        · rw [rep_ne (by omega), rep_ne (by omega), rep_self, rep_self]
          unfold cbF
          by_cases c : b ≤ k ∧ k < b + nn
          · rw [pk_cpy_in c.1 c.2, if_pos (by omega)]
            have := p4 (a + (k - b)) (by omega)
            rw [show σ 78 (a + (k - b)) = σ 102 (24 * 0 + (a + (k - b))) from this]
            congr 1
            omega
          · rw [pk_cpy_out (by omega), if_neg (by omega)]
            exact r4 k hk
        · rw [rep_self]
          unfold cbF
          rw [if_neg (by omega)]
        · rw [rep_ne (by omega), rep_ne (by omega), rep_ne (by omega)]
      · rw [b2_F c2] at k2
        refine Step_err h 1 (v := -1000001) ?_ ?_
        · simp only [c91, s91_0, s91_1, s91_4, s91_7, s91_8, s91_11, s91_14, s91_15, s91_16_o0, s91_19, s91_20, s91_21_o0, s91_24, s91_25_o76, s91_26, s91_28, s91_29_o0, s91_32, s91_33_o76, s91_34, s91_36, s91_38_o77, s91_38_o79, s91_38_o81, s91_38_o83, s91_41, s91_44, s91_46_o77, s91_46_o79, s91_46_o81, s91_46_o83, s91_49, s91_52, s91_53, s91_54_o0, s91_57, s91_58, s91_60_o77, s91_60_o79, s91_60_o81, s91_60_o83, s91_63, s91_65_o77, s91_65_o79, s91_65_o81, s91_65_o83, s91_68, s91_71, s91_72, s91_73_o0, s91_76, s91_77, s91_79, s91_80, s91_82_o77, s91_82_o79, s91_82_o81, s91_82_o83, s91_85, s91_88, s91_90, s91_92, s91_94_o77, s91_94_o79, s91_94_o81, s91_94_o83, s91_97, s91_100, s91_101, s91_102_o0, s91_105, s91_106, s91_108_o77, s91_108_o79, s91_108_o81, s91_108_o83, s91_111, s91_112, s91_114_o77, s91_114_o79, s91_114_o81, s91_114_o83, s91_117, s91_119, s91_121, s91_124, s91_126, k_isSheet, hst, hot, b2_t, vs, vo, cs, co, cr76_0, cr76_2, ms, mo_, b2_F w1, b2_F w2, a1, b1, w3, k1, k2, k_failed_1, simprocAttr, if_true, if_false, true_and, and_true, false_and, and_false, not_false_eq_true, not_true_eq_false, gd_T, kont_i, kont_v]
        · exact m_move_no d 0 2 qs qo (by omega) (by omega) p1 r1 x y n (fun q => c2 q.2) (erC σ 1) (σ 100 0) w1 (by rw [g100]) (by first | (rw [g100]; exact w3.symm) | rw [g100]) (by rw [g101]; exact p3) (by rw [g101]; exact r3)
    · rw [b2_F c1] at k1
      refine Step_err h 1 (v := -1000001) ?_ ?_
      · simp only [c91, s91_0, s91_1, s91_4, s91_7, s91_8, s91_11, s91_14, s91_15, s91_16_o0, s91_19, s91_20, s91_21_o0, s91_24, s91_25_o76, s91_26, s91_28, s91_29_o0, s91_32, s91_33_o76, s91_34, s91_36, s91_38_o77, s91_38_o79, s91_38_o81, s91_38_o83, s91_41, s91_44, s91_46_o77, s91_46_o79, s91_46_o81, s91_46_o83, s91_49, s91_52, s91_53, s91_54_o0, s91_57, s91_58, s91_60_o77, s91_60_o79, s91_60_o81, s91_60_o83, s91_63, s91_65_o77, s91_65_o79, s91_65_o81, s91_65_o83, s91_68, s91_71, s91_72, s91_73_o0, s91_76, s91_77, s91_79, s91_80, s91_82_o77, s91_82_o79, s91_82_o81, s91_82_o83, s91_85, s91_88, s91_90, s91_92, s91_94_o77, s91_94_o79, s91_94_o81, s91_94_o83, s91_97, s91_100, s91_101, s91_102_o0, s91_105, s91_106, s91_108_o77, s91_108_o79, s91_108_o81, s91_108_o83, s91_111, s91_112, s91_114_o77, s91_114_o79, s91_114_o81, s91_114_o83, s91_117, s91_119, s91_121, s91_124, s91_126, k_isSheet, hst, hot, b2_t, vs, vo, cs, co, cr76_0, cr76_2, ms, mo_, b2_F w1, b2_F w2, a1, b1, w3, k1, k_failed_1, simprocAttr, if_true, if_false, true_and, and_true, false_and, and_false, not_false_eq_true, not_true_eq_false, gd_T, kont_i, kont_v]
      · exact m_move_no d 0 2 qs qo (by omega) (by omega) p1 r1 x y n (fun q => c1 q.1) (erC σ 1) (σ 100 0) w1 (by rw [g100]) (by first | (rw [g100]; exact w3.symm) | rw [g100]) (by rw [g101]; exact p3) (by rw [g101]; exact r3)
  · first
      | exact absurd rfl w3
      | (have w1' := eq_false w1
         have w2' := eq_false w2
         have w3' := eq_false w3
         refine Step_err h 5 (v := -1000005) ?_ ?_
         · simp only [c91, s91_0, s91_1, s91_4, s91_7, s91_8, s91_11, s91_14, s91_15, s91_16_o0, s91_19, s91_20, s91_21_o0, s91_24, s91_25_o76, s91_26, s91_28, s91_29_o0, s91_32, s91_33_o76, s91_34, s91_36, s91_38_o77, s91_38_o79, s91_38_o81, s91_38_o83, s91_41, s91_44, s91_46_o77, s91_46_o79, s91_46_o81, s91_46_o83, s91_49, s91_52, s91_53, s91_54_o0, s91_57, s91_58, s91_60_o77, s91_60_o79, s91_60_o81, s91_60_o83, s91_63, s91_65_o77, s91_65_o79, s91_65_o81, s91_65_o83, s91_68, s91_71, s91_72, s91_73_o0, s91_76, s91_77, s91_79, s91_80, s91_82_o77, s91_82_o79, s91_82_o81, s91_82_o83, s91_85, s91_88, s91_90, s91_92, s91_94_o77, s91_94_o79, s91_94_o81, s91_94_o83, s91_97, s91_100, s91_101, s91_102_o0, s91_105, s91_106, s91_108_o77, s91_108_o79, s91_108_o81, s91_108_o83, s91_111, s91_112, s91_114_o77, s91_114_o79, s91_114_o81, s91_114_o83, s91_117, s91_119, s91_121, s91_124, s91_126, k_isSheet, hst, hot, b2_t, vs, vo, cs, co, cr76_0, cr76_2, ms, mo_, b2_F w1, b2_F w2, a1, b1, w3', k_failed_5, simprocAttr, if_true, if_false, true_and, and_true, false_and, and_false, not_false_eq_true, not_true_eq_false, gd_T, kont_i, kont_v]
         · simp only [c206, s206_0, s206_1, s206_4, s206_7, s206_8, s206_11, s206_14, s206_15, s206_17_o87, s206_20, s206_21, s206_22_o87, s206_25, s206_26_o100, s206_27, s206_30, s206_31_o87, s206_34, s206_35_o100, s206_36, s206_39, s206_40, s206_42_o87, s206_45, s206_46, s206_47_o87, s206_50, s206_51_o100, s206_52, s206_53_o87, s206_56, s206_57_o100, s206_58, s206_61, s206_62, s206_64_o87, s206_67, s206_68, s206_70, s206_73, s206_74, s206_77, s206_79, s206_82, s206_83, s206_84, s206_86, s206_87, s206_88, s206_89_o87, s206_92, s206_93_o101, s206_94, s206_95, s206_96, s206_99, s206_101, s206_102, s206_104, s206_105, s206_106, s206_107_o87, s206_110, s206_111_o101, s206_112, s206_113, s206_114, s206_117, s206_118, s206_120_o87, s206_123, s206_124, s206_125, m_isSheet, hst, hot, b2_t, vs, vo, cs, co, g100, w1', w2', w3', m_fin_5, simprocAttr, if_true, if_false, true_and, and_true, false_and, and_false, not_false_eq_true, not_true_eq_false, gd_T, kont_i, kont_v])
theorem L_move_0_3 {i : Nat} {σ : Hs} (h : RR i σ) (d : Nat) (x y n : Int32) : Step d i 91 206 [.int (nI 0), .int x, .int (nI 3), .int y, .int n] σ := by
  have hst : (0 ≤ nI 0 ∧ nI 0 ≤ 3) = True := eq_true (by decide +kernel)
  have hot : (0 ≤ nI 3 ∧ nI 3 ≤ 3) = True := eq_true (by decide +kernel)
  obtain ⟨⟨a1, a2⟩, qs, p1, p2, p3, p4⟩ := h.2.2.2.2.2.2.1 0 (by omega)
  obtain ⟨⟨b1, b2_⟩, qo, r1, r2, r3, r4⟩ := h.2.2.2.2.2.2.1 3 (by omega)
  have a1 : σ 77 1 = σ 100 0 := a1
  have b1 : σ 83 1 = σ 100 3 := b1
  have p2 : σ 77 2 = nI qs := p2
  have r2 : σ 83 2 = nI qo := r2
  have vs : vp_in (nI 0) 4 = True := vp_nI (by omega) (by omega)
  have vo : vp_in (nI 3) 4 = True := vp_nI (by omega) (by omega)
  have cs : (nI 0).toNatClampNeg = 0 := cl_nI (by omega)
  have co : (nI 3).toNatClampNeg = 3 := cl_nI (by omega)
  have ms := k_isMissing_0 (d + 98) σ _ a1
  have mo_ := k_isMissing_3 (d + 98) σ _ b1
  have g100 : ∀ k, erC σ k 100 = σ 100 := fun k => rep_ne (by omega)
  have g101 : ∀ k, erC σ k 101 = σ 101 := fun k => rep_ne (by omega)
  by_cases w1 : σ 100 0 = 0
  · refine Step_err h 2 (v := -1000002) ?_ ?_
    · simp only [c91, s91_0, s91_1, s91_4, s91_7, s91_8, s91_11, s91_14, s91_15, s91_16_o0, s91_19, s91_20, s91_21_o0, s91_24, s91_25_o76, s91_26, s91_28, s91_29_o0, s91_32, s91_33_o76, s91_34, s91_36, s91_38_o77, s91_38_o79, s91_38_o81, s91_38_o83, s91_41, s91_44, s91_46_o77, s91_46_o79, s91_46_o81, s91_46_o83, s91_49, s91_52, s91_53, s91_54_o0, s91_57, s91_58, s91_60_o77, s91_60_o79, s91_60_o81, s91_60_o83, s91_63, s91_65_o77, s91_65_o79, s91_65_o81, s91_65_o83, s91_68, s91_71, s91_72, s91_73_o0, s91_76, s91_77, s91_79, s91_80, s91_82_o77, s91_82_o79, s91_82_o81, s91_82_o83, s91_85, s91_88, s91_90, s91_92, s91_94_o77, s91_94_o79, s91_94_o81, s91_94_o83, s91_97, s91_100, s91_101, s91_102_o0, s91_105, s91_106, s91_108_o77, s91_108_o79, s91_108_o81, s91_108_o83, s91_111, s91_112, s91_114_o77, s91_114_o79, s91_114_o81, s91_114_o83, s91_117, s91_119, s91_121, s91_124, s91_126, k_isSheet, hst, hot, b2_t, vs, vo, cs, co, cr76_0, cr76_3, ms, b2_T w1, k_failed_2, simprocAttr, if_true, if_false, true_and, and_true, false_and, and_false, not_false_eq_true, not_true_eq_false, gd_T, kont_i, kont_v]
    · simp only [c206, s206_0, s206_1, s206_4, s206_7, s206_8, s206_11, s206_14, s206_15, s206_17_o87, s206_20, s206_21, s206_22_o87, s206_25, s206_26_o100, s206_27, s206_30, s206_31_o87, s206_34, s206_35_o100, s206_36, s206_39, s206_40, s206_42_o87, s206_45, s206_46, s206_47_o87, s206_50, s206_51_o100, s206_52, s206_53_o87, s206_56, s206_57_o100, s206_58, s206_61, s206_62, s206_64_o87, s206_67, s206_68, s206_70, s206_73, s206_74, s206_77, s206_79, s206_82, s206_83, s206_84, s206_86, s206_87, s206_88, s206_89_o87, s206_92, s206_93_o101, s206_94, s206_95, s206_96, s206_99, s206_101, s206_102, s206_104, s206_105, s206_106, s206_107_o87, s206_110, s206_111_o101, s206_112, s206_113, s206_114, s206_117, s206_118, s206_120_o87, s206_123, s206_124, s206_125, m_isSheet, hst, hot, b2_t, vs, vo, cs, co, g100, w1, m_fin_2, simprocAttr, if_true, if_false, true_and, and_true, false_and, and_false, not_false_eq_true, not_true_eq_false, gd_T, kont_i, kont_v]
  by_cases w2 : σ 100 3 = 0
  · first
      | exact absurd w2 w1
      | (refine Step_err h 2 (v := -1000002) ?_ ?_
         · simp only [c91, s91_0, s91_1, s91_4, s91_7, s91_8, s91_11, s91_14, s91_15, s91_16_o0, s91_19, s91_20, s91_21_o0, s91_24, s91_25_o76, s91_26, s91_28, s91_29_o0, s91_32, s91_33_o76, s91_34, s91_36, s91_38_o77, s91_38_o79, s91_38_o81, s91_38_o83, s91_41, s91_44, s91_46_o77, s91_46_o79, s91_46_o81, s91_46_o83, s91_49, s91_52, s91_53, s91_54_o0, s91_57, s91_58, s91_60_o77, s91_60_o79, s91_60_o81, s91_60_o83, s91_63, s91_65_o77, s91_65_o79, s91_65_o81, s91_65_o83, s91_68, s91_71, s91_72, s91_73_o0, s91_76, s91_77, s91_79, s91_80, s91_82_o77, s91_82_o79, s91_82_o81, s91_82_o83, s91_85, s91_88, s91_90, s91_92, s91_94_o77, s91_94_o79, s91_94_o81, s91_94_o83, s91_97, s91_100, s91_101, s91_102_o0, s91_105, s91_106, s91_108_o77, s91_108_o79, s91_108_o81, s91_108_o83, s91_111, s91_112, s91_114_o77, s91_114_o79, s91_114_o81, s91_114_o83, s91_117, s91_119, s91_121, s91_124, s91_126, k_isSheet, hst, hot, b2_t, vs, vo, cs, co, cr76_0, cr76_3, ms, mo_, b2_F w1, b2_T w2, k_failed_2, simprocAttr, if_true, if_false, true_and, and_true, false_and, and_false, not_false_eq_true, not_true_eq_false, gd_T, kont_i, kont_v]
         · have w1' := eq_false w1
           simp only [c206, s206_0, s206_1, s206_4, s206_7, s206_8, s206_11, s206_14, s206_15, s206_17_o87, s206_20, s206_21, s206_22_o87, s206_25, s206_26_o100, s206_27, s206_30, s206_31_o87, s206_34, s206_35_o100, s206_36, s206_39, s206_40, s206_42_o87, s206_45, s206_46, s206_47_o87, s206_50, s206_51_o100, s206_52, s206_53_o87, s206_56, s206_57_o100, s206_58, s206_61, s206_62, s206_64_o87, s206_67, s206_68, s206_70, s206_73, s206_74, s206_77, s206_79, s206_82, s206_83, s206_84, s206_86, s206_87, s206_88, s206_89_o87, s206_92, s206_93_o101, s206_94, s206_95, s206_96, s206_99, s206_101, s206_102, s206_104, s206_105, s206_106, s206_107_o87, s206_110, s206_111_o101, s206_112, s206_113, s206_114, s206_117, s206_118, s206_120_o87, s206_123, s206_124, s206_125, m_isSheet, hst, hot, b2_t, vs, vo, cs, co, g100, w1', w2, m_fin_2, simprocAttr, if_true, if_false, true_and, and_true, false_and, and_false, not_false_eq_true, not_true_eq_false, gd_T, kont_i, kont_v])
  by_cases w3 : σ 100 0 = σ 100 3
  · have k1 := k_stand_0 (d + 98) x n σ _ p2
    have k2 := k_stand_3 (d + 98) y n σ _ r2
    by_cases c1 : stQ qs x n
    · rw [b2_T c1] at k1
      by_cases c2 : stQ qo y n
      · rw [b2_T c2] at k2
        obtain ⟨a, nn, rfl, rfl, hq1⟩ := (stQ_n p1).mp c1
        obtain ⟨b, nn2, rfl, en, hq2⟩ := (stQ_n r1).mp c2
        have : nn = nn2 := by
          obtain ⟨-, h2, h3, -⟩ := c2
          have hb2 : nn2 ≤ qo := by omega
          rw [nI_eq (by omega) (by omega)] at en
          exact en
        subst this
        have hb := bnd_m (σ := σ) (x := 84) (y := 78) (a := a) (b := b) (n := nn) (by decide +kernel) (by omega) (by omega)
        have e1 : callD (d + 100) 91 [.ref 0, .int (nI 0), .int (nI a), .int (nI 3), .int (nI b), .int (nI nn)] σ = some (some (.int (nI nn)), rep σ 84 (va_cpy (σ 78) (σ 84) a b nn)) := by
          simp only [c91, s91_0, s91_1, s91_4, s91_7, s91_8, s91_11, s91_14, s91_15, s91_16_o0, s91_19, s91_20, s91_21_o0, s91_24, s91_25_o76, s91_26, s91_28, s91_29_o0, s91_32, s91_33_o76, s91_34, s91_36, s91_38_o77, s91_38_o79, s91_38_o81, s91_38_o83, s91_41, s91_44, s91_46_o77, s91_46_o79, s91_46_o81, s91_46_o83, s91_49, s91_52, s91_53, s91_54_o0, s91_57, s91_58, s91_60_o77, s91_60_o79, s91_60_o81, s91_60_o83, s91_63, s91_65_o77, s91_65_o79, s91_65_o81, s91_65_o83, s91_68, s91_71, s91_72, s91_73_o0, s91_76, s91_77, s91_79, s91_80, s91_82_o77, s91_82_o79, s91_82_o81, s91_82_o83, s91_85, s91_88, s91_90, s91_92, s91_94_o77, s91_94_o79, s91_94_o81, s91_94_o83, s91_97, s91_100, s91_101, s91_102_o0, s91_105, s91_106, s91_108_o77, s91_108_o79, s91_108_o81, s91_108_o83, s91_111, s91_112, s91_114_o77, s91_114_o79, s91_114_o81, s91_114_o83, s91_117, s91_119, s91_121, s91_124, s91_126, k_isSheet, hst, hot, b2_t, vs, vo, cs, co, cr76_0, cr76_3, ms, mo_, b2_F w1, b2_F w2, a1, b1, w3, k1, k2, hb, cl_nI (show a < 2147483648 by omega), cl_nI (show b < 2147483648 by omega), cl_nI (show nn < 2147483648 by omega), cp2_rep, simprocAttr, if_true, if_false, true_and, and_true, false_and, and_false, not_false_eq_true, not_true_eq_false, gd_T, kont_i, kont_v]
        obtain ⟨F, e2⟩ := m_move_ok d 0 a nn 3 b qs qo (by omega) (by omega) p1 r1 hq1 hq2 (rep σ 84 (va_cpy (σ 78) (σ 84) a b nn)) (σ 100 0) w1 (by rw [rep_ne (by omega)]) (by first | (rw [rep_ne (by omega)]; exact w3.symm) | rw [rep_ne (by omega)]) (by rw [rep_ne (by omega)]; exact p3) (by rw [rep_ne (by omega)]; exact r3)
        rw [rep_ne (show 102 ≠ 84 by omega)] at e2
        refine ⟨_, _, _, e1, e2, h.shx (SHr_num (o := 3) h.2.2.2.2.2.2.1 (by omega) (fun z hz => ?_) (fun k hk => ?_) (fun k hk => ?_)) (h.wb.two e1 e2) (fun z hz => ?_)⟩
        · rw [rep_ne (by omega), rep_ne (by omega), rep_ne (by omega)]
        · rw [rep_ne (by omega), rep_ne (by omega), rep_self, rep_self]
          unfold cbF
          by_cases c : b ≤ k ∧ k < b + nn
          · rw [pk_cpy_in c.1 c.2, if_pos (by omega)]
            have := p4 (a + (k - b)) (by omega)
            rw [show σ 78 (a + (k - b)) = σ 102 (24 * 0 + (a + (k - b))) from this]
            congr 1
            omega
          · rw [pk_cpy_out (by omega), if_neg (by omega)]
            exact r4 k hk
        · rw [rep_self]
          unfold cbF
          rw [if_neg (by omega)]
        · rw [rep_ne (by omega), rep_ne (by omega), rep_ne (by omega)]
      · rw [b2_F c2] at k2
        refine Step_err h 1 (v := -1000001) ?_ ?_
        · simp only [c91, s91_0, s91_1, s91_4, s91_7, s91_8, s91_11, s91_14, s91_15, s91_16_o0, s91_19, s91_20, s91_21_o0, s91_24, s91_25_o76, s91_26, s91_28, s91_29_o0, s91_32, s91_33_o76, s91_34, s91_36, s91_38_o77, s91_38_o79, s91_38_o81, s91_38_o83, s91_41, s91_44, s91_46_o77, s91_46_o79, s91_46_o81, s91_46_o83, s91_49, s91_52, s91_53, s91_54_o0, s91_57, s91_58, s91_60_o77, s91_60_o79, s91_60_o81, s91_60_o83, s91_63, s91_65_o77, s91_65_o79, s91_65_o81, s91_65_o83, s91_68, s91_71, s91_72, s91_73_o0, s91_76, s91_77, s91_79, s91_80, s91_82_o77, s91_82_o79, s91_82_o81, s91_82_o83, s91_85, s91_88, s91_90, s91_92, s91_94_o77, s91_94_o79, s91_94_o81, s91_94_o83, s91_97, s91_100, s91_101, s91_102_o0, s91_105, s91_106, s91_108_o77, s91_108_o79, s91_108_o81, s91_108_o83, s91_111, s91_112, s91_114_o77, s91_114_o79, s91_114_o81, s91_114_o83, s91_117, s91_119, s91_121, s91_124, s91_126, k_isSheet, hst, hot, b2_t, vs, vo, cs, co, cr76_0, cr76_3, ms, mo_, b2_F w1, b2_F w2, a1, b1, w3, k1, k2, k_failed_1, simprocAttr, if_true, if_false, true_and, and_true, false_and, and_false, not_false_eq_true, not_true_eq_false, gd_T, kont_i, kont_v]
        · exact m_move_no d 0 3 qs qo (by omega) (by omega) p1 r1 x y n (fun q => c2 q.2) (erC σ 1) (σ 100 0) w1 (by rw [g100]) (by first | (rw [g100]; exact w3.symm) | rw [g100]) (by rw [g101]; exact p3) (by rw [g101]; exact r3)
    · rw [b2_F c1] at k1
      refine Step_err h 1 (v := -1000001) ?_ ?_
      · simp only [c91, s91_0, s91_1, s91_4, s91_7, s91_8, s91_11, s91_14, s91_15, s91_16_o0, s91_19, s91_20, s91_21_o0, s91_24, s91_25_o76, s91_26, s91_28, s91_29_o0, s91_32, s91_33_o76, s91_34, s91_36, s91_38_o77, s91_38_o79, s91_38_o81, s91_38_o83, s91_41, s91_44, s91_46_o77, s91_46_o79, s91_46_o81, s91_46_o83, s91_49, s91_52, s91_53, s91_54_o0, s91_57, s91_58, s91_60_o77, s91_60_o79, s91_60_o81, s91_60_o83, s91_63, s91_65_o77, s91_65_o79, s91_65_o81, s91_65_o83, s91_68, s91_71, s91_72, s91_73_o0, s91_76, s91_77, s91_79, s91_80, s91_82_o77, s91_82_o79, s91_82_o81, s91_82_o83, s91_85, s91_88, s91_90, s91_92, s91_94_o77, s91_94_o79, s91_94_o81, s91_94_o83, s91_97, s91_100, s91_101, s91_102_o0, s91_105, s91_106, s91_108_o77, s91_108_o79, s91_108_o81, s91_108_o83, s91_111, s91_112, s91_114_o77, s91_114_o79, s91_114_o81, s91_114_o83, s91_117, s91_119, s91_121, s91_124, s91_126, k_isSheet, hst, hot, b2_t, vs, vo, cs, co, cr76_0, cr76_3, ms, mo_, b2_F w1, b2_F w2, a1, b1, w3, k1, k_failed_1, simprocAttr, if_true, if_false, true_and, and_true, false_and, and_false, not_false_eq_true, not_true_eq_false, gd_T, kont_i, kont_v]
      · exact m_move_no d 0 3 qs qo (by omega) (by omega) p1 r1 x y n (fun q => c1 q.1) (erC σ 1) (σ 100 0) w1 (by rw [g100]) (by first | (rw [g100]; exact w3.symm) | rw [g100]) (by rw [g101]; exact p3) (by rw [g101]; exact r3)
  · first
      | exact absurd rfl w3
      | (have w1' := eq_false w1
         have w2' := eq_false w2
         have w3' := eq_false w3
         refine Step_err h 5 (v := -1000005) ?_ ?_
         · simp only [c91, s91_0, s91_1, s91_4, s91_7, s91_8, s91_11, s91_14, s91_15, s91_16_o0, s91_19, s91_20, s91_21_o0, s91_24, s91_25_o76, s91_26, s91_28, s91_29_o0, s91_32, s91_33_o76, s91_34, s91_36, s91_38_o77, s91_38_o79, s91_38_o81, s91_38_o83, s91_41, s91_44, s91_46_o77, s91_46_o79, s91_46_o81, s91_46_o83, s91_49, s91_52, s91_53, s91_54_o0, s91_57, s91_58, s91_60_o77, s91_60_o79, s91_60_o81, s91_60_o83, s91_63, s91_65_o77, s91_65_o79, s91_65_o81, s91_65_o83, s91_68, s91_71, s91_72, s91_73_o0, s91_76, s91_77, s91_79, s91_80, s91_82_o77, s91_82_o79, s91_82_o81, s91_82_o83, s91_85, s91_88, s91_90, s91_92, s91_94_o77, s91_94_o79, s91_94_o81, s91_94_o83, s91_97, s91_100, s91_101, s91_102_o0, s91_105, s91_106, s91_108_o77, s91_108_o79, s91_108_o81, s91_108_o83, s91_111, s91_112, s91_114_o77, s91_114_o79, s91_114_o81, s91_114_o83, s91_117, s91_119, s91_121, s91_124, s91_126, k_isSheet, hst, hot, b2_t, vs, vo, cs, co, cr76_0, cr76_3, ms, mo_, b2_F w1, b2_F w2, a1, b1, w3', k_failed_5, simprocAttr, if_true, if_false, true_and, and_true, false_and, and_false, not_false_eq_true, not_true_eq_false, gd_T, kont_i, kont_v]
         · simp only [c206, s206_0, s206_1, s206_4, s206_7, s206_8, s206_11, s206_14, s206_15, s206_17_o87, s206_20, s206_21, s206_22_o87, s206_25, s206_26_o100, s206_27, s206_30, s206_31_o87, s206_34, s206_35_o100, s206_36, s206_39, s206_40, s206_42_o87, s206_45, s206_46, s206_47_o87, s206_50, s206_51_o100, s206_52, s206_53_o87, s206_56, s206_57_o100, s206_58, s206_61, s206_62, s206_64_o87, s206_67, s206_68, s206_70, s206_73, s206_74, s206_77, s206_79, s206_82, s206_83, s206_84, s206_86, s206_87, s206_88, s206_89_o87, s206_92, s206_93_o101, s206_94, s206_95, s206_96, s206_99, s206_101, s206_102, s206_104, s206_105, s206_106, s206_107_o87, s206_110, s206_111_o101, s206_112, s206_113, s206_114, s206_117, s206_118, s206_120_o87, s206_123, s206_124, s206_125, m_isSheet, hst, hot, b2_t, vs, vo, cs, co, g100, w1', w2', w3', m_fin_5, simprocAttr, if_true, if_false, true_and, and_true, false_and, and_false, not_false_eq_true, not_true_eq_false, gd_T, kont_i, kont_v])
theorem L_move_1_0 {i : Nat} {σ : Hs} (h : RR i σ) (d : Nat) (x y n : Int32) : Step d i 91 206 [.int (nI 1), .int x, .int (nI 0), .int y, .int n] σ := by
  have hst : (0 ≤ nI 1 ∧ nI 1 ≤ 3) = True := eq_true (by decide +kernel)
  have hot : (0 ≤ nI 0 ∧ nI 0 ≤ 3) = True := eq_true (by decide +kernel)
  obtain ⟨⟨a1, a2⟩, qs, p1, p2, p3, p4⟩ := h.2.2.2.2.2.2.1 1 (by omega)
  obtain ⟨⟨b1, b2_⟩, qo, r1, r2, r3, r4⟩ := h.2.2.2.2.2.2.1 0 (by omega)
  have a1 : σ 79 1 = σ 100 1 := a1
  have b1 : σ 77 1 = σ 100 0 := b1
  have p2 : σ 79 2 = nI qs := p2
  have r2 : σ 77 2 = nI qo := r2
  have vs : vp_in (nI 1) 4 = True := vp_nI (by omega) (by omega)
  have vo : vp_in (nI 0) 4 = True := vp_nI (by omega) (by omega)
  have cs : (nI 1).toNatClampNeg = 1 := cl_nI (by omega)
  have co : (nI 0).toNatClampNeg = 0 := cl_nI (by omega)
  have ms := k_isMissing_1 (d + 98) σ _ a1
  have mo_ := k_isMissing_0 (d + 98) σ _ b1
  have g100 : ∀ k, erC σ k 100 = σ 100 := fun k => rep_ne (by omega)
  have g101 : ∀ k, erC σ k 101 = σ 101 := fun k => rep_ne (by omega)
  by_cases w1 : σ 100 1 = 0
  · refine Step_err h 2 (v := -1000002) ?_ ?_
    · simp only [c91, s91_0, s91_1, s91_4, s91_7, s91_8, s91_11, s91_14, s91_15, s91_16_o0, s91_19, s91_20, s91_21_o0, s91_24, s91_25_o76, s91_26, s91_28, s91_29_o0, s91_32, s91_33_o76, s91_34, s91_36, s91_38_o77, s91_38_o79, s91_38_o81, s91_38_o83, s91_41, s91_44, s91_46_o77, s91_46_o79, s91_46_o81, s91_46_o83, s91_49, s91_52, s91_53, s91_54_o0, s91_57, s91_58, s91_60_o77, s91_60_o79, s91_60_o81, s91_60_o83, s91_63, s91_65_o77, s91_65_o79, s91_65_o81, s91_65_o83, s91_68, s91_71, s91_72, s91_73_o0, s91_76, s91_77, s91_79, s91_80, s91_82_o77, s91_82_o79, s91_82_o81, s91_82_o83, s91_85, s91_88, s91_90, s91_92, s91_94_o77, s91_94_o79, s91_94_o81, s91_94_o83, s91_97, s91_100, s91_101, s91_102_o0, s91_105, s91_106, s91_108_o77, s91_108_o79, s91_108_o81, s91_108_o83, s91_111, s91_112, s91_114_o77, s91_114_o79, s91_114_o81, s91_114_o83, s91_117, s91_119, s91_121, s91_124, s91_126, k_isSheet, hst, hot, b2_t, vs, vo, cs, co, cr76_1, cr76_0, ms, b2_T w1, k_failed_2, simprocAttr, if_true, if_false, true_and, and_true, false_and, and_false, not_false_eq_true, not_true_eq_false, gd_T, kont_i, kont_v]
    · simp only [c206, s206_0, s206_1, s206_4, s206_7, s206_8, s206_11, s206_14, s206_15, s206_17_o87, s206_20, s206_21, s206_22_o87, s206_25, s206_26_o100, s206_27, s206_30, s206_31_o87, s206_34, s206_35_o100, s206_36, s206_39, s206_40, s206_42_o87, s206_45, s206_46, s206_47_o87, s206_50, s206_51_o100, s206_52, s206_53_o87, s206_56, s206_57_o100, s206_58, s206_61, s206_62, s206_64_o87, s206_67, s206_68, s206_70, s206_73, s206_74, s206_77, s206_79, s206_82, s206_83, s206_84, s206_86, s206_87, s206_88, s206_89_o87, s206_92, s206_93_o101, s206_94, s206_95, s206_96, s206_99, s206_101, s206_102, s206_104, s206_105, s206_106, s206_107_o87, s206_110, s206_111_o101, s206_112, s206_113, s206_114, s206_117, s206_118, s206_120_o87, s206_123, s206_124, s206_125, m_isSheet, hst, hot, b2_t, vs, vo, cs, co, g100, w1, m_fin_2, simprocAttr, if_true, if_false, true_and, and_true, false_and, and_false, not_false_eq_true, not_true_eq_false, gd_T, kont_i, kont_v]
  by_cases w2 : σ 100 0 = 0
  · first
      | exact absurd w2 w1
      | (refine Step_err h 2 (v := -1000002) ?_ ?_
         · simp only [c91, s91_0, s91_1, s91_4, s91_7, s91_8, s91_11, s91_14, s91_15, s91_16_o0, s91_19, s91_20, s91_21_o0, s91_24, s91_25_o76, s91_26, s91_28, s91_29_o0, s91_32, s91_33_o76, s91_34, s91_36, s91_38_o77, s91_38_o79, s91_38_o81, s91_38_o83, s91_41, s91_44, s91_46_o77, s91_46_o79, s91_46_o81, s91_46_o83, s91_49, s91_52, s91_53, s91_54_o0, s91_57, s91_58, s91_60_o77, s91_60_o79, s91_60_o81, s91_60_o83, s91_63, s91_65_o77, s91_65_o79, s91_65_o81, s91_65_o83, s91_68, s91_71, s91_72, s91_73_o0, s91_76, s91_77, s91_79, s91_80, s91_82_o77, s91_82_o79, s91_82_o81, s91_82_o83, s91_85, s91_88, s91_90, s91_92, s91_94_o77, s91_94_o79, s91_94_o81, s91_94_o83, s91_97, s91_100, s91_101, s91_102_o0, s91_105, s91_106, s91_108_o77, s91_108_o79, s91_108_o81, s91_108_o83, s91_111, s91_112, s91_114_o77, s91_114_o79, s91_114_o81, s91_114_o83, s91_117, s91_119, s91_121, s91_124, s91_126, k_isSheet, hst, hot, b2_t, vs, vo, cs, co, cr76_1, cr76_0, ms, mo_, b2_F w1, b2_T w2, k_failed_2, simprocAttr, if_true, if_false, true_and, and_true, false_and, and_false, not_false_eq_true, not_true_eq_false, gd_T, kont_i, kont_v]
         · have w1' := eq_false w1
           simp only [c206, s206_0, s206_1, s206_4, s206_7, s206_8, s206_11, s206_14, s206_15, s206_17_o87, s206_20, s206_21, s206_22_o87, s206_25, s206_26_o100, s206_27, s206_30, s206_31_o87, s206_34, s206_35_o100, s206_36, s206_39, s206_40, s206_42_o87, s206_45, s206_46, s206_47_o87, s206_50, s206_51_o100, s206_52, s206_53_o87, s206_56, s206_57_o100, s206_58, s206_61, s206_62, s206_64_o87, s206_67, s206_68, s206_70, s206_73, s206_74, s206_77, s206_79, s206_82, s206_83, s206_84, s206_86, s206_87, s206_88, s206_89_o87, s206_92, s206_93_o101, s206_94, s206_95, s206_96, s206_99, s206_101, s206_102, s206_104, s206_105, s206_106, s206_107_o87, s206_110, s206_111_o101, s206_112, s206_113, s206_114, s206_117, s206_118, s206_120_o87, s206_123, s206_124, s206_125, m_isSheet, hst, hot, b2_t, vs, vo, cs, co, g100, w1', w2, m_fin_2, simprocAttr, if_true, if_false, true_and, and_true, false_and, and_false, not_false_eq_true, not_true_eq_false, gd_T, kont_i, kont_v])
  by_cases w3 : σ 100 1 = σ 100 0
  · have k1 := k_stand_1 (d + 98) x n σ _ p2
    have k2 := k_stand_0 (d + 98) y n σ _ r2
    by_cases c1 : stQ qs x n
    · rw [b2_T c1] at k1
      by_cases c2 : stQ qo y n
      · rw [b2_T c2] at k2
        obtain ⟨a, nn, rfl, rfl, hq1⟩ := (stQ_n p1).mp c1
        obtain ⟨b, nn2, rfl, en, hq2⟩ := (stQ_n r1).mp c2
        have : nn = nn2 := by
          obtain ⟨-, h2, h3, -⟩ := c2
          have hb2 : nn2 ≤ qo := by omega
          rw [nI_eq (by omega) (by omega)] at en
          exact en
        subst this
        have hb := bnd_m (σ := σ) (x := 78) (y := 80) (a := a) (b := b) (n := nn) (by decide +kernel) (by omega) (by omega)
        have e1 : callD (d + 100) 91 [.ref 0, .int (nI 1), .int (nI a), .int (nI 0), .int (nI b), .int (nI nn)] σ = some (some (.int (nI nn)), rep σ 78 (va_cpy (σ 80) (σ 78) a b nn)) := by
          simp only [c91, s91_0, s91_1, s91_4, s91_7, s91_8, s91_11, s91_14, s91_15, s91_16_o0, s91_19, s91_20, s91_21_o0, s91_24, s91_25_o76, s91_26, s91_28, s91_29_o0, s91_32, s91_33_o76, s91_34, s91_36, s91_38_o77, s91_38_o79, s91_38_o81, s91_38_o83, s91_41, s91_44, s91_46_o77, s91_46_o79, s91_46_o81, s91_46_o83, s91_49, s91_52, s91_53, s91_54_o0, s91_57, s91_58, s91_60_o77, s91_60_o79, s91_60_o81, s91_60_o83, s91_63, s91_65_o77, s91_65_o79, s91_65_o81, s91_65_o83, s91_68, s91_71, s91_72, s91_73_o0, s91_76, s91_77, s91_79, s91_80, s91_82_o77, s91_82_o79, s91_82_o81, s91_82_o83, s91_85, s91_88, s91_90, s91_92, s91_94_o77, s91_94_o79, s91_94_o81, s91_94_o83, s91_97, s91_100, s91_101, s91_102_o0, s91_105, s91_106, s91_108_o77, s91_108_o79, s91_108_o81, s91_108_o83, s91_111, s91_112, s91_114_o77, s91_114_o79, s91_114_o81, s91_114_o83, s91_117, s91_119, s91_121, s91_124, s91_126, k_isSheet, hst, hot, b2_t, vs, vo, cs, co, cr76_1, cr76_0, ms, mo_, b2_F w1, b2_F w2, a1, b1, w3, k1, k2, hb, cl_nI (show a < 2147483648 by omega), cl_nI (show b < 2147483648 by omega), cl_nI (show nn < 2147483648 by omega), cp2_rep, simprocAttr, if_true, if_false, true_and, and_true, false_and, and_false, not_false_eq_true, not_true_eq_false, gd_T, kont_i, kont_v]
        obtain ⟨F, e2⟩ := m_move_ok d 1 a nn 0 b qs qo (by omega) (by omega) p1 r1 hq1 hq2 (rep σ 78 (va_cpy (σ 80) (σ 78) a b nn)) (σ 100 1) w1 (by rw [rep_ne (by omega)]) (by first | (rw [rep_ne (by omega)]; exact w3.symm) | rw [rep_ne (by omega)]) (by rw [rep_ne (by omega)]; exact p3) (by rw [rep_ne (by omega)]; exact r3)
        rw [rep_ne (show 102 ≠ 78 by omega)] at e2
        refine ⟨_, _, _, e1, e2, h.shx (SHr_num (o := 0) h.2.2.2.2.2.2.1 (by omega) (fun z hz => ?_) (fun k hk => ?_) (fun k hk => ?_)) (h.wb.two e1 e2) (fun z hz => ?_)⟩
        · rw [rep_ne (by omega), rep_ne (by omega), rep_ne (by omega)]
        · rw [rep_ne (by omega), rep_ne (by omega), rep_self, rep_self]
          unfold cbF
          by_cases c : b ≤ k ∧ k < b + nn
          · rw [pk_cpy_in c.1 c.2, if_pos (by omega)]
            have := p4 (a + (k - b)) (by omega)
            rw [show σ 80 (a + (k - b)) = σ 102 (24 * 1 + (a + (k - b))) from this]
            congr 1
            omega
          · rw [pk_cpy_out (by omega), if_neg (by omega)]
            exact r4 k hk
        · rw [rep_self]
          unfold cbF
          rw [if_neg (by omega)]
        · rw [rep_ne (by omega), rep_ne (by omega), rep_ne (by omega)]
      · rw [b2_F c2] at k2
        refine Step_err h 1 (v := -1000001) ?_ ?_
        · simp only [c91, s91_0, s91_1, s91_4, s91_7, s91_8, s91_11, s91_14, s91_15, s91_16_o0, s91_19, s91_20, s91_21_o0, s91_24, s91_25_o76, s91_26, s91_28, s91_29_o0, s91_32, s91_33_o76, s91_34, s91_36, s91_38_o77, s91_38_o79, s91_38_o81, s91_38_o83, s91_41, s91_44, s91_46_o77, s91_46_o79, s91_46_o81, s91_46_o83, s91_49, s91_52, s91_53, s91_54_o0, s91_57, s91_58, s91_60_o77, s91_60_o79, s91_60_o81, s91_60_o83, s91_63, s91_65_o77, s91_65_o79, s91_65_o81, s91_65_o83, s91_68, s91_71, s91_72, s91_73_o0, s91_76, s91_77, s91_79, s91_80, s91_82_o77, s91_82_o79, s91_82_o81, s91_82_o83, s91_85, s91_88, s91_90, s91_92, s91_94_o77, s91_94_o79, s91_94_o81, s91_94_o83, s91_97, s91_100, s91_101, s91_102_o0, s91_105, s91_106, s91_108_o77, s91_108_o79, s91_108_o81, s91_108_o83, s91_111, s91_112, s91_114_o77, s91_114_o79, s91_114_o81, s91_114_o83, s91_117, s91_119, s91_121, s91_124, s91_126, k_isSheet, hst, hot, b2_t, vs, vo, cs, co, cr76_1, cr76_0, ms, mo_, b2_F w1, b2_F w2, a1, b1, w3, k1, k2, k_failed_1, simprocAttr, if_true, if_false, true_and, and_true, false_and, and_false, not_false_eq_true, not_true_eq_false, gd_T, kont_i, kont_v]
        · exact m_move_no d 1 0 qs qo (by omega) (by omega) p1 r1 x y n (fun q => c2 q.2) (erC σ 1) (σ 100 1) w1 (by rw [g100]) (by first | (rw [g100]; exact w3.symm) | rw [g100]) (by rw [g101]; exact p3) (by rw [g101]; exact r3)
    · rw [b2_F c1] at k1
      refine Step_err h 1 (v := -1000001) ?_ ?_
      · simp only [c91, s91_0, s91_1, s91_4, s91_7, s91_8, s91_11, s91_14, s91_15, s91_16_o0, s91_19, s91_20, s91_21_o0, s91_24, s91_25_o76, s91_26, s91_28, s91_29_o0, s91_32, s91_33_o76, s91_34, s91_36, s91_38_o77, s91_38_o79, s91_38_o81, s91_38_o83, s91_41, s91_44, s91_46_o77, s91_46_o79, s91_46_o81, s91_46_o83, s91_49, s91_52, s91_53, s91_54_o0, s91_57, s91_58, s91_60_o77, s91_60_o79, s91_60_o81, s91_60_o83, s91_63, s91_65_o77, s91_65_o79, s91_65_o81, s91_65_o83, s91_68, s91_71, s91_72, s91_73_o0, s91_76, s91_77, s91_79, s91_80, s91_82_o77, s91_82_o79, s91_82_o81, s91_82_o83, s91_85, s91_88, s91_90, s91_92, s91_94_o77, s91_94_o79, s91_94_o81, s91_94_o83, s91_97, s91_100, s91_101, s91_102_o0, s91_105, s91_106, s91_108_o77, s91_108_o79, s91_108_o81, s91_108_o83, s91_111, s91_112, s91_114_o77, s91_114_o79, s91_114_o81, s91_114_o83, s91_117, s91_119, s91_121, s91_124, s91_126, k_isSheet, hst, hot, b2_t, vs, vo, cs, co, cr76_1, cr76_0, ms, mo_, b2_F w1, b2_F w2, a1, b1, w3, k1, k_failed_1, simprocAttr, if_true, if_false, true_and, and_true, false_and, and_false, not_false_eq_true, not_true_eq_false, gd_T, kont_i, kont_v]
      · exact m_move_no d 1 0 qs qo (by omega) (by omega) p1 r1 x y n (fun q => c1 q.1) (erC σ 1) (σ 100 1) w1 (by rw [g100]) (by first | (rw [g100]; exact w3.symm) | rw [g100]) (by rw [g101]; exact p3) (by rw [g101]; exact r3)
  · first
      | exact absurd rfl w3
      | (have w1' := eq_false w1
         have w2' := eq_false w2
         have w3' := eq_false w3
         refine Step_err h 5 (v := -1000005) ?_ ?_
         · simp only [c91, s91_0, s91_1, s91_4, s91_7, s91_8, s91_11, s91_14, s91_15, s91_16_o0, s91_19, s91_20, s91_21_o0, s91_24, s91_25_o76, s91_26, s91_28, s91_29_o0, s91_32, s91_33_o76, s91_34, s91_36, s91_38_o77, s91_38_o79, s91_38_o81, s91_38_o83, s91_41, s91_44, s91_46_o77, s91_46_o79, s91_46_o81, s91_46_o83, s91_49, s91_52, s91_53, s91_54_o0, s91_57, s91_58, s91_60_o77, s91_60_o79, s91_60_o81, s91_60_o83, s91_63, s91_65_o77, s91_65_o79, s91_65_o81, s91_65_o83, s91_68, s91_71, s91_72, s91_73_o0, s91_76, s91_77, s91_79, s91_80, s91_82_o77, s91_82_o79, s91_82_o81, s91_82_o83, s91_85, s91_88, s91_90, s91_92, s91_94_o77, s91_94_o79, s91_94_o81, s91_94_o83, s91_97, s91_100, s91_101, s91_102_o0, s91_105, s91_106, s91_108_o77, s91_108_o79, s91_108_o81, s91_108_o83, s91_111, s91_112, s91_114_o77, s91_114_o79, s91_114_o81, s91_114_o83, s91_117, s91_119, s91_121, s91_124, s91_126, k_isSheet, hst, hot, b2_t, vs, vo, cs, co, cr76_1, cr76_0, ms, mo_, b2_F w1, b2_F w2, a1, b1, w3', k_failed_5, simprocAttr, if_true, if_false, true_and, and_true, false_and, and_false, not_false_eq_true, not_true_eq_false, gd_T, kont_i, kont_v]
         · simp only [c206, s206_0, s206_1, s206_4, s206_7, s206_8, s206_11, s206_14, s206_15, s206_17_o87, s206_20, s206_21, s206_22_o87, s206_25, s206_26_o100, s206_27, s206_30, s206_31_o87, s206_34, s206_35_o100, s206_36, s206_39, s206_40, s206_42_o87, s206_45, s206_46, s206_47_o87, s206_50, s206_51_o100, s206_52, s206_53_o87, s206_56, s206_57_o100, s206_58, s206_61, s206_62, s206_64_o87, s206_67, s206_68, s206_70, s206_73, s206_74, s206_77, s206_79, s206_82, s206_83, s206_84, s206_86, s206_87, s206_88, s206_89_o87, s206_92, s206_93_o101, s206_94, s206_95, s206_96, s206_99, s206_101, s206_102, s206_104, s206_105, s206_106, s206_107_o87, s206_110, s206_111_o101, s206_112, s206_113, s206_114, s206_117, s206_118, s206_120_o87, s206_123, s206_124, s206_125, m_isSheet, hst, hot, b2_t, vs, vo, cs, co, g100, w1', w2', w3', m_fin_5, simprocAttr, if_true, if_false, true_and, and_true, false_and, and_false, not_false_eq_true, not_true_eq_false, gd_T, kont_i, kont_v])
theorem L_move_1_1 {i : Nat} {σ : Hs} (h : RR i σ) (d : Nat) (x y n : Int32) : Step d i 91 206 [.int (nI 1), .int x, .int (nI 1), .int y, .int n] σ := by
  have hst : (0 ≤ nI 1 ∧ nI 1 ≤ 3) = True := eq_true (by decide +kernel)
  have hot : (0 ≤ nI 1 ∧ nI 1 ≤ 3) = True := eq_true (by decide +kernel)
  obtain ⟨⟨a1, a2⟩, qs, p1, p2, p3, p4⟩ := h.2.2.2.2.2.2.1 1 (by omega)
  obtain ⟨⟨b1, b2_⟩, qo, r1, r2, r3, r4⟩ := h.2.2.2.2.2.2.1 1 (by omega)
  have a1 : σ 79 1 = σ 100 1 := a1
  have b1 : σ 79 1 = σ 100 1 := b1
  have p2 : σ 79 2 = nI qs := p2
  have r2 : σ 79 2 = nI qo := r2
  have vs : vp_in (nI 1) 4 = True := vp_nI (by omega) (by omega)
  have vo : vp_in (nI 1) 4 = True := vp_nI (by omega) (by omega)
  have cs : (nI 1).toNatClampNeg = 1 := cl_nI (by omega)
  have co : (nI 1).toNatClampNeg = 1 := cl_nI (by omega)
  have ms := k_isMissing_1 (d + 98) σ _ a1
  have mo_ := k_isMissing_1 (d + 98) σ _ b1
  have g100 : ∀ k, erC σ k 100 = σ 100 := fun k => rep_ne (by omega)
  have g101 : ∀ k, erC σ k 101 = σ 101 := fun k => rep_ne (by omega)
  by_cases w1 : σ 100 1 = 0
  · refine Step_err h 2 (v := -1000002) ?_ ?_
    · simp only [c91, s91_0, s91_1, s91_4, s91_7, s91_8, s91_11, s91_14, s91_15, s91_16_o0, s91_19, s91_20, s91_21_o0, s91_24, s91_25_o76, s91_26, s91_28, s91_29_o0, s91_32, s91_33_o76, s91_34, s91_36, s91_38_o77, s91_38_o79, s91_38_o81, s91_38_o83, s91_41, s91_44, s91_46_o77, s91_46_o79, s91_46_o81, s91_46_o83, s91_49, s91_52, s91_53, s91_54_o0, s91_57, s91_58, s91_60_o77, s91_60_o79, s91_60_o81, s91_60_o83, s91_63, s91_65_o77, s91_65_o79, s91_65_o81, s91_65_o83, s91_68, s91_71, s91_72, s91_73_o0, s91_76, s91_77, s91_79, s91_80, s91_82_o77, s91_82_o79, s91_82_o81, s91_82_o83, s91_85, s91_88, s91_90, s91_92, s91_94_o77, s91_94_o79, s91_94_o81, s91_94_o83, s91_97, s91_100, s91_101, s91_102_o0, s91_105, s91_106, s91_108_o77, s91_108_o79, s91_108_o81, s91_108_o83, s91_111, s91_112, s91_114_o77, s91_114_o79, s91_114_o81, s91_114_o83, s91_117, s91_119, s91_121, s91_124, s91_126, k_isSheet, hst, hot, b2_t, vs, vo, cs, co, cr76_1, cr76_1, ms, b2_T w1, k_failed_2, simprocAttr, if_true, if_false, true_and, and_true, false_and, and_false, not_false_eq_true, not_true_eq_false, gd_T, kont_i, kont_v]
    · simp only [c206, s206_0, s206_1, s206_4, s206_7, s206_8, s206_11, s206_14, s206_15, s206_17_o87, s206_20, s206_21, s206_22_o87, s206_25, s206_26_o100, s206_27, s206_30, s206_31_o87, s206_34, s206_35_o100, s206_36, s206_39, s206_40, s206_42_o87, s206_45, s206_46, s206_47_o87, s206_50, s206_51_o100, s206_52, s206_53_o87, s206_56, s206_57_o100, s206_58, s206_61, s206_62, s206_64_o87, s206_67, s206_68, s206_70, s206_73, s206_74, s206_77, s206_79, s206_82, s206_83, s206_84, s206_86, s206_87, s206_88, s206_89_o87, s206_92, s206_93_o101, s206_94, s206_95, s206_96, s206_99, s206_101, s206_102, s206_104, s206_105, s206_106, s206_107_o87, s206_110, s206_111_o101, s206_112, s206_113, s206_114, s206_117, s206_118, s206_120_o87, s206_123, s206_124, s206_125, m_isSheet, hst, hot, b2_t, vs, vo, cs, co, g100, w1, m_fin_2, simprocAttr, if_true, if_false, true_and, and_true, false_and, and_false, not_false_eq_true, not_true_eq_false, gd_T, kont_i, kont_v]
  by_cases w2 : σ 100 1 = 0
  · first
      | exact absurd w2 w1
      | (refine Step_err h 2 (v := -1000002) ?_ ?_
         · simp only [c91, s91_0, s91_1, s91_4, s91_7, s91_8, s91_11, s91_14, s91_15, s91_16_o0, s91_19, s91_20, s91_21_o0, s91_24, s91_25_o76, s91_26, s91_28, s91_29_o0, s91_32, s91_33_o76, s91_34, s91_36, s91_38_o77, s91_38_o79, s91_38_o81, s91_38_o83, s91_41, s91_44, s91_46_o77, s91_46_o79, s91_46_o81, s91_46_o83, s91_49, s91_52, s91_53, s91_54_o0, s91_57, s91_58, s91_60_o77, s91_60_o79, s91_60_o81, s91_60_o83, s91_63, s91_65_o77, s91_65_o79, s91_65_o81, s91_65_o83, s91_68, s91_71, s91_72, s91_73_o0, s91_76, s91_77, s91_79, s91_80, s91_82_o77, s91_82_o79, s91_82_o81, s91_82_o83, s91_85, s91_88, s91_90, s91_92, s91_94_o77, s91_94_o79, s91_94_o81, s91_94_o83, s91_97, s91_100, s91_101, s91_102_o0, s91_105, s91_106, s91_108_o77, s91_108_o79, s91_108_o81, s91_108_o83, s91_111, s91_112, s91_114_o77, s91_114_o79, s91_114_o81, s91_114_o83, s91_117, s91_119, s91_121, s91_124, s91_126, k_isSheet, hst, hot, b2_t, vs, vo, cs, co, cr76_1, cr76_1, ms, mo_, b2_F w1, b2_T w2, k_failed_2, simprocAttr, if_true, if_false, true_and, and_true, false_and, and_false, not_false_eq_true, not_true_eq_false, gd_T, kont_i, kont_v]
         · have w1' := eq_false w1
           simp only [c206, s206_0, s206_1, s206_4, s206_7, s206_8, s206_11, s206_14, s206_15, s206_17_o87, s206_20, s206_21, s206_22_o87, s206_25, s206_26_o100, s206_27, s206_30, s206_31_o87, s206_34, s206_35_o100, s206_36, s206_39, s206_40, s206_42_o87, s206_45, s206_46, s206_47_o87, s206_50, s206_51_o100, s206_52, s206_53_o87, s206_56, s206_57_o100, s206_58, s206_61, s206_62, s206_64_o87, s206_67, s206_68, s206_70, s206_73, s206_74, s206_77, s206_79, s206_82, s206_83, s206_84, s206_86, s206_87, s206_88, s206_89_o87, s206_92, s206_93_o101, s206_94, s206_95, s206_96, s206_99, s206_101, s206_102, s206_104, s206_105, s206_106, s206_107_o87, s206_110, s206_111_o101, s206_112, s206_113, s206_114, s206_117, s206_118, s206_120_o87, s206_123, s206_124, s206_125, m_isSheet, hst, hot, b2_t, vs, vo, cs, co, g100, w1', w2, m_fin_2, simprocAttr, if_true, if_false, true_and, and_true, false_and, and_false, not_false_eq_true, not_true_eq_false, gd_T, kont_i, kont_v])
  by_cases w3 : σ 100 1 = σ 100 1
  · have k1 := k_stand_1 (d + 98) x n σ _ p2
    have k2 := k_stand_1 (d + 98) y n σ _ r2
    by_cases c1 : stQ qs x n
    · rw [b2_T c1] at k1
      by_cases c2 : stQ qo y n
      · rw [b2_T c2] at k2
        obtain ⟨a, nn, rfl, rfl, hq1⟩ := (stQ_n p1).mp c1
        obtain ⟨b, nn2, rfl, en, hq2⟩ := (stQ_n r1).mp c2
        have : nn = nn2 := by
          obtain ⟨-, h2, h3, -⟩ := c2
          have hb2 : nn2 ≤ qo := by omega
          rw [nI_eq (by omega) (by omega)] at en
          exact en
        subst this
        have hb := bnd_m (σ := σ) (x := 80) (y := 80) (a := a) (b := b) (n := nn) (by decide +kernel) (by omega) (by omega)
        have e1 : callD (d + 100) 91 [.ref 0, .int (nI 1), .int (nI a), .int (nI 1), .int (nI b), .int (nI nn)] σ = some (some (.int (nI nn)), rep σ 80 (va_cpy (σ 80) (σ 80) a b nn)) := by
          simp only [c91, s91_0, s91_1, s91_4, s91_7, s91_8, s91_11, s91_14, s91_15, s91_16_o0, s91_19, s91_20, s91_21_o0, s91_24, s91_25_o76, s91_26, s91_28, s91_29_o0, s91_32, s91_33_o76, s91_34, s91_36, s91_38_o77, s91_38_o79, s91_38_o81, s91_38_o83, s91_41, s91_44, s91_46_o77, s91_46_o79, s91_46_o81, s91_46_o83, s91_49, s91_52, s91_53, s91_54_o0, s91_57, s91_58, s91_60_o77, s91_60_o79, s91_60_o81, s91_60_o83, s91_63, s91_65_o77, s91_65_o79, s91_65_o81, s91_65_o83, s91_68, s91_71, s91_72, s91_73_o0, s91_76, s91_77, s91_79, s91_80, s91_82_o77, s91_82_o79, s91_82_o81, s91_82_o83, s91_85, s91_88, s91_90, s91_92, s91_94_o77, s91_94_o79, s91_94_o81, s91_94_o83, s91_97, s91_100, s91_101, s91_102_o0, s91_105, s91_106, s91_108_o77, s91_108_o79, s91_108_o81, s91_108_o83, s91_111, s91_112, s91_114_o77, s91_114_o79, s91_114_o81, s91_114_o83, s91_117, s91_119, s91_121, s91_124, s91_126, k_isSheet, hst, hot, b2_t, vs, vo, cs, co, cr76_1, cr76_1, ms, mo_, b2_F w1, b2_F w2, a1, b1, w3, k1, k2, hb, cl_nI (show a < 2147483648 by omega), cl_nI (show b < 2147483648 by omega), cl_nI (show nn < 2147483648 by omega), cp2_rep, simprocAttr, if_true, if_false, true_and, and_true, false_and, and_false, not_false_eq_true, not_true_eq_false, gd_T, kont_i, kont_v]
        obtain ⟨F, e2⟩ := m_move_ok d 1 a nn 1 b qs qo (by omega) (by omega) p1 r1 hq1 hq2 (rep σ 80 (va_cpy (σ 80) (σ 80) a b nn)) (σ 100 1) w1 (by rw [rep_ne (by omega)]) (by first | (rw [rep_ne (by omega)]; exact w3.symm) | rw [rep_ne (by omega)]) (by rw [rep_ne (by omega)]; exact p3) (by rw [rep_ne (by omega)]; exact r3)
        rw [rep_ne (show 102 ≠ 80 by omega)] at e2
        refine ⟨_, _, _, e1, e2, h.shx (SHr_num (o := 1) h.2.2.2.2.2.2.1 (by omega) (fun z hz => ?_) (fun k hk => ?_) (fun k hk => ?_)) (h.wb.two e1 e2) (fun z hz => ?_)⟩
        · rw [rep_ne (by omega), rep_ne (by omega), rep_ne (by omega)]
        · rw [rep_ne (by omega), rep_ne (by omega), rep_self, rep_self]
          unfold cbF
          by_cases c : b ≤ k ∧ k < b + nn
          · rw [pk_cpy_in c.1 c.2, if_pos (by omega)]
            have := p4 (a + (k - b)) (by omega)
            rw [show σ 80 (a + (k - b)) = σ 102 (24 * 1 + (a + (k - b))) from this]
            congr 1
            omega
          · rw [pk_cpy_out (by omega), if_neg (by omega)]
            exact r4 k hk
        · rw [rep_self]
          unfold cbF
          rw [if_neg (by omega)]
        · rw [rep_ne (by omega), rep_ne (by omega), rep_ne (by omega)]
      · rw [b2_F c2] at k2
        refine Step_err h 1 (v := -1000001) ?_ ?_
        · simp only [c91, s91_0, s91_1, s91_4, s91_7, s91_8, s91_11, s91_14, s91_15, s91_16_o0, s91_19, s91_20, s91_21_o0, s91_24, s91_25_o76, s91_26, s91_28, s91_29_o0, s91_32, s91_33_o76, s91_34, s91_36, s91_38_o77, s91_38_o79, s91_38_o81, s91_38_o83, s91_41, s91_44, s91_46_o77, s91_46_o79, s91_46_o81, s91_46_o83, s91_49, s91_52, s91_53, s91_54_o0, s91_57, s91_58, s91_60_o77, s91_60_o79, s91_60_o81, s91_60_o83, s91_63, s91_65_o77, s91_65_o79, s91_65_o81, s91_65_o83, s91_68, s91_71, s91_72, s91_73_o0, s91_76, s91_77, s91_79, s91_80, s91_82_o77, s91_82_o79, s91_82_o81, s91_82_o83, s91_85, s91_88, s91_90, s91_92, s91_94_o77, s91_94_o79, s91_94_o81, s91_94_o83, s91_97, s91_100, s91_101, s91_102_o0, s91_105, s91_106, s91_108_o77, s91_108_o79, s91_108_o81, s91_108_o83, s91_111, s91_112, s91_114_o77, s91_114_o79, s91_114_o81, s91_114_o83, s91_117, s91_119, s91_121, s91_124, s91_126, k_isSheet, hst, hot, b2_t, vs, vo, cs, co, cr76_1, cr76_1, ms, mo_, b2_F w1, b2_F w2, a1, b1, w3, k1, k2, k_failed_1, simprocAttr, if_true, if_false, true_and, and_true, false_and, and_false, not_false_eq_true, not_true_eq_false, gd_T, kont_i, kont_v]
        · exact m_move_no d 1 1 qs qo (by omega) (by omega) p1 r1 x y n (fun q => c2 q.2) (erC σ 1) (σ 100 1) w1 (by rw [g100]) (by first | (rw [g100]; exact w3.symm) | rw [g100]) (by rw [g101]; exact p3) (by rw [g101]; exact r3)
    · rw [b2_F c1] at k1
      refine Step_err h 1 (v := -1000001) ?_ ?_
      · simp only [c91, s91_0, s91_1, s91_4, s91_7, s91_8, s91_11, s91_14, s91_15, s91_16_o0, s91_19, s91_20, s91_21_o0, s91_24, s91_25_o76, s91_26, s91_28, s91_29_o0, s91_32, s91_33_o76, s91_34, s91_36, s91_38_o77, s91_38_o79, s91_38_o81, s91_38_o83, s91_41, s91_44, s91_46_o77, s91_46_o79, s91_46_o81, s91_46_o83, s91_49, s91_52, s91_53, s91_54_o0, s91_57, s91_58, s91_60_o77, s91_60_o79, s91_60_o81, s91_60_o83, s91_63, s91_65_o77, s91_65_o79, s91_65_o81, s91_65_o83, s91_68, s91_71, s91_72, s91_73_o0, s91_76, s91_77, s91_79, s91_80, s91_82_o77, s91_82_o79, s91_82_o81, s91_82_o83, s91_85, s91_88, s91_90, s91_92, s91_94_o77, s91_94_o79, s91_94_o81, s91_94_o83, s91_97, s91_100, s91_101, s91_102_o0, s91_105, s91_106, s91_108_o77, s91_108_o79, s91_108_o81, s91_108_o83, s91_111, s91_112, s91_114_o77, s91_114_o79, s91_114_o81, s91_114_o83, s91_117, s91_119, s91_121, s91_124, s91_126, k_isSheet, hst, hot, b2_t, vs, vo, cs, co, cr76_1, cr76_1, ms, mo_, b2_F w1, b2_F w2, a1, b1, w3, k1, k_failed_1, simprocAttr, if_true, if_false, true_and, and_true, false_and, and_false, not_false_eq_true, not_true_eq_false, gd_T, kont_i, kont_v]
      · exact m_move_no d 1 1 qs qo (by omega) (by omega) p1 r1 x y n (fun q => c1 q.1) (erC σ 1) (σ 100 1) w1 (by rw [g100]) (by first | (rw [g100]; exact w3.symm) | rw [g100]) (by rw [g101]; exact p3) (by rw [g101]; exact r3)
  · first
      | exact absurd rfl w3
      | (have w1' := eq_false w1
         have w2' := eq_false w2
         have w3' := eq_false w3
         refine Step_err h 5 (v := -1000005) ?_ ?_
         · simp only [c91, s91_0, s91_1, s91_4, s91_7, s91_8, s91_11, s91_14, s91_15, s91_16_o0, s91_19, s91_20, s91_21_o0, s91_24, s91_25_o76, s91_26, s91_28, s91_29_o0, s91_32, s91_33_o76, s91_34, s91_36, s91_38_o77, s91_38_o79, s91_38_o81, s91_38_o83, s91_41, s91_44, s91_46_o77, s91_46_o79, s91_46_o81, s91_46_o83, s91_49, s91_52, s91_53, s91_54_o0, s91_57, s91_58, s91_60_o77, s91_60_o79, s91_60_o81, s91_60_o83, s91_63, s91_65_o77, s91_65_o79, s91_65_o81, s91_65_o83, s91_68, s91_71, s91_72, s91_73_o0, s91_76, s91_77, s91_79, s91_80, s91_82_o77, s91_82_o79, s91_82_o81, s91_82_o83, s91_85, s91_88, s91_90, s91_92, s91_94_o77, s91_94_o79, s91_94_o81, s91_94_o83, s91_97, s91_100, s91_101, s91_102_o0, s91_105, s91_106, s91_108_o77, s91_108_o79, s91_108_o81, s91_108_o83, s91_111, s91_112, s91_114_o77, s91_114_o79, s91_114_o81, s91_114_o83, s91_117, s91_119, s91_121, s91_124, s91_126, k_isSheet, hst, hot, b2_t, vs, vo, cs, co, cr76_1, cr76_1, ms, mo_, b2_F w1, b2_F w2, a1, b1, w3', k_failed_5, simprocAttr, if_true, if_false, true_and, and_true, false_and, and_false, not_false_eq_true, not_true_eq_false, gd_T, kont_i, kont_v]
         · simp only [c206, s206_0, s206_1, s206_4, s206_7, s206_8, s206_11, s206_14, s206_15, s206_17_o87, s206_20, s206_21, s206_22_o87, s206_25, s206_26_o100, s206_27, s206_30, s206_31_o87, s206_34, s206_35_o100, s206_36, s206_39, s206_40, s206_42_o87, s206_45, s206_46, s206_47_o87, s206_50, s206_51_o100, s206_52, s206_53_o87, s206_56, s206_57_o100, s206_58, s206_61, s206_62, s206_64_o87, s206_67, s206_68, s206_70, s206_73, s206_74, s206_77, s206_79, s206_82, s206_83, s206_84, s206_86, s206_87, s206_88, s206_89_o87, s206_92, s206_93_o101, s206_94, s206_95, s206_96, s206_99, s206_101, s206_102, s206_104, s206_105, s206_106, s206_107_o87, s206_110, s206_111_o101, s206_112, s206_113, s206_114, s206_117, s206_118, s206_120_o87, s206_123, s206_124, s206_125, m_isSheet, hst, hot, b2_t, vs, vo, cs, co, g100, w1', w2', w3', m_fin_5, simprocAttr, if_true, if_false, true_and, and_true, false_and, and_false, not_false_eq_true, not_true_eq_false, gd_T, kont_i, kont_v])
theorem L_move_1_2 {i : Nat} {σ : Hs} (h : RR i σ) (d : Nat) (x y n : Int32) : Step d i 91 206 [.int (nI 1), .int x, .int (nI 2), .int y, .int n] σ := by
  have hst : (0 ≤ nI 1 ∧ nI 1 ≤ 3) = True := eq_true (by decide +kernel)
  have hot : (0 ≤ nI 2 ∧ nI 2 ≤ 3) = True := eq_true (by decide +kernel)
  obtain ⟨⟨a1, a2⟩, qs, p1, p2, p3, p4⟩ := h.2.2.2.2.2.2.1 1 (by omega)
  obtain ⟨⟨b1, b2_⟩, qo, r1, r2, r3, r4⟩ := h.2.2.2.2.2.2.1 2 (by omega)
  have a1 : σ 79 1 = σ 100 1 := a1
  have b1 : σ 81 1 = σ 100 2 := b1
  have p2 : σ 79 2 = nI qs := p2
  have r2 : σ 81 2 = nI qo := r2
  have vs : vp_in (nI 1) 4 = True := vp_nI (by omega) (by omega)
  have vo : vp_in (nI 2) 4 = True := vp_nI (by omega) (by omega)
  have cs : (nI 1).toNatClampNeg = 1 := cl_nI (by omega)
  have co : (nI 2).toNatClampNeg = 2 := cl_nI (by omega)
  have ms := k_isMissing_1 (d + 98) σ _ a1
  have mo_ := k_isMissing_2 (d + 98) σ _ b1
  have g100 : ∀ k, erC σ k 100 = σ 100 := fun k => rep_ne (by omega)
  have g101 : ∀ k, erC σ k 101 = σ 101 := fun k => rep_ne (by omega)
  by_cases w1 : σ 100 1 = 0
  · refine Step_err h 2 (v := -1000002) ?_ ?_
    · simp only [c91, s91_0, s91_1, s91_4, s91_7, s91_8, s91_11, s91_14, s91_15, s91_16_o0, s91_19, s91_20, s91_21_o0, s91_24, s91_25_o76, s91_26, s91_28, s91_29_o0, s91_32, s91_33_o76, s91_34, s91_36, s91_38_o77, s91_38_o79, s91_38_o81, s91_38_o83, s91_41, s91_44, s91_46_o77, s91_46_o79, s91_46_o81, s91_46_o83, s91_49, s91_52, s91_53, s91_54_o0, s91_57, s91_58, s91_60_o77, s91_60_o79, s91_60_o81, s91_60_o83, s91_63, s91_65_o77, s91_65_o79, s91_65_o81, s91_65_o83, s91_68, s91_71, s91_72, s91_73_o0, s91_76, s91_77, s91_79, s91_80, s91_82_o77, s91_82_o79, s91_82_o81, s91_82_o83, s91_85, s91_88, s91_90, s91_92, s91_94_o77, s91_94_o79, s91_94_o81, s91_94_o83, s91_97, s91_100, s91_101, s91_102_o0, s91_105, s91_106, s91_108_o77, s91_108_o79, s91_108_o81, s91_108_o83, s91_111, s91_112, s91_114_o77, s91_114_o79, s91_114_o81, s91_114_o83, s91_117, s91_119, s91_121, s91_124, s91_126, k_isSheet, hst, hot, b2_t, vs, vo, cs, co, cr76_1, cr76_2, ms, b2_T w1, k_failed_2, simprocAttr, if_true, if_false, true_and, and_true, false_and, and_false, not_false_eq_true, not_true_eq_false, gd_T, kont_i, kont_v]
    · simp only [c206, s206_0, s206_1, s206_4, s206_7, s206_8, s206_11, s206_14, s206_15, s206_17_o87, s206_20, s206_21, s206_22_o87, s206_25, s206_26_o100, s206_27, s206_30, s206_31_o87, s206_34, s206_35_o100, s206_36, s206_39, s206_40, s206_42_o87, s206_45, s206_46, s206_47_o87, s206_50, s206_51_o100, s206_52, s206_53_o87, s206_56, s206_57_o100, s206_58, s206_61, s206_62, s206_64_o87, s206_67, s206_68, s206_70, s206_73, s206_74, s206_77, s206_79, s206_82, s206_83, s206_84, s206_86, s206_87, s206_88, s206_89_o87, s206_92, s206_93_o101, s206_94, s206_95, s206_96, s206_99, s206_101, s206_102, s206_104, s206_105, s206_106, s206_107_o87, s206_110, s206_111_o101, s206_112, s206_113, s206_114, s206_117, s206_118, s206_120_o87, s206_123, s206_124, s206_125, m_isSheet, hst, hot, b2_t, vs, vo, cs, co, g100, w1, m_fin_2, simprocAttr, if_true, if_false, true_and, and_true, false_and, and_false, not_false_eq_true, not_true_eq_false, gd_T, kont_i, kont_v]
  by_cases w2 : σ 100 2 = 0
  · first
      | exact absurd w2 w1
      | (refine Step_err h 2 (v := -1000002) ?_ ?_
         · simp only [c91, s91_0, s91_1, s91_4, s91_7, s91_8, s91_11, s91_14, s91_15, s91_16_o0, s91_19, s91_20, s91_21_o0, s91_24, s91_25_o76, s91_26, s91_28, s91_29_o0, s91_32, s91_33_o76, s91_34, s91_36, s91_38_o77, s91_38_o79, s91_38_o81, s91_38_o83, s91_41, s91_44, s91_46_o77, s91_46_o79, s91_46_o81, s91_46_o83, s91_49, s91_52, s91_53, s91_54_o0, s91_57, s91_58, s91_60_o77, s91_60_o79, s91_60_o81, s91_60_o83, s91_63, s91_65_o77, s91_65_o79, s91_65_o81, s91_65_o83, s91_68, s91_71, s91_72, s91_73_o0, s91_76, s91_77, s91_79, s91_80, s91_82_o77, s91_82_o79, s91_82_o81, s91_82_o83, s91_85, s91_88, s91_90, s91_92, s91_94_o77, s91_94_o79, s91_94_o81, s91_94_o83, s91_97, s91_100, s91_101, s91_102_o0, s91_105, s91_106, s91_108_o77, s91_108_o79, s91_108_o81, s91_108_o83, s91_111, s91_112, s91_114_o77, s91_114_o79, s91_114_o81, s91_114_o83, s91_117, s91_119, s91_121, s91_124, s91_126, k_isSheet, hst, hot, b2_t, vs, vo, cs, co, cr76_1, cr76_2, ms, mo_, b2_F w1, b2_T w2, k_failed_2, simprocAttr, if_true, if_false, true_and, and_true, false_and, and_false, not_false_eq_true, not_true_eq_false, gd_T, kont_i, kont_v]
         · have w1' := eq_false w1
           simp only [c206, s206_0, s206_1, s206_4, s206_7, s206_8, s206_11, s206_14, s206_15, s206_17_o87, s206_20, s206_21, s206_22_o87, s206_25, s206_26_o100, s206_27, s206_30, s206_31_o87, s206_34, s206_35_o100, s206_36, s206_39, s206_40, s206_42_o87, s206_45, s206_46, s206_47_o87, s206_50, s206_51_o100, s206_52, s206_53_o87, s206_56, s206_57_o100, s206_58, s206_61, s206_62, s206_64_o87, s206_67, s206_68, s206_70, s206_73, s206_74, s206_77, s206_79, s206_82, s206_83, s206_84, s206_86, s206_87, s206_88, s206_89_o87, s206_92, s206_93_o101, s206_94, s206_95, s206_96, s206_99, s206_101, s206_102, s206_104, s206_105, s206_106, s206_107_o87, s206_110, s206_111_o101, s206_112, s206_113, s206_114, s206_117, s206_118, s206_120_o87, s206_123, s206_124, s206_125, m_isSheet, hst, hot, b2_t, vs, vo, cs, co, g100, w1', w2, m_fin_2, simprocAttr, if_true, if_false, true_and, and_true, false_and, and_false, not_false_eq_true, not_true_eq_false, gd_T, kont_i, kont_v])
  by_cases w3 : σ 100 1 = σ 100 2
  · have k1 := k_stand_1 (d + 98) x n σ _ p2
    have k2 := k_stand_2 (d + 98) y n σ _ r2
    by_cases c1 : stQ qs x n
    · rw [b2_T c1] at k1
      by_cases c2 : stQ qo y n
      · rw [b2_T c2] at k2
        obtain ⟨a, nn, rfl, rfl, hq1⟩ := (stQ_n p1).mp c1
        obtain ⟨b, nn2, rfl, en, hq2⟩ := (stQ_n r1).mp c2
        have : nn = nn2 := by
          obtain ⟨-, h2, h3, -⟩ := c2
          have hb2 : nn2 ≤ qo := by omega
          rw [nI_eq (by omega) (by omega)] at en
          exact en
        subst this
        have hb := bnd_m (σ := σ) (x := 82) (y := 80) (a := a) (b := b) (n := nn) (by decide +kernel) (by omega) (by omega)
        have e1 : callD (d + 100) 91 [.ref 0, .int (nI 1), .int (nI a), .int (nI 2), .int (nI b), .int (nI nn)] σ = some (some (.int (nI nn)), rep σ 82 (va_cpy (σ 80) (σ 82) a b nn)) := by
          simp only [c91, s91_0, s91_1, s91_4, s91_7, s91_8, s91_11, s91_14, s91_15, s91_16_o0, s91_19, s91_20, s91_21_o0, s91_24, s91_25_o76, s91_26, s91_28, s91_29_o0, s91_32, s91_33_o76, s91_34, s91_36, s91_38_o77, s91_38_o79, s91_38_o81, s91_38_o83, s91_41, s91_44, s91_46_o77, s91_46_o79, s91_46_o81, s91_46_o83, s91_49, s91_52, s91_53, s91_54_o0, s91_57, s91_58, s91_60_o77, s91_60_o79, s91_60_o81, s91_60_o83, s91_63, s91_65_o77, s91_65_o79, s91_65_o81, s91_65_o83, s91_68, s91_71, s91_72, s91_73_o0, s91_76, s91_77, s91_79, s91_80, s91_82_o77, s91_82_o79, s91_82_o81, s91_82_o83, s91_85, s91_88, s91_90, s91_92, s91_94_o77, s91_94_o79, s91_94_o81, s91_94_o83, s91_97, s91_100, s91_101, s91_102_o0, s91_105, s91_106, s91_108_o77, s91_108_o79, s91_108_o81, s91_108_o83, s91_111, s91_112, s91_114_o77, s91_114_o79, s91_114_o81, s91_114_o83, s91_117, s91_119, s91_121, s91_124, s91_126, k_isSheet, hst, hot, b2_t, vs, vo, cs, co, cr76_1, cr76_2, ms, mo_, b2_F w1, b2_F w2, a1, b1, w3, k1, k2, hb, cl_nI (show a < 2147483648 by omega), cl_nI (show b < 2147483648 by omega), cl_nI (show nn < 2147483648 by omega), cp2_rep, simprocAttr, if_true, if_false, true_and, and_true, false_and, and_false, not_false_eq_true, not_true_eq_false, gd_T, kont_i, kont_v]
        obtain ⟨F, e2⟩ := m_move_ok d 1 a nn 2 b qs qo (by omega) (by omega) p1 r1 hq1 hq2 (rep σ 82 (va_cpy (σ 80) (σ 82) a b nn)) (σ 100 1) w1 (by rw [rep_ne (by omega)]) (by first | (rw [rep_ne (by omega)]; exact w3.symm) | rw [rep_ne (by omega)]) (by rw [rep_ne (by omega)]; exact p3) (by rw [rep_ne (by omega)]; exact r3)
        rw [rep_ne (show 102 ≠ 82 by omega)] at e2
        refine ⟨_, _, _, e1, e2, h.shx (SHr_num (o := 2) h.2.2.2.2.2.2.1 (by omega) (fun z hz => ?_) (fun k hk => ?_) (fun k hk => ?_)) (h.wb.two e1 e2) (fun z hz => ?_)⟩
        · rw [rep_ne (by omega), rep_ne (by omega), rep_ne (by omega)]
        · rw [rep_ne (by omega), rep_ne (by omega), rep_self, rep_self]
          unfold cbF
          by_cases c : b ≤ k ∧ k < b + nn
          · rw [pk_cpy_in c.1 c.2, if_pos (by omega)]
            have := p4 (a + (k - b)) (by omega)
            rw [show σ 80 (a + (k - b)) = σ 102 (24 * 1 + (a + (k - b))) from this]
            congr 1
            omega
          · rw [pk_cpy_out (by omega), if_neg (by omega)]
            exact r4 k hk
        · rw [rep_self]
          unfold cbF
          rw [if_neg (by omega)]
        · rw [rep_ne (by omega), rep_ne (by omega), rep_ne (by omega)]
      · rw [b2_F c2] at k2
        refine Step_err h 1 (v := -1000001) ?_ ?_
        · simp only [c91, s91_0, s91_1, s91_4, s91_7, s91_8, s91_11, s91_14, s91_15, s91_16_o0, s91_19, s91_20, s91_21_o0, s91_24, s91_25_o76, s91_26, s91_28, s91_29_o0, s91_32, s91_33_o76, s91_34, s91_36, s91_38_o77, s91_38_o79, s91_38_o81, s91_38_o83, s91_41, s91_44, s91_46_o77, s91_46_o79, s91_46_o81, s91_46_o83, s91_49, s91_52, s91_53, s91_54_o0, s91_57, s91_58, s91_60_o77, s91_60_o79, s91_60_o81, s91_60_o83, s91_63, s91_65_o77, s91_65_o79, s91_65_o81, s91_65_o83, s91_68, s91_71, s91_72, s91_73_o0, s91_76, s91_77, s91_79, s91_80, s91_82_o77, s91_82_o79, s91_82_o81, s91_82_o83, s91_85, s91_88, s91_90, s91_92, s91_94_o77, s91_94_o79, s91_94_o81, s91_94_o83, s91_97, s91_100, s91_101, s91_102_o0, s91_105, s91_106, s91_108_o77, s91_108_o79, s91_108_o81, s91_108_o83, s91_111, s91_112, s91_114_o77, s91_114_o79, s91_114_o81, s91_114_o83, s91_117, s91_119, s91_121, s91_124, s91_126, k_isSheet, hst, hot, b2_t, vs, vo, cs, co, cr76_1, cr76_2, ms, mo_, b2_F w1, b2_F w2, a1, b1, w3, k1, k2, k_failed_1, simprocAttr, if_true, if_false, true_and, and_true, false_and, and_false, not_false_eq_true, not_true_eq_false, gd_T, kont_i, kont_v]
        · exact m_move_no d 1 2 qs qo (by omega) (by omega) p1 r1 x y n (fun q => c2 q.2) (erC σ 1) (σ 100 1) w1 (by rw [g100]) (by first | (rw [g100]; exact w3.symm) | rw [g100]) (by rw [g101]; exact p3) (by rw [g101]; exact r3)
    · rw [b2_F c1] at k1
      refine Step_err h 1 (v := -1000001) ?_ ?_
      · simp only [c91, s91_0, s91_1, s91_4, s91_7, s91_8, s91_11, s91_14, s91_15, s91_16_o0, s91_19, s91_20, s91_21_o0, s91_24, s91_25_o76, s91_26, s91_28, s91_29_o0, s91_32, s91_33_o76, s91_34, s91_36, s91_38_o77, s91_38_o79, s91_38_o81, s91_38_o83, s91_41, s91_44, s91_46_o77, s91_46_o79, s91_46_o81, s91_46_o83, s91_49, s91_52, s91_53, s91_54_o0, s91_57, s91_58, s91_60_o77, s91_60_o79, s91_60_o81, s91_60_o83, s91_63, s91_65_o77, s91_65_o79, s91_65_o81, s91_65_o83, s91_68, s91_71, s91_72, s91_73_o0, s91_76, s91_77, s91_79, s91_80, s91_82_o77, s91_82_o79, s91_82_o81, s91_82_o83, s91_85, s91_88, s91_90, s91_92, s91_94_o77, s91_94_o79, s91_94_o81, s91_94_o83, s91_97, s91_100, s91_101, s91_102_o0, s91_105, s91_106, s91_108_o77, s91_108_o79, s91_108_o81, s91_108_o83, s91_111, s91_112, s91_114_o77, s91_114_o79, s91_114_o81, s91_114_o83, s91_117, s91_119, s91_121, s91_124, s91_126, k_isSheet, hst, hot, b2_t, vs, vo, cs, co, cr76_1, cr76_2, ms, mo_, b2_F w1, b2_F w2, a1, b1, w3, k1, k_failed_1, simprocAttr, if_true, if_false, true_and, and_true, false_and, and_false, not_false_eq_true, not_true_eq_false, gd_T, kont_i, kont_v]
      · exact m_move_no d 1 2 qs qo (by omega) (by omega) p1 r1 x y n (fun q => c1 q.1) (erC σ 1) (σ 100 1) w1 (by rw [g100]) (by first | (rw [g100]; exact w3.symm) | rw [g100]) (by rw [g101]; exact p3) (by rw [g101]; exact r3)
  · first
      | exact absurd rfl w3
      | (have w1' := eq_false w1
         have w2' := eq_false w2
         have w3' := eq_false w3
         refine Step_err h 5 (v := -1000005) ?_ ?_
         · simp only [c91, s91_0, s91_1, s91_4, s91_7, s91_8, s91_11, s91_14, s91_15, s91_16_o0, s91_19, s91_20, s91_21_o0, s91_24, s91_25_o76, s91_26, s91_28, s91_29_o0, s91_32, s91_33_o76, s91_34, s91_36, s91_38_o77, s91_38_o79, s91_38_o81, s91_38_o83, s91_41, s91_44, s91_46_o77, s91_46_o79, s91_46_o81, s91_46_o83, s91_49, s91_52, s91_53, s91_54_o0, s91_57, s91_58, s91_60_o77, s91_60_o79, s91_60_o81, s91_60_o83, s91_63, s91_65_o77, s91_65_o79, s91_65_o81, s91_65_o83, s91_68, s91_71, s91_72, s91_73_o0, s91_76, s91_77, s91_79, s91_80, s91_82_o77, s91_82_o79, s91_82_o81, s91_82_o83, s91_85, s91_88, s91_90, s91_92, s91_94_o77, s91_94_o79, s91_94_o81, s91_94_o83, s91_97, s91_100, s91_101, s91_102_o0, s91_105, s91_106, s91_108_o77, s91_108_o79, s91_108_o81, s91_108_o83, s91_111, s91_112, s91_114_o77, s91_114_o79, s91_114_o81, s91_114_o83, s91_117, s91_119, s91_121, s91_124, s91_126, k_isSheet, hst, hot, b2_t, vs, vo, cs, co, cr76_1, cr76_2, ms, mo_, b2_F w1, b2_F w2, a1, b1, w3', k_failed_5, simprocAttr, if_true, if_false, true_and, and_true, false_and, and_false, not_false_eq_true, not_true_eq_false, gd_T, kont_i, kont_v]
         · simp only [c206, s206_0, s206_1, s206_4, s206_7, s206_8, s206_11, s206_14, s206_15, s206_17_o87, s206_20, s206_21, s206_22_o87, s206_25, s206_26_o100, s206_27, s206_30, s206_31_o87, s206_34, s206_35_o100, s206_36, s206_39, s206_40, s206_42_o87, s206_45, s206_46, s206_47_o87, s206_50, s206_51_o100, s206_52, s206_53_o87, s206_56, s206_57_o100, s206_58, s206_61, s206_62, s206_64_o87, s206_67, s206_68, s206_70, s206_73, s206_74, s206_77, s206_79, s206_82, s206_83, s206_84, s206_86, s206_87, s206_88, s206_89_o87, s206_92, s206_93_o101, s206_94, s206_95, s206_96, s206_99, s206_101, s206_102, s206_104, s206_105, s206_106, s206_107_o87, s206_110, s206_111_o101, s206_112, s206_113, s206_114, s206_117, s206_118, s206_120_o87, s206_123, s206_124, s206_125, m_isSheet, hst, hot, b2_t, vs, vo, cs, co, g100, w1', w2', w3', m_fin_5, simprocAttr, if_true, if_false, true_and, and_true, false_and, and_false, not_false_eq_true, not_true_eq_false, gd_T, kont_i, kont_v])
theorem L_move_1_3 {i : Nat} {σ : Hs} (h : RR i σ) (d : Nat) (x y n : Int32) : Step d i 91 206 [.int (nI 1), .int x, .int (nI 3), .int y, .int n] σ := by
  have hst : (0 ≤ nI 1 ∧ nI 1 ≤ 3) = True := eq_true (by decide +kernel)
  have hot : (0 ≤ nI 3 ∧ nI 3 ≤ 3) = True := eq_true (by decide +kernel)
  obtain ⟨⟨a1, a2⟩, qs, p1, p2, p3, p4⟩ := h.2.2.2.2.2.2.1 1 (by omega)
  obtain ⟨⟨b1, b2_⟩, qo, r1, r2, r3, r4⟩ := h.2.2.2.2.2.2.1 3 (by omega)
  have a1 : σ 79 1 = σ 100 1 := a1
  have b1 : σ 83 1 = σ 100 3 := b1
  have p2 : σ 79 2 = nI qs := p2
  have r2 : σ 83 2 = nI qo := r2
  have vs : vp_in (nI 1) 4 = True := vp_nI (by omega) (by omega)
  have vo : vp_in (nI 3) 4 = True := vp_nI (by omega) (by omega)
  have cs : (nI 1).toNatClampNeg = 1 := cl_nI (by omega)
  have co : (nI 3).toNatClampNeg = 3 := cl_nI (by omega)
  have ms := k_isMissing_1 (d + 98) σ _ a1
  have mo_ := k_isMissing_3 (d + 98) σ _ b1
  have g100 : ∀ k, erC σ k 100 = σ 100 := fun k => rep_ne (by omega)
  have g101 : ∀ k, erC σ k 101 = σ 101 := fun k => rep_ne (by omega)
  by_cases w1 : σ 100 1 = 0
  · refine Step_err h 2 (v := -1000002) ?_ ?_
    · simp only [c91, s91_0, s91_1, s91_4, s91_7, s91_8, s91_11, s91_14, s91_15, s91_16_o0, s91_19, s91_20, s91_21_o0, s91_24, s91_25_o76, s91_26, s91_28, s91_29_o0, s91_32, s91_33_o76, s91_34, s91_36, s91_38_o77, s91_38_o79, s91_38_o81, s91_38_o83, s91_41, s91_44, s91_46_o77, s91_46_o79, s91_46_o81, s91_46_o83, s91_49, s91_52, s91_53, s91_54_o0, s91_57, s91_58, s91_60_o77, s91_60_o79, s91_60_o81, s91_60_o83, s91_63, s91_65_o77, s91_65_o79, s91_65_o81, s91_65_o83, s91_68, s91_71, s91_72, s91_73_o0, s91_76, s91_77, s91_79, s91_80, s91_82_o77, s91_82_o79, s91_82_o81, s91_82_o83, s91_85, s91_88, s91_90, s91_92, s91_94_o77, s91_94_o79, s91_94_o81, s91_94_o83, s91_97, s91_100, s91_101, s91_102_o0, s91_105, s91_106, s91_108_o77, s91_108_o79, s91_108_o81, s91_108_o83, s91_111, s91_112, s91_114_o77, s91_114_o79, s91_114_o81, s91_114_o83, s91_117, s91_119, s91_121, s91_124, s91_126, k_isSheet, hst, hot, b2_t, vs, vo, cs, co, cr76_1, cr76_3, ms, b2_T w1, k_failed_2, simprocAttr, if_true, if_false, true_and, and_true, false_and, and_false, not_false_eq_true, not_true_eq_false, gd_T, kont_i, kont_v]
    · simp only [c206, s206_0, s206_1, s206_4, s206_7, s206_8, s206_11, s206_14, s206_15, s206_17_o87, s206_20, s206_21, s206_22_o87, s206_25, s206_26_o100, s206_27, s206_30, s206_31_o87, s206_34, s206_35_o100, s206_36, s206_39, s206_40, s206_42_o87, s206_45, s206_46, s206_47_o87, s206_50, s206_51_o100, s206_52, s206_53_o87, s206_56, s206_57_o100, s206_58, s206_61, s206_62, s206_64_o87, s206_67, s206_68, s206_70, s206_73, s206_74, s206_77, s206_79, s206_82, s206_83, s206_84, s206_86, s206_87, s206_88, s206_89_o87, s206_92, s206_93_o101, s206_94, s206_95, s206_96, s206_99, s206_101, s206_102, s206_104, s206_105, s206_106, s206_107_o87, s206_110, s206_111_o101, s206_112, s206_113, s206_114, s206_117, s206_118, s206_120_o87, s206_123, s206_124, s206_125, m_isSheet, hst, hot, b2_t, vs, vo, cs, co, g100, w1, m_fin_2, simprocAttr, if_true, if_false, true_and, and_true, false_and, and_false, not_false_eq_true, not_true_eq_false, gd_T, kont_i, kont_v]
  by_cases w2 : σ 100 3 = 0
  · first
      | exact absurd w2 w1
      | (refine Step_err h 2 (v := -1000002) ?_ ?_
         · simp only [c91, s91_0, s91_1, s91_4, s91_7, s91_8, s91_11, s91_14, s91_15, s91_16_o0, s91_19, s91_20, s91_21_o0, s91_24, s91_25_o76, s91_26, s91_28, s91_29_o0, s91_32, s91_33_o76, s91_34, s91_36, s91_38_o77, s91_38_o79, s91_38_o81, s91_38_o83, s91_41, s91_44, s91_46_o77, s91_46_o79, s91_46_o81, s91_46_o83, s91_49, s91_52, s91_53, s91_54_o0, s91_57, s91_58, s91_60_o77, s91_60_o79, s91_60_o81, s91_60_o83, s91_63, s91_65_o77, s91_65_o79, s91_65_o81, s91_65_o83, s91_68, s91_71, s91_72, s91_73_o0, s91_76, s91_77, s91_79, s91_80, s91_82_o77, s91_82_o79, s91_82_o81, s91_82_o83, s91_85, s91_88, s91_90, s91_92, s91_94_o77, s91_94_o79, s91_94_o81, s91_94_o83, s91_97, s91_100, s91_101, s91_102_o0, s91_105, s91_106, s91_108_o77, s91_108_o79, s91_108_o81, s91_108_o83, s91_111, s91_112, s91_114_o77, s91_114_o79, s91_114_o81, s91_114_o83, s91_117, s91_119, s91_121, s91_124, s91_126, k_isSheet, hst, hot, b2_t, vs, vo, cs, co, cr76_1, cr76_3, ms, mo_, b2_F w1, b2_T w2, k_failed_2, simprocAttr, if_true, if_false, true_and, and_true, false_and, and_false, not_false_eq_true, not_true_eq_false, gd_T, kont_i, kont_v]
         · have w1' := eq_false w1
           simp only [c206, s206_0, s206_1, s206_4, s206_7, s206_8, s206_11, s206_14, s206_15, s206_17_o87, s206_20, s206_21, s206_22_o87, s206_25, s206_26_o100, s206_27, s206_30, s206_31_o87, s206_34, s206_35_o100, s206_36, s206_39, s206_40, s206_42_o87, s206_45, s206_46, s206_47_o87, s206_50, s206_51_o100, s206_52, s206_53_o87, s206_56, s206_57_o100, s206_58, s206_61, s206_62, s206_64_o87, s206_67, s206_68, s206_70, s206_73, s206_74, s206_77, s206_79, s206_82, s206_83, s206_84, s206_86, s206_87, s206_88, s206_89_o87, s206_92, s206_93_o101, s206_94, s206_95, s206_96, s206_99, s206_101, s206_102, s206_104, s206_105, s206_106, s206_107_o87, s206_110, s206_111_o101, s206_112, s206_113, s206_114, s206_117, s206_118, s206_120_o87, s206_123, s206_124, s206_125, m_isSheet, hst, hot, b2_t, vs, vo, cs, co, g100, w1', w2, m_fin_2, simprocAttr, if_true, if_false, true_and, and_true, false_and, and_false, not_false_eq_true, not_true_eq_false, gd_T, kont_i, kont_v])
  by_cases w3 : σ 100 1 = σ 100 3
  · have k1 := k_stand_1 (d + 98) x n σ _ p2
    have k2 := k_stand_3 (d + 98) y n σ _ r2
    by_cases c1 : stQ qs x n
    · rw [b2_T c1] at k1
      by_cases c2 : stQ qo y n
      · rw [b2_T c2] at k2
        obtain ⟨a, nn, rfl, rfl, hq1⟩ := (stQ_n p1).mp c1
        obtain ⟨b, nn2, rfl, en, hq2⟩ := (stQ_n r1).mp c2
        have : nn = nn2 := by
          obtain ⟨-, h2, h3, -⟩ := c2
          have hb2 : nn2 ≤ qo := by omega
          rw [nI_eq (by omega) (by omega)] at en
          exact en
        subst this
        have hb := bnd_m (σ := σ) (x := 84) (y := 80) (a := a) (b := b) (n := nn) (by decide +kernel) (by omega) (by omega)
        have e1 : callD (d + 100) 91 [.ref 0, .int (nI 1), .int (nI a), .int (nI 3), .int (nI b), .int (nI nn)] σ = some (some (.int (nI nn)), rep σ 84 (va_cpy (σ 80) (σ 84) a b nn)) := by
          simp only [c91, s91_0, s91_1, s91_4, s91_7, s91_8, s91_11, s91_14, s91_15, s91_16_o0, s91_19, s91_20, s91_21_o0, s91_24, s91_25_o76, s91_26, s91_28, s91_29_o0, s91_32, s91_33_o76, s91_34, s91_36, s91_38_o77, s91_38_o79, s91_38_o81, s91_38_o83, s91_41, s91_44, s91_46_o77, s91_46_o79, s91_46_o81, s91_46_o83, s91_49, s91_52, s91_53, s91_54_o0, s91_57, s91_58, s91_60_o77, s91_60_o79, s91_60_o81, s91_60_o83, s91_63, s91_65_o77, s91_65_o79, s91_65_o81, s91_65_o83, s91_68, s91_71, s91_72, s91_73_o0, s91_76, s91_77, s91_79, s91_80, s91_82_o77, s91_82_o79, s91_82_o81, s91_82_o83, s91_85, s91_88, s91_90, s91_92, s91_94_o77, s91_94_o79, s91_94_o81, s91_94_o83, s91_97, s91_100, s91_101, s91_102_o0, s91_105, s91_106, s91_108_o77, s91_108_o79, s91_108_o81, s91_108_o83, s91_111, s91_112, s91_114_o77, s91_114_o79, s91_114_o81, s91_114_o83, s91_117, s91_119, s91_121, s91_124, s91_126, k_isSheet, hst, hot, b2_t, vs, vo, cs, co, cr76_1, cr76_3, ms, mo_, b2_F w1, b2_F w2, a1, b1, w3, k1, k2, hb, cl_nI (show a < 2147483648 by omega), cl_nI (show b < 2147483648 by omega), cl_nI (show nn < 2147483648 by omega), cp2_rep, simprocAttr, if_true, if_false, true_and, and_true, false_and, and_false, not_false_eq_true, not_true_eq_false, gd_T, kont_i, kont_v]
        obtain ⟨F, e2⟩ := m_move_ok d 1 a nn 3 b qs qo (by omega) (by omega) p1 r1 hq1 hq2 (rep σ 84 (va_cpy (σ 80) (σ 84) a b nn)) (σ 100 1) w1 (by rw [rep_ne (by omega)]) (by first | (rw [rep_ne (by omega)]; exact w3.symm) | rw [rep_ne (by omega)]) (by rw [rep_ne (by omega)]; exact p3) (by rw [rep_ne (by omega)]; exact r3)
        rw [rep_ne (show 102 ≠ 84 by omega)] at e2
        refine ⟨_, _, _, e1, e2, h.shx (SHr_num (o := 3) h.2.2.2.2.2.2.1 (by omega) (fun z hz => ?_) (fun k hk => ?_) (fun k hk => ?_)) (h.wb.two e1 e2) (fun z hz => ?_)⟩
        · rw [rep_ne (by omega), rep_ne (by omega), rep_ne (by omega)]
        · rw [rep_ne (by omega), rep_ne (by omega), rep_self, rep_self]
          unfold cbF
          by_cases c : b ≤ k ∧ k < b + nn
          · rw [pk_cpy_in c.1 c.2, if_pos (by omega)]
            have := p4 (a + (k - b)) (by omega)
            rw [show σ 80 (a + (k - b)) = σ 102 (24 * 1 + (a + (k - b))) from this]
            congr 1
            omega
          · rw [pk_cpy_out (by omega), if_neg (by omega)]
            exact r4 k hk
        · rw [rep_self]
          unfold cbF
          rw [if_neg (by omega)]
        · rw [rep_ne (by omega), rep_ne (by omega), rep_ne (by omega)]
      · rw [b2_F c2] at k2
        refine Step_err h 1 (v := -1000001) ?_ ?_
        · simp only [c91, s91_0, s91_1, s91_4, s91_7, s91_8, s91_11, s91_14, s91_15, s91_16_o0, s91_19, s91_20, s91_21_o0, s91_24, s91_25_o76, s91_26, s91_28, s91_29_o0, s91_32, s91_33_o76, s91_34, s91_36, s91_38_o77, s91_38_o79, s91_38_o81, s91_38_o83, s91_41, s91_44, s91_46_o77, s91_46_o79, s91_46_o81, s91_46_o83, s91_49, s91_52, s91_53, s91_54_o0, s91_57, s91_58, s91_60_o77, s91_60_o79, s91_60_o81, s91_60_o83, s91_63, s91_65_o77, s91_65_o79, s91_65_o81, s91_65_o83, s91_68, s91_71, s91_72, s91_73_o0, s91_76, s91_77, s91_79, s91_80, s91_82_o77, s91_82_o79, s91_82_o81, s91_82_o83, s91_85, s91_88, s91_90, s91_92, s91_94_o77, s91_94_o79, s91_94_o81, s91_94_o83, s91_97, s91_100, s91_101, s91_102_o0, s91_105, s91_106, s91_108_o77, s91_108_o79, s91_108_o81, s91_108_o83, s91_111, s91_112, s91_114_o77, s91_114_o79, s91_114_o81, s91_114_o83, s91_117, s91_119, s91_121, s91_124, s91_126, k_isSheet, hst, hot, b2_t, vs, vo, cs, co, cr76_1, cr76_3, ms, mo_, b2_F w1, b2_F w2, a1, b1, w3, k1, k2, k_failed_1, simprocAttr, if_true, if_false, true_and, and_true, false_and, and_false, not_false_eq_true, not_true_eq_false, gd_T, kont_i, kont_v]
        · exact m_move_no d 1 3 qs qo (by omega) (by omega) p1 r1 x y n (fun q => c2 q.2) (erC σ 1) (σ 100 1) w1 (by rw [g100]) (by first | (rw [g100]; exact w3.symm) | rw [g100]) (by rw [g101]; exact p3) (by rw [g101]; exact r3)
    · rw [b2_F c1] at k1
      refine Step_err h 1 (v := -1000001) ?_ ?_
      · simp only [c91, s91_0, s91_1, s91_4, s91_7, s91_8, s91_11, s91_14, s91_15, s91_16_o0, s91_19, s91_20, s91_21_o0, s91_24, s91_25_o76, s91_26, s91_28, s91_29_o0, s91_32, s91_33_o76, s91_34, s91_36, s91_38_o77, s91_38_o79, s91_38_o81, s91_38_o83, s91_41, s91_44, s91_46_o77, s91_46_o79, s91_46_o81, s91_46_o83, s91_49, s91_52, s91_53, s91_54_o0, s91_57, s91_58, s91_60_o77, s91_60_o79, s91_60_o81, s91_60_o83, s91_63, s91_65_o77, s91_65_o79, s91_65_o81, s91_65_o83, s91_68, s91_71, s91_72, s91_73_o0, s91_76, s91_77, s91_79, s91_80, s91_82_o77, s91_82_o79, s91_82_o81, s91_82_o83, s91_85, s91_88, s91_90, s91_92, s91_94_o77, s91_94_o79, s91_94_o81, s91_94_o83, s91_97, s91_100, s91_101, s91_102_o0, s91_105, s91_106, s91_108_o77, s91_108_o79, s91_108_o81, s91_108_o83, s91_111, s91_112, s91_114_o77, s91_114_o79, s91_114_o81, s91_114_o83, s91_117, s91_119, s91_121, s91_124, s91_126, k_isSheet, hst, hot, b2_t, vs, vo, cs, co, cr76_1, cr76_3, ms, mo_, b2_F w1, b2_F w2, a1, b1, w3, k1, k_failed_1, simprocAttr, if_true, if_false, true_and, and_true, false_and, and_false, not_false_eq_true, not_true_eq_false, gd_T, kont_i, kont_v]
      · exact m_move_no d 1 3 qs qo (by omega) (by omega) p1 r1 x y n (fun q => c1 q.1) (erC σ 1) (σ 100 1) w1 (by rw [g100]) (by first | (rw [g100]; exact w3.symm) | rw [g100]) (by rw [g101]; exact p3) (by rw [g101]; exact r3)
  · first
      | exact absurd rfl w3
      | (have w1' := eq_false w1
         have w2' := eq_false w2
         have w3' := eq_false w3
         refine Step_err h 5 (v := -1000005) ?_ ?_
         · simp only [c91, s91_0, s91_1, s91_4, s91_7, s91_8, s91_11, s91_14, s91_15, s91_16_o0, s91_19, s91_20, s91_21_o0, s91_24, s91_25_o76, s91_26, s91_28, s91_29_o0, s91_32, s91_33_o76, s91_34, s91_36, s91_38_o77, s91_38_o79, s91_38_o81, s91_38_o83, s91_41, s91_44, s91_46_o77, s91_46_o79, s91_46_o81, s91_46_o83, s91_49, s91_52, s91_53, s91_54_o0, s91_57, s91_58, s91_60_o77, s91_60_o79, s91_60_o81, s91_60_o83, s91_63, s91_65_o77, s91_65_o79, s91_65_o81, s91_65_o83, s91_68, s91_71, s91_72, s91_73_o0, s91_76, s91_77, s91_79, s91_80, s91_82_o77, s91_82_o79, s91_82_o81, s91_82_o83, s91_85, s91_88, s91_90, s91_92, s91_94_o77, s91_94_o79, s91_94_o81, s91_94_o83, s91_97, s91_100, s91_101, s91_102_o0, s91_105, s91_106, s91_108_o77, s91_108_o79, s91_108_o81, s91_108_o83, s91_111, s91_112, s91_114_o77, s91_114_o79, s91_114_o81, s91_114_o83, s91_117, s91_119, s91_121, s91_124, s91_126, k_isSheet, hst, hot, b2_t, vs, vo, cs, co, cr76_1, cr76_3, ms, mo_, b2_F w1, b2_F w2, a1, b1, w3', k_failed_5, simprocAttr, if_true, if_false, true_and, and_true, false_and, and_false, not_false_eq_true, not_true_eq_false, gd_T, kont_i, kont_v]
         · simp only [c206, s206_0, s206_1, s206_4, s206_7, s206_8, s206_11, s206_14, s206_15, s206_17_o87, s206_20, s206_21, s206_22_o87, s206_25, s206_26_o100, s206_27, s206_30, s206_31_o87, s206_34, s206_35_o100, s206_36, s206_39, s206_40, s206_42_o87, s206_45, s206_46, s206_47_o87, s206_50, s206_51_o100, s206_52, s206_53_o87, s206_56, s206_57_o100, s206_58, s206_61, s206_62, s206_64_o87, s206_67, s206_68, s206_70, s206_73, s206_74, s206_77, s206_79, s206_82, s206_83, s206_84, s206_86, s206_87, s206_88, s206_89_o87, s206_92, s206_93_o101, s206_94, s206_95, s206_96, s206_99, s206_101, s206_102, s206_104, s206_105, s206_106, s206_107_o87, s206_110, s206_111_o101, s206_112, s206_113, s206_114, s206_117, s206_118, s206_120_o87, s206_123, s206_124, s206_125, m_isSheet, hst, hot, b2_t, vs, vo, cs, co, g100, w1', w2', w3', m_fin_5, simprocAttr, if_true, if_false, true_and, and_true, false_and, and_false, not_false_eq_true, not_true_eq_false, gd_T, kont_i, kont_v])
theorem L_move_2_0 {i : Nat} {σ : Hs} (h : RR i σ) (d : Nat) (x y n : Int32) : Step d i 91 206 [.int (nI 2), .int x, .int (nI 0), .int y, .int n] σ := by
  have hst : (0 ≤ nI 2 ∧ nI 2 ≤ 3) = True := eq_true (by decide +kernel)
  have hot : (0 ≤ nI 0 ∧ nI 0 ≤ 3) = True := eq_true (by decide +kernel)
  obtain ⟨⟨a1, a2⟩, qs, p1, p2, p3, p4⟩ := h.2.2.2.2.2.2.1 2 (by omega)
  obtain ⟨⟨b1, b2_⟩, qo, r1, r2, r3, r4⟩ := h.2.2.2.2.2.2.1 0 (by omega)
  have a1 : σ 81 1 = σ 100 2 := a1
  have b1 : σ 77 1 = σ 100 0 := b1
  have p2 : σ 81 2 = nI qs := p2
  have r2 : σ 77 2 = nI qo := r2
  have vs : vp_in (nI 2) 4 = True := vp_nI (by omega) (by omega)
  have vo : vp_in (nI 0) 4 = True := vp_nI (by omega) (by omega)
  have cs : (nI 2).toNatClampNeg = 2 := cl_nI (by omega)
  have co : (nI 0).toNatClampNeg = 0 := cl_nI (by omega)
  have ms := k_isMissing_2 (d + 98) σ _ a1
  have mo_ := k_isMissing_0 (d + 98) σ _ b1
  have g100 : ∀ k, erC σ k 100 = σ 100 := fun k => rep_ne (by omega)
  have g101 : ∀ k, erC σ k 101 = σ 101 := fun k => rep_ne (by omega)
  by_cases w1 : σ 100 2 = 0
  · refine Step_err h 2 (v := -1000002) ?_ ?_
    · simp only [c91, s91_0, s91_1, s91_4, s91_7, s91_8, s91_11, s91_14, s91_15, s91_16_o0, s91_19, s91_20, s91_21_o0, s91_24, s91_25_o76, s91_26, s91_28, s91_29_o0, s91_32, s91_33_o76, s91_34, s91_36, s91_38_o77, s91_38_o79, s91_38_o81, s91_38_o83, s91_41, s91_44, s91_46_o77, s91_46_o79, s91_46_o81, s91_46_o83, s91_49, s91_52, s91_53, s91_54_o0, s91_57, s91_58, s91_60_o77, s91_60_o79, s91_60_o81, s91_60_o83, s91_63, s91_65_o77, s91_65_o79, s91_65_o81, s91_65_o83, s91_68, s91_71, s91_72, s91_73_o0, s91_76, s91_77, s91_79, s91_80, s91_82_o77, s91_82_o79, s91_82_o81, s91_82_o83, s91_85, s91_88, s91_90, s91_92, s91_94_o77, s91_94_o79, s91_94_o81, s91_94_o83, s91_97, s91_100, s91_101, s91_102_o0, s91_105, s91_106, s91_108_o77, s91_108_o79, s91_108_o81, s91_108_o83, s91_111, s91_112, s91_114_o77, s91_114_o79, s91_114_o81, s91_114_o83, s91_117, s91_119, s91_121, s91_124, s91_126, k_isSheet, hst, hot, b2_t, vs, vo, cs, co, cr76_2, cr76_0, ms, b2_T w1, k_failed_2, simprocAttr, if_true, if_false, true_and, and_true, false_and, and_false, not_false_eq_true, not_true_eq_false, gd_T, kont_i, kont_v]
    · simp only [c206, s206_0, s206_1, s206_4, s206_7, s206_8, s206_11, s206_14, s206_15, s206_17_o87, s206_20, s206_21, s206_22_o87, s206_25, s206_26_o100, s206_27, s206_30, s206_31_o87, s206_34, s206_35_o100, s206_36, s206_39, s206_40, s206_42_o87, s206_45, s206_46, s206_47_o87, s206_50, s206_51_o100, s206_52, s206_53_o87, s206_56, s206_57_o100, s206_58, s206_61, s206_62, s206_64_o87, s206_67, s206_68, s206_70, s206_73, s206_74, s206_77, s206_79, s206_82, s206_83, s206_84, s206_86, s206_87, s206_88, s206_89_o87, s206_92, s206_93_o101, s206_94, s206_95, s206_96, s206_99, s206_101, s206_102, s206_104, s206_105, s206_106, s206_107_o87, s206_110, s206_111_o101, s206_112, s206_113, s206_114, s206_117, s206_118, s206_120_o87, s206_123, s206_124, s206_125, m_isSheet, hst, hot, b2_t, vs, vo, cs, co, g100, w1, m_fin_2, simprocAttr, if_true, if_false, true_and, and_true, false_and, and_false, not_false_eq_true, not_true_eq_false, gd_T, kont_i, kont_v]
  by_cases w2 : σ 100 0 = 0
  · first
      | exact absurd w2 w1
      | (refine Step_err h 2 (v := -1000002) ?_ ?_
         · simp only [c91, s91_0, s91_1, s91_4, s91_7, s91_8, s91_11, s91_14, s91_15, s91_16_o0, s91_19, s91_20, s91_21_o0, s91_24, s91_25_o76, s91_26, s91_28, s91_29_o0, s91_32, s91_33_o76, s91_34, s91_36, s91_38_o77, s91_38_o79, s91_38_o81, s91_38_o83, s91_41, s91_44, s91_46_o77, s91_46_o79, s91_46_o81, s91_46_o83, s91_49, s91_52, s91_53, s91_54_o0, s91_57, s91_58, s91_60_o77, s91_60_o79, s91_60_o81, s91_60_o83, s91_63, s91_65_o77, s91_65_o79, s91_65_o81, s91_65_o83, s91_68, s91_71, s91_72, s91_73_o0, s91_76, s91_77, s91_79, s91_80, s91_82_o77, s91_82_o79, s91_82_o81, s91_82_o83, s91_85, s91_88, s91_90, s91_92, s91_94_o77, s91_94_o79, s91_94_o81, s91_94_o83, s91_97, s91_100, s91_101, s91_102_o0, s91_105, s91_106, s91_108_o77, s91_108_o79, s91_108_o81, s91_108_o83, s91_111, s91_112, s91_114_o77, s91_114_o79, s91_114_o81, s91_114_o83, s91_117, s91_119, s91_121, s91_124, s91_126, k_isSheet, hst, hot, b2_t, vs, vo, cs, co, cr76_2, cr76_0, ms, mo_, b2_F w1, b2_T w2, k_failed_2, simprocAttr, if_true, if_false, true_and, and_true, false_and, and_false, not_false_eq_true, not_true_eq_false, gd_T, kont_i, kont_v]
         · have w1' := eq_false w1
           simp only [c206, s206_0, s206_1, s206_4, s206_7, s206_8, s206_11, s206_14, s206_15, s206_17_o87, s206_20, s206_21, s206_22_o87, s206_25, s206_26_o100, s206_27, s206_30, s206_31_o87, s206_34, s206_35_o100, s206_36, s206_39, s206_40, s206_42_o87, s206_45, s206_46, s206_47_o87, s206_50, s206_51_o100, s206_52, s206_53_o87, s206_56, s206_57_o100, s206_58, s206_61, s206_62, s206_64_o87, s206_67, s206_68, s206_70, s206_73, s206_74, s206_77, s206_79, s206_82, s206_83, s206_84, s206_86, s206_87, s206_88, s206_89_o87, s206_92, s206_93_o101, s206_94, s206_95, s206_96, s206_99, s206_101, s206_102, s206_104, s206_105, s206_106, s206_107_o87, s206_110, s206_111_o101, s206_112, s206_113, s206_114, s206_117, s206_118, s206_120_o87, s206_123, s206_124, s206_125, m_isSheet, hst, hot, b2_t, vs, vo, cs, co, g100, w1', w2, m_fin_2, simprocAttr, if_true, if_false, true_and, and_true, false_and, and_false, not_false_eq_true, not_true_eq_false, gd_T, kont_i, kont_v])
  by_cases w3 : σ 100 2 = σ 100 0
  · have k1 := k_stand_2 (d + 98) x n σ _ p2
    have k2 := k_stand_0 (d + 98) y n σ _ r2
    by_cases c1 : stQ qs x n
    · rw [b2_T c1] at k1
      by_cases c2 : stQ qo y n
      · rw [b2_T c2] at k2
        obtain ⟨a, nn, rfl, rfl, hq1⟩ := (stQ_n p1).mp c1
        obtain ⟨b, nn2, rfl, en, hq2⟩ := (stQ_n r1).mp c2
        have : nn = nn2 := by
          obtain ⟨-, h2, h3, -⟩ := c2
          have hb2 : nn2 ≤ qo := by omega
          rw [nI_eq (by omega) (by omega)] at en
          exact en
        subst this
        have hb := bnd_m (σ := σ) (x := 78) (y := 82) (a := a) (b := b) (n := nn) (by decide +kernel) (by omega) (by omega)
        have e1 : callD (d + 100) 91 [.ref 0, .int (nI 2), .int (nI a), .int (nI 0), .int (nI b), .int (nI nn)] σ = some (some (.int (nI nn)), rep σ 78 (va_cpy (σ 82) (σ 78) a b nn)) := by
          simp only [c91, s91_0, s91_1, s91_4, s91_7, s91_8, s91_11, s91_14, s91_15, s91_16_o0, s91_19, s91_20, s91_21_o0, s91_24, s91_25_o76, s91_26, s91_28, s91_29_o0, s91_32, s91_33_o76, s91_34, s91_36, s91_38_o77, s91_38_o79, s91_38_o81, s91_38_o83, s91_41, s91_44, s91_46_o77, s91_46_o79, s91_46_o81, s91_46_o83, s91_49, s91_52, s91_53, s91_54_o0, s91_57, s91_58, s91_60_o77, s91_60_o79, s91_60_o81, s91_60_o83, s91_63, s91_65_o77, s91_65_o79, s91_65_o81, s91_65_o83, s91_68, s91_71, s91_72, s91_73_o0, s91_76, s91_77, s91_79, s91_80, s91_82_o77, s91_82_o79, s91_82_o81, s91_82_o83, s91_85, s91_88, s91_90, s91_92, s91_94_o77, s91_94_o79, s91_94_o81, s91_94_o83, s91_97, s91_100, s91_101, s91_102_o0, s91_105, s91_106, s91_108_o77, s91_108_o79, s91_108_o81, s91_108_o83, s91_111, s91_112, s91_114_o77, s91_114_o79, s91_114_o81, s91_114_o83, s91_117, s91_119, s91_121, s91_124, s91_126, k_isSheet, hst, hot, b2_t, vs, vo, cs, co, cr76_2, cr76_0, ms, mo_, b2_F w1, b2_F w2, a1, b1, w3, k1, k2, hb, cl_nI (show a < 2147483648 by omega), cl_nI (show b < 2147483648 by omega), cl_nI (show nn < 2147483648 by omega), cp2_rep, simprocAttr, if_true, if_false, true_and, and_true, false_and, and_false, not_false_eq_true, not_true_eq_false, gd_T, kont_i, kont_v]
        obtain ⟨F, e2⟩ := m_move_ok d 2 a nn 0 b qs qo (by omega) (by omega) p1 r1 hq1 hq2 (rep σ 78 (va_cpy (σ 82) (σ 78) a b nn)) (σ 100 2) w1 (by rw [rep_ne (by omega)]) (by first | (rw [rep_ne (by omega)]; exact w3.symm) | rw [rep_ne (by omega)]) (by rw [rep_ne (by omega)]; exact p3) (by rw [rep_ne (by omega)]; exact r3)
        rw [rep_ne (show 102 ≠ 78 by omega)] at e2
        refine ⟨_, _, _, e1, e2, h.shx (SHr_num (o := 0) h.2.2.2.2.2.2.1 (by omega) (fun z hz => ?_) (fun k hk => ?_) (fun k hk => ?_)) (h.wb.two e1 e2) (fun z hz => ?_)⟩
        · rw [rep_ne (by omega), rep_ne (by omega), rep_ne (by omega)]
        · rw [rep_ne (by omega), rep_ne (by omega), rep_self, rep_self]
          unfold cbF
          by_cases c : b ≤ k ∧ k < b + nn
          · rw [pk_cpy_in c.1 c.2, if_pos (by omega)]
            have := p4 (a + (k - b)) (by omega)
            rw [show σ 82 (a + (k - b)) = σ 102 (24 * 2 + (a + (k - b))) from this]
            congr 1
            omega
          · rw [pk_cpy_out (by omega), if_neg (by omega)]
            exact r4 k hk
        · rw [rep_self]
          unfold cbF
          rw [if_neg (by omega)]
        · rw [rep_ne (by omega), rep_ne (by omega), rep_ne (by omega)]
      · rw [b2_F c2] at k2
        refine Step_err h 1 (v := -1000001) ?_ ?_
        · simp only [c91, s91_0, s91_1, s91_4, s91_7, s91_8, s91_11, s91_14, s91_15, s91_16_o0, s91_19, s91_20, s91_21_o0, s91_24, s91_25_o76, s91_26, s91_28, s91_29_o0, s91_32, s91_33_o76, s91_34, s91_36, s91_38_o77, s91_38_o79, s91_38_o81, s91_38_o83, s91_41, s91_44, s91_46_o77, s91_46_o79, s91_46_o81, s91_46_o83, s91_49, s91_52, s91_53, s91_54_o0, s91_57, s91_58, s91_60_o77, s91_60_o79, s91_60_o81, s91_60_o83, s91_63, s91_65_o77, s91_65_o79, s91_65_o81, s91_65_o83, s91_68, s91_71, s91_72, s91_73_o0, s91_76, s91_77, s91_79, s91_80, s91_82_o77, s91_82_o79, s91_82_o81, s91_82_o83, s91_85, s91_88, s91_90, s91_92, s91_94_o77, s91_94_o79, s91_94_o81, s91_94_o83, s91_97, s91_100, s91_101, s91_102_o0, s91_105, s91_106, s91_108_o77, s91_108_o79, s91_108_o81, s91_108_o83, s91_111, s91_112, s91_114_o77, s91_114_o79, s91_114_o81, s91_114_o83, s91_117, s91_119, s91_121, s91_124, s91_126, k_isSheet, hst, hot, b2_t, vs, vo, cs, co, cr76_2, cr76_0, ms, mo_, b2_F w1, b2_F w2, a1, b1, w3, k1, k2, k_failed_1, simprocAttr, if_true, if_false, true_and, and_true, false_and, and_false, not_false_eq_true, not_true_eq_false, gd_T, kont_i, kont_v]
        · exact m_move_no d 2 0 qs qo (by omega) (by omega) p1 r1 x y n (fun q => c2 q.2) (erC σ 1) (σ 100 2) w1 (by rw [g100]) (by first | (rw [g100]; exact w3.symm) | rw [g100]) (by rw [g101]; exact p3) (by rw [g101]; exact r3)
    · rw [b2_F c1] at k1
      refine Step_err h 1 (v := -1000001) ?_ ?_
      · simp only [c91, s91_0, s91_1, s91_4, s91_7, s91_8, s91_11, s91_14, s91_15, s91_16_o0, s91_19, s91_20, s91_21_o0, s91_24, s91_25_o76, s91_26, s91_28, s91_29_o0, s91_32, s91_33_o76, s91_34, s91_36, s91_38_o77, s91_38_o79, s91_38_o81, s91_38_o83, s91_41, s91_44, s91_46_o77, s91_46_o79, s91_46_o81, s91_46_o83, s91_49, s91_52, s91_53, s91_54_o0, s91_57, s91_58, s91_60_o77, s91_60_o79, s91_60_o81, s91_60_o83, s91_63, s91_65_o77, s91_65_o79, s91_65_o81, s91_65_o83, s91_68, s91_71, s91_72, s91_73_o0, s91_76, s91_77, s91_79, s91_80, s91_82_o77, s91_82_o79, s91_82_o81, s91_82_o83, s91_85, s91_88, s91_90, s91_92, s91_94_o77, s91_94_o79, s91_94_o81, s91_94_o83, s91_97, s91_100, s91_101, s91_102_o0, s91_105, s91_106, s91_108_o77, s91_108_o79, s91_108_o81, s91_108_o83, s91_111, s91_112, s91_114_o77, s91_114_o79, s91_114_o81, s91_114_o83, s91_117, s91_119, s91_121, s91_124, s91_126, k_isSheet, hst, hot, b2_t, vs, vo, cs, co, cr76_2, cr76_0, ms, mo_, b2_F w1, b2_F w2, a1, b1, w3, k1, k_failed_1, simprocAttr, if_true, if_false, true_and, and_true, false_and, and_false, not_false_eq_true, not_true_eq_false, gd_T, kont_i, kont_v]
      · exact m_move_no d 2 0 qs qo (by omega) (by omega) p1 r1 x y n (fun q => c1 q.1) (erC σ 1) (σ 100 2) w1 (by rw [g100]) (by first | (rw [g100]; exact w3.symm) | rw [g100]) (by rw [g101]; exact p3) (by rw [g101]; exact r3)
  · first
      | exact absurd rfl w3
      | (have w1' := eq_false w1
         have w2' := eq_false w2
         have w3' := eq_false w3
         refine Step_err h 5 (v := -1000005) ?_ ?_
         · simp only [c91, s91_0, s91_1, s91_4, s91_7, s91_8, s91_11, s91_14, s91_15, s91_16_o0, s91_19, s91_20, s91_21_o0, s91_24, s91_25_o76, s91_26, s91_28, s91_29_o0, s91_32, s91_33_o76, s91_34, s91_36, s91_38_o77, s91_38_o79, s91_38_o81, s91_38_o83, s91_41, s91_44, s91_46_o77, s91_46_o79, s91_46_o81, s91_46_o83, s91_49, s91_52, s91_53, s91_54_o0, s91_57, s91_58, s91_60_o77, s91_60_o79, s91_60_o81, s91_60_o83, s91_63, s91_65_o77, s91_65_o79, s91_65_o81, s91_65_o83, s91_68, s91_71, s91_72, s91_73_o0, s91_76, s91_77, s91_79, s91_80, s91_82_o77, s91_82_o79, s91_82_o81, s91_82_o83, s91_85, s91_88, s91_90, s91_92, s91_94_o77, s91_94_o79, s91_94_o81, s91_94_o83, s91_97, s91_100, s91_101, s91_102_o0, s91_105, s91_106, s91_108_o77, s91_108_o79, s91_108_o81, s91_108_o83, s91_111, s91_112, s91_114_o77, s91_114_o79, s91_114_o81, s91_114_o83, s91_117, s91_119, s91_121, s91_124, s91_126, k_isSheet, hst, hot, b2_t, vs, vo, cs, co, cr76_2, cr76_0, ms, mo_, b2_F w1, b2_F w2, a1, b1, w3', k_failed_5, simprocAttr, if_true, if_false, true_and, and_true, false_and, and_false, not_false_eq_true, not_true_eq_false, gd_T, kont_i, kont_v]
         · simp only [c206, s206_0, s206_1, s206_4, s206_7, s206_8, s206_11, s206_14, s206_15, s206_17_o87, s206_20, s206_21, s206_22_o87, s206_25, s206_26_o100, s206_27, s206_30, s206_31_o87, s206_34, s206_35_o100, s206_36, s206_39, s206_40, s206_42_o87, s206_45, s206_46, s206_47_o87, s206_50, s206_51_o100, s206_52, s206_53_o87, s206_56, s206_57_o100, s206_58, s206_61, s206_62, s206_64_o87, s206_67, s206_68, s206_70, s206_73, s206_74, s206_77, s206_79, s206_82, s206_83, s206_84, s206_86, s206_87, s206_88, s206_89_o87, s206_92, s206_93_o101, s206_94, s206_95, s206_96, s206_99, s206_101, s206_102, s206_104, s206_105, s206_106, s206_107_o87, s206_110, s206_111_o101, s206_112, s206_113, s206_114, s206_117, s206_118, s206_120_o87, s206_123, s206_124, s206_125, m_isSheet, hst, hot, b2_t, vs, vo, cs, co, g100, w1', w2', w3', m_fin_5, simprocAttr, if_true, if_false, true_and, and_true, false_and, and_false, not_false_eq_true, not_true_eq_false, gd_T, kont_i, kont_v])
theorem L_move_2_1 {i : Nat} {σ : Hs} (h : RR i σ) (d : Nat) (x y n : Int32) : Step d i 91 206 [.int (nI 2), .int x, .int (nI 1), .int y, .int n] σ := by
  have hst : (0 ≤ nI 2 ∧ nI 2 ≤ 3) = True := eq_true (by decide +kernel)
  have hot : (0 ≤ nI 1 ∧ nI 1 ≤ 3) = True := eq_true (by decide +kernel)
  obtain ⟨⟨a1, a2⟩, qs, p1, p2, p3, p4⟩ := h.2.2.2.2.2.2.1 2 (by omega)
  obtain ⟨⟨b1, b2_⟩, qo, r1, r2, r3, r4⟩ := h.2.2.2.2.2.2.1 1 (by omega)
  have a1 : σ 81 1 = σ 100 2 := a1
  have b1 : σ 79 1 = σ 100 1 := b1
  have p2 : σ 81 2 = nI qs := p2
  have r2 : σ 79 2 = nI qo := r2
  have vs : vp_in (nI 2) 4 = True := vp_nI (by omega) (by omega)
  have vo : vp_in (nI 1) 4 = True := vp_nI (by omega) (by omega)
  have cs : (nI 2).toNatClampNeg = 2 := cl_nI (by omega)
  have co : (nI 1).toNatClampNeg = 1 := cl_nI (by omega)
  have ms := k_isMissing_2 (d + 98) σ _ a1
  have mo_ := k_isMissing_1 (d + 98) σ _ b1
  have g100 : ∀ k, erC σ k 100 = σ 100 := fun k => rep_ne (by omega)
  have g101 : ∀ k, erC σ k 101 = σ 101 := fun k => rep_ne (by omega)
  by_cases w1 : σ 100 2 = 0
  · refine Step_err h 2 (v := -1000002) ?_ ?_
    · simp only [c91, s91_0, s91_1, s91_4, s91_7, s91_8, s91_11, s91_14, s91_15, s91_16_o0, s91_19, s91_20, s91_21_o0, s91_24, s91_25_o76, s91_26, s91_28, s91_29_o0, s91_32, s91_33_o76, s91_34, s91_36, s91_38_o77, s91_38_o79, s91_38_o81, s91_38_o83, s91_41, s91_44, s91_46_o77, s91_46_o79, s91_46_o81, s91_46_o83, s91_49, s91_52, s91_53, s91_54_o0, s91_57, s91_58, s91_60_o77, s91_60_o79, s91_60_o81, s91_60_o83, s91_63, s91_65_o77, s91_65_o79, s91_65_o81, s91_65_o83, s91_68, s91_71, s91_72, s91_73_o0, s91_76, s91_77, s91_79, s91_80, s91_82_o77, s91_82_o79, s91_82_o81, s91_82_o83, s91_85, s91_88, s91_90, s91_92, s91_94_o77, s91_94_o79, s91_94_o81, s91_94_o83, s91_97, s91_100, s91_101, s91_102_o0, s91_105, s91_106, s91_108_o77, s91_108_o79, s91_108_o81, s91_108_o83, s91_111, s91_112, s91_114_o77, s91_114_o79, s91_114_o81, s91_114_o83, s91_117, s91_119, s91_121, s91_124, s91_126, k_isSheet, hst, hot, b2_t, vs, vo, cs, co, cr76_2, cr76_1, ms, b2_T w1, k_failed_2, simprocAttr, if_true, if_false, true_and, and_true, false_and, and_false, not_false_eq_true, not_true_eq_false, gd_T, kont_i, kont_v]
    · simp only [c206, s206_0, s206_1, s206_4, s206_7, s206_8, s206_11, s206_14, s206_15, s206_17_o87, s206_20, s206_21, s206_22_o87, s206_25, s206_26_o100, s206_27, s206_30, s206_31_o87, s206_34, s206_35_o100, s206_36, s206_39, s206_40, s206_42_o87, s206_45, s206_46, s206_47_o87, s206_50, s206_51_o100, s206_52, s206_53_o87, s206_56, s206_57_o100, s206_58, s206_61, s206_62, s206_64_o87, s206_67, s206_68, s206_70, s206_73, s206_74, s206_77, s206_79, s206_82, s206_83, s206_84, s206_86, s206_87, s206_88, s206_89_o87, s206_92, s206_93_o101, s206_94, s206_95, s206_96, s206_99, s206_101, s206_102, s206_104, s206_105, s206_106, s206_107_o87, s206_110, s206_111_o101, s206_112, s206_113, s206_114, s206_117, s206_118, s206_120_o87, s206_123, s206_124, s206_125, m_isSheet, hst, hot, b2_t, vs, vo, cs, co, g100, w1, m_fin_2, simprocAttr, if_true, if_false, true_and, and_true, false_and, and_false, not_false_eq_true, not_true_eq_false, gd_T, kont_i, kont_v]
  by_cases w2 : σ 100 1 = 0
  · first
      | exact absurd w2 w1
      | (refine Step_err h 2 (v := -1000002) ?_ ?_
         · simp only [c91, s91_0, s91_1, s91_4, s91_7, s91_8, s91_11, s91_14, s91_15, s91_16_o0, s91_19, s91_20, s91_21_o0, s91_24, s91_25_o76, s91_26, s91_28, s91_29_o0, s91_32, s91_33_o76, s91_34, s91_36, s91_38_o77, s91_38_o79, s91_38_o81, s91_38_o83, s91_41, s91_44, s91_46_o77, s91_46_o79, s91_46_o81, s91_46_o83, s91_49, s91_52, s91_53, s91_54_o0, s91_57, s91_58, s91_60_o77, s91_60_o79, s91_60_o81, s91_60_o83, s91_63, s91_65_o77, s91_65_o79, s91_65_o81, s91_65_o83, s91_68, s91_71, s91_72, s91_73_o0, s91_76, s91_77, s91_79, s91_80, s91_82_o77, s91_82_o79, s91_82_o81, s91_82_o83, s91_85, s91_88, s91_90, s91_92, s91_94_o77, s91_94_o79, s91_94_o81, s91_94_o83, s91_97, s91_100, s91_101, s91_102_o0, s91_105, s91_106, s91_108_o77, s91_108_o79, s91_108_o81, s91_108_o83, s91_111, s91_112, s91_114_o77, s91_114_o79, s91_114_o81, s91_114_o83, s91_117, s91_119, s91_121, s91_124, s91_126, k_isSheet, hst, hot, b2_t, vs, vo, cs, co, cr76_2, cr76_1, ms, mo_, b2_F w1, b2_T w2, k_failed_2, simprocAttr, if_true, if_false, true_and, and_true, false_and, and_false, not_false_eq_true, not_true_eq_false, gd_T, kont_i, kont_v]
         · have w1' := eq_false w1
           simp only [c206, s206_0, s206_1, s206_4, s206_7, s206_8, s206_11, s206_14, s206_15, s206_17_o87, s206_20, s206_21, s206_22_o87, s206_25, s206_26_o100, s206_27, s206_30, s206_31_o87, s206_34, s206_35_o100, s206_36, s206_39, s206_40, s206_42_o87, s206_45, s206_46, s206_47_o87, s206_50, s206_51_o100, s206_52, s206_53_o87, s206_56, s206_57_o100, s206_58, s206_61, s206_62, s206_64_o87, s206_67, s206_68, s206_70, s206_73, s206_74, s206_77, s206_79, s206_82, s206_83, s206_84, s206_86, s206_87, s206_88, s206_89_o87, s206_92, s206_93_o101, s206_94, s206_95, s206_96, s206_99, s206_101, s206_102, s206_104, s206_105, s206_106, s206_107_o87, s206_110, s206_111_o101, s206_112, s206_113, s206_114, s206_117, s206_118, s206_120_o87, s206_123, s206_124, s206_125, m_isSheet, hst, hot, b2_t, vs, vo, cs, co, g100, w1', w2, m_fin_2, simprocAttr, if_true, if_false, true_and, and_true, false_and, and_false, not_false_eq_true, not_true_eq_false, gd_T, kont_i, kont_v])
  by_cases w3 : σ 100 2 = σ 100 1
  · have k1 := k_stand_2 (d + 98) x n σ _ p2
    have k2 := k_stand_1 (d + 98) y n σ _ r2
    by_cases c1 : stQ qs x n
    · rw [b2_T c1] at k1
      by_cases c2 : stQ qo y n
      · rw [b2_T c2] at k2
        obtain ⟨a, nn, rfl, rfl, hq1⟩ := (stQ_n p1).mp c1
        obtain ⟨b, nn2, rfl, en, hq2⟩ := (stQ_n r1).mp c2
        have : nn = nn2 := by
          obtain ⟨-, h2, h3, -⟩ := c2
          have hb2 : nn2 ≤ qo := by omega
          rw [nI_eq (by omega) (by omega)] at en
          exact en
        subst this
        have hb := bnd_m (σ := σ) (x := 80) (y := 82) (a := a) (b := b) (n := nn) (by decide +kernel) (by omega) (by omega)
        have e1 : callD (d + 100) 91 [.ref 0, .int (nI 2), .int (nI a), .int (nI 1), .int (nI b), .int (nI nn)] σ = some (some (.int (nI nn)), rep σ 80 (va_cpy (σ 82) (σ 80) a b nn)) := by
          simp only [c91, s91_0, s91_1, s91_4, s91_7, s91_8, s91_11, s91_14, s91_15, s91_16_o0, s91_19, s91_20, s91_21_o0, s91_24, s91_25_o76, s91_26, s91_28, s91_29_o0, s91_32, s91_33_o76, s91_34, s91_36, s91_38_o77, s91_38_o79, s91_38_o81, s91_38_o83, s91_41, s91_44, s91_46_o77, s91_46_o79, s91_46_o81, s91_46_o83, s91_49, s91_52, s91_53, s91_54_o0, s91_57, s91_58, s91_60_o77, s91_60_o79, s91_60_o81, s91_60_o83, s91_63, s91_65_o77, s91_65_o79, s91_65_o81, s91_65_o83, s91_68, s91_71, s91_72, s91_73_o0, s91_76, s91_77, s91_79, s91_80, s91_82_o77, s91_82_o79, s91_82_o81, s91_82_o83, s91_85, s91_88, s91_90, s91_92, s91_94_o77, s91_94_o79, s91_94_o81, s91_94_o83, s91_97, s91_100, s91_101, s91_102_o0, s91_105, s91_106, s91_108_o77, s91_108_o79, s91_108_o81, s91_108_o83, s91_111, s91_112, s91_114_o77, s91_114_o79, s91_114_o81, s91_114_o83, s91_117, s91_119, s91_121, s91_124, s91_126, k_isSheet, hst, hot, b2_t, vs, vo, cs, co, cr76_2, cr76_1, ms, mo_, b2_F w1, b2_F w2, a1, b1, w3, k1, k2, hb, cl_nI (show a < 2147483648 by omega), cl_nI (show b < 2147483648 by omega), cl_nI (show nn < 2147483648 by omega), cp2_rep, simprocAttr, if_true, if_false, true_and, and_true, false_and, and_false, not_false_eq_true, not_true_eq_false, gd_T, kont_i, kont_v]
        obtain ⟨F, e2⟩ := m_move_ok d 2 a nn 1 b qs qo (by omega) (by omega) p1 r1 hq1 hq2 (rep σ 80 (va_cpy (σ 82) (σ 80) a b nn)) (σ 100 2) w1 (by rw [rep_ne (by omega)]) (by first | (rw [rep_ne (by omega)]; exact w3.symm) | rw [rep_ne (by omega)]) (by rw [rep_ne (by omega)]; exact p3) (by rw [rep_ne (by omega)]; exact r3)
        rw [rep_ne (show 102 ≠ 80 by omega)] at e2
        refine ⟨_, _, _, e1, e2, h.shx (SHr_num (o := 1) h.2.2.2.2.2.2.1 (by omega) (fun z hz => ?_) (fun k hk => ?_) (fun k hk => ?_)) (h.wb.two e1 e2) (fun z hz => ?_)⟩
        · rw [rep_ne (by omega), rep_ne (by omega), rep_ne (by omega)]
        · rw [rep_ne (by omega), rep_ne (by omega), rep_self, rep_self]
          unfold cbF
          by_cases c : b ≤ k ∧ k < b + nn
          · rw [pk_cpy_in c.1 c.2, if_pos (by omega)]
            have := p4 (a + (k - b)) (by omega)
            rw [show σ 82 (a + (k - b)) = σ 102 (24 * 2 + (a + (k - b))) from this]
            congr 1
            omega
          · rw [pk_cpy_out (by omega), if_neg (by omega)]
            exact r4 k hk
        · rw [rep_self]
          unfold cbF
          rw [if_neg (by omega)]
        · rw [rep_ne (by omega), rep_ne (by omega), rep_ne (by omega)]
      · rw [b2_F c2] at k2
        refine Step_err h 1 (v := -1000001) ?_ ?_
        · simp only [c91, s91_0, s91_1, s91_4, s91_7, s91_8, s91_11, s91_14, s91_15, s91_16_o0, s91_19, s91_20, s91_21_o0, s91_24, s91_25_o76, s91_26, s91_28, s91_29_o0, s91_32, s91_33_o76, s91_34, s91_36, s91_38_o77, s91_38_o79, s91_38_o81, s91_38_o83, s91_41, s91_44, s91_46_o77, s91_46_o79, s91_46_o81, s91_46_o83, s91_49, s91_52, s91_53, s91_54_o0, s91_57, s91_58, s91_60_o77, s91_60_o79, s91_60_o81, s91_60_o83, s91_63, s91_65_o77, s91_65_o79, s91_65_o81, s91_65_o83, s91_68, s91_71, s91_72, s91_73_o0, s91_76, s91_77, s91_79, s91_80, s91_82_o77, s91_82_o79, s91_82_o81, s91_82_o83, s91_85, s91_88, s91_90, s91_92, s91_94_o77, s91_94_o79, s91_94_o81, s91_94_o83, s91_97, s91_100, s91_101, s91_102_o0, s91_105, s91_106, s91_108_o77, s91_108_o79, s91_108_o81, s91_108_o83, s91_111, s91_112, s91_114_o77, s91_114_o79, s91_114_o81, s91_114_o83, s91_117, s91_119, s91_121, s91_124, s91_126, k_isSheet, hst, hot, b2_t, vs, vo, cs, co, cr76_2, cr76_1, ms, mo_, b2_F w1, b2_F w2, a1, b1, w3, k1, k2, k_failed_1, simprocAttr, if_true, if_false, true_and, and_true, false_and, and_false, not_false_eq_true, not_true_eq_false, gd_T, kont_i, kont_v]
        · exact m_move_no d 2 1 qs qo (by omega) (by omega) p1 r1 x y n (fun q => c2 q.2) (erC σ 1) (σ 100 2) w1 (by rw [g100]) (by first | (rw [g100]; exact w3.symm) | rw [g100]) (by rw [g101]; exact p3) (by rw [g101]; exact r3)
    · rw [b2_F c1] at k1
      refine Step_err h 1 (v := -1000001) ?_ ?_
      · simp only [c91, s91_0, s91_1, s91_4, s91_7, s91_8, s91_11, s91_14, s91_15, s91_16_o0, s91_19, s91_20, s91_21_o0, s91_24, s91_25_o76, s91_26, s91_28, s91_29_o0, s91_32, s91_33_o76, s91_34, s91_36, s91_38_o77, s91_38_o79, s91_38_o81, s91_38_o83, s91_41, s91_44, s91_46_o77, s91_46_o79, s91_46_o81, s91_46_o83, s91_49, s91_52, s91_53, s91_54_o0, s91_57, s91_58, s91_60_o77, s91_60_o79, s91_60_o81, s91_60_o83, s91_63, s91_65_o77, s91_65_o79, s91_65_o81, s91_65_o83, s91_68, s91_71, s91_72, s91_73_o0, s91_76, s91_77, s91_79, s91_80, s91_82_o77, s91_82_o79, s91_82_o81, s91_82_o83, s91_85, s91_88, s91_90, s91_92, s91_94_o77, s91_94_o79, s91_94_o81, s91_94_o83, s91_97, s91_100, s91_101, s91_102_o0, s91_105, s91_106, s91_108_o77, s91_108_o79, s91_108_o81, s91_108_o83, s91_111, s91_112, s91_114_o77, s91_114_o79, s91_114_o81, s91_114_o83, s91_117, s91_119, s91_121, s91_124, s91_126, k_isSheet, hst, hot, b2_t, vs, vo, cs, co, cr76_2, cr76_1, ms, mo_, b2_F w1, b2_F w2, a1, b1, w3, k1, k_failed_1, simprocAttr, if_true, if_false, true_and, and_true, false_and, and_false, not_false_eq_true, not_true_eq_false, gd_T, kont_i, kont_v]
      · exact m_move_no d 2 1 qs qo (by omega) (by omega) p1 r1 x y n (fun q => c1 q.1) (erC σ 1) (σ 100 2) w1 (by rw [g100]) (by first | (rw [g100]; exact w3.symm) | rw [g100]) (by rw [g101]; exact p3) (by rw [g101]; exact r3)
  · first
      | exact absurd rfl w3
      | (have w1' := eq_false w1
         have w2' := eq_false w2
         have w3' := eq_false w3
         refine Step_err h 5 (v := -1000005) ?_ ?_
         · simp only [c91, s91_0, s91_1, s91_4, s91_7, s91_8, s91_11, s91_14, s91_15, s91_16_o0, s91_19, s91_20, s91_21_o0, s91_24, s91_25_o76, s91_26, s91_28, s91_29_o0, s91_32, s91_33_o76, s91_34, s91_36, s91_38_o77, s91_38_o79, s91_38_o81, s91_38_o83, s91_41, s91_44, s91_46_o77, s91_46_o79, s91_46_o81, s91_46_o83, s91_49, s91_52, s91_53, s91_54_o0, s91_57, s91_58, s91_60_o77, s91_60_o79, s91_60_o81, s91_60_o83, s91_63, s91_65_o77, s91_65_o79, s91_65_o81, s91_65_o83, s91_68, s91_71, s91_72, s91_73_o0, s91_76, s91_77, s91_79, s91_80, s91_82_o77, s91_82_o79, s91_82_o81, s91_82_o83, s91_85, s91_88, s91_90, s91_92, s91_94_o77, s91_94_o79, s91_94_o81, s91_94_o83, s91_97, s91_100, s91_101, s91_102_o0, s91_105, s91_106, s91_108_o77, s91_108_o79, s91_108_o81, s91_108_o83, s91_111, s91_112, s91_114_o77, s91_114_o79, s91_114_o81, s91_114_o83, s91_117, s91_119, s91_121, s91_124, s91_126, k_isSheet, hst, hot, b2_t, vs, vo, cs, co, cr76_2, cr76_1, ms, mo_, b2_F w1, b2_F w2, a1, b1, w3', k_failed_5, simprocAttr, if_true, if_false, true_and, and_true, false_and, and_false, not_false_eq_true, not_true_eq_false, gd_T, kont_i, kont_v]
         · simp only [c206, s206_0, s206_1, s206_4, s206_7, s206_8, s206_11, s206_14, s206_15, s206_17_o87, s206_20, s206_21, s206_22_o87, s206_25, s206_26_o100, s206_27, s206_30, s206_31_o87, s206_34, s206_35_o100, s206_36, s206_39, s206_40, s206_42_o87, s206_45, s206_46, s206_47_o87, s206_50, s206_51_o100, s206_52, s206_53_o87, s206_56, s206_57_o100, s206_58, s206_61, s206_62, s206_64_o87, s206_67, s206_68, s206_70, s206_73, s206_74, s206_77, s206_79, s206_82, s206_83, s206_84, s206_86, s206_87, s206_88, s206_89_o87, s206_92, s206_93_o101, s206_94, s206_95, s206_96, s206_99, s206_101, s206_102, s206_104, s206_105, s206_106, s206_107_o87, s206_110, s206_111_o101, s206_112, s206_113, s206_114, s206_117, s206_118, s206_120_o87, s206_123, s206_124, s206_125, m_isSheet, hst, hot, b2_t, vs, vo, cs, co, g100, w1', w2', w3', m_fin_5, simprocAttr, if_true, if_false, true_and, and_true, false_and, and_false, not_false_eq_true, not_true_eq_false, gd_T, kont_i, kont_v])
theorem L_move_2_2 {i : Nat} {σ : Hs} (h : RR i σ) (d : Nat) (x y n : Int32) : Step d i 91 206 [.int (nI 2), .int x, .int (nI 2), .int y, .int n] σ := by
  have hst : (0 ≤ nI 2 ∧ nI 2 ≤ 3) = True := eq_true (by decide +kernel)
  have hot : (0 ≤ nI 2 ∧ nI 2 ≤ 3) = True := eq_true (by decide +kernel)
  obtain ⟨⟨a1, a2⟩, qs, p1, p2, p3, p4⟩ := h.2.2.2.2.2.2.1 2 (by omega)
  obtain ⟨⟨b1, b2_⟩, qo, r1, r2, r3, r4⟩ := h.2.2.2.2.2.2.1 2 (by omega)
  have a1 : σ 81 1 = σ 100 2 := a1
  have b1 : σ 81 1 = σ 100 2 := b1
  have p2 : σ 81 2 = nI qs := p2
  have r2 : σ 81 2 = nI qo := r2
  have vs : vp_in (nI 2) 4 = True := vp_nI (by omega) (by omega)
  have vo : vp_in (nI 2) 4 = True := vp_nI (by omega) (by omega)
  have cs : (nI 2).toNatClampNeg = 2 := cl_nI (by omega)
  have co : (nI 2).toNatClampNeg = 2 := cl_nI (by omega)
  have ms := k_isMissing_2 (d + 98) σ _ a1
  have mo_ := k_isMissing_2 (d + 98) σ _ b1
  have g100 : ∀ k, erC σ k 100 = σ 100 := fun k => rep_ne (by omega)
  have g101 : ∀ k, erC σ k 101 = σ 101 := fun k => rep_ne (by omega)
  by_cases w1 : σ 100 2 = 0
  · refine Step_err h 2 (v := -1000002) ?_ ?_
    · simp only [c91, s91_0, s91_1, s91_4, s91_7, s91_8, s91_11, s91_14, s91_15, s91_16_o0, s91_19, s91_20, s91_21_o0, s91_24, s91_25_o76, s91_26, s91_28, s91_29_o0, s91_32, s91_33_o76, s91_34, s91_36, s91_38_o77, s91_38_o79, s91_38_o81, s91_38_o83, s91_41, s91_44, s91_46_o77, s91_46_o79, s91_46_o81, s91_46_o83, s91_49, s91_52, s91_53, s91_54_o0, s91_57, s91_58, s91_60_o77, s91_60_o79, s91_60_o81, s91_60_o83, s91_63, s91_65_o77, s91_65_o79, s91_65_o81, s91_65_o83, s91_68, s91_71, s91_72, s91_73_o0, s91_76, s91_77, s91_79, s91_80, s91_82_o77, s91_82_o79, s91_82_o81, s91_82_o83, s91_85, s91_88, s91_90, s91_92, s91_94_o77, s91_94_o79, s91_94_o81, s91_94_o83, s91_97, s91_100, s91_101, s91_102_o0, s91_105, s91_106, s91_108_o77, s91_108_o79, s91_108_o81, s91_108_o83, s91_111, s91_112, s91_114_o77, s91_114_o79, s91_114_o81, s91_114_o83, s91_117, s91_119, s91_121, s91_124, s91_126, k_isSheet, hst, hot, b2_t, vs, vo, cs, co, cr76_2, cr76_2, ms, b2_T w1, k_failed_2, simprocAttr, if_true, if_false, true_and, and_true, false_and, and_false, not_false_eq_true, not_true_eq_false, gd_T, kont_i, kont_v]
    · simp only [c206, s206_0, s206_1, s206_4, s206_7, s206_8, s206_11, s206_14, s206_15, s206_17_o87, s206_20, s206_21, s206_22_o87, s206_25, s206_26_o100, s206_27, s206_30, s206_31_o87, s206_34, s206_35_o100, s206_36, s206_39, s206_40, s206_42_o87, s206_45, s206_46, s206_47_o87, s206_50, s206_51_o100, s206_52, s206_53_o87, s206_56, s206_57_o100, s206_58, s206_61, s206_62, s206_64_o87, s206_67, s206_68, s206_70, s206_73, s206_74, s206_77, s206_79, s206_82, s206_83, s206_84, s206_86, s206_87, s206_88, s206_89_o87, s206_92, s206_93_o101, s206_94, s206_95, s206_96, s206_99, s206_101, s206_102, s206_104, s206_105, s206_106, s206_107_o87, s206_110, s206_111_o101, s206_112, s206_113, s206_114, s206_117, s206_118, s206_120_o87, s206_123, s206_124, s206_125, m_isSheet, hst, hot, b2_t, vs, vo, cs, co, g100, w1, m_fin_2, simprocAttr, if_true, if_false, true_and, and_true, false_and, and_false, not_false_eq_true, not_true_eq_false, gd_T, kont_i, kont_v]
  by_cases w2 : σ 100 2 = 0
  · first
      | exact absurd w2 w1
      | (refine Step_err h 2 (v := -1000002) ?_ ?_
         · simp only [c91, s91_0, s91_1, s91_4, s91_7, s91_8, s91_11, s91_14, s91_15, s91_16_o0, s91_19, s91_20, s91_21_o0, s91_24, s91_25_o76, s91_26, s91_28, s91_29_o0, s91_32, s91_33_o76, s91_34, s91_36, s91_38_o77, s91_38_o79, s91_38_o81, s91_38_o83, s91_41, s91_44, s91_46_o77, s91_46_o79, s91_46_o81, s91_46_o83, s91_49, s91_52, s91_53, s91_54_o0, s91_57, s91_58, s91_60_o77, s91_60_o79, s91_60_o81, s91_60_o83, s91_63, s91_65_o77, s91_65_o79, s91_65_o81, s91_65_o83, s91_68, s91_71, s91_72, s91_73_o0, s91_76, s91_77, s91_79, s91_80, s91_82_o77, s91_82_o79, s91_82_o81, s91_82_o83, s91_85, s91_88, s91_90, s91_92, s91_94_o77, s91_94_o79, s91_94_o81, s91_94_o83, s91_97, s91_100, s91_101, s91_102_o0, s91_105, s91_106, s91_108_o77, s91_108_o79, s91_108_o81, s91_108_o83, s91_111, s91_112, s91_114_o77, s91_114_o79, s91_114_o81, s91_114_o83, s91_117, s91_119, s91_121, s91_124, s91_126, k_isSheet, hst, hot, b2_t, vs, vo, cs, co, cr76_2, cr76_2, ms, mo_, b2_F w1, b2_T w2, k_failed_2, simprocAttr, if_true, if_false, true_and, and_true, false_and, and_false, not_false_eq_true, not_true_eq_false, gd_T, kont_i, kont_v]
         · have w1' := eq_false w1
           simp only [c206, s206_0, s206_1, s206_4, s206_7, s206_8, s206_11, s206_14, s206_15, s206_17_o87, s206_20, s206_21, s206_22_o87, s206_25, s206_26_o100, s206_27, s206_30, s206_31_o87, s206_34, s206_35_o100, s206_36, s206_39, s206_40, s206_42_o87, s206_45, s206_46, s206_47_o87, s206_50, s206_51_o100, s206_52, s206_53_o87, s206_56, s206_57_o100, s206_58, s206_61, s206_62, s206_64_o87, s206_67, s206_68, s206_70, s206_73, s206_74, s206_77, s206_79, s206_82, s206_83, s206_84, s206_86, s206_87, s206_88, s206_89_o87, s206_92, s206_93_o101, s206_94, s206_95, s206_96, s206_99, s206_101, s206_102, s206_104, s206_105, s206_106, s206_107_o87, s206_110, s206_111_o101, s206_112, s206_113, s206_114, s206_117, s206_118, s206_120_o87, s206_123, s206_124, s206_125, m_isSheet, hst, hot, b2_t, vs, vo, cs, co, g100, w1', w2, m_fin_2, simprocAttr, if_true, if_false, true_and, and_true, false_and, and_false, not_false_eq_true, not_true_eq_false, gd_T, kont_i, kont_v])
  by_cases w3 : σ 100 2 = σ 100 2
  · have k1 := k_stand_2 (d + 98) x n σ _ p2
    have k2 := k_stand_2 (d + 98) y n σ _ r2
    by_cases c1 : stQ qs x n
    · rw [b2_T c1] at k1
      by_cases c2 : stQ qo y n
      · rw [b2_T c2] at k2
        obtain ⟨a, nn, rfl, rfl, hq1⟩ := (stQ_n p1).mp c1
        obtain ⟨b, nn2, rfl, en, hq2⟩ := (stQ_n r1).mp c2
        have : nn = nn2 := by
          obtain ⟨-, h2, h3, -⟩ := c2
          have hb2 : nn2 ≤ qo := by omega
          rw [nI_eq (by omega) (by omega)] at en
          exact en
        subst this
        have hb := bnd_m (σ := σ) (x := 82) (y := 82) (a := a) (b := b) (n := nn) (by decide +kernel) (by omega) (by omega)
        have e1 : callD (d + 100) 91 [.ref 0, .int (nI 2), .int (nI a), .int (nI 2), .int (nI b), .int (nI nn)] σ = some (some (.int (nI nn)), rep σ 82 (va_cpy (σ 82) (σ 82) a b nn)) := by
          simp only [c91, s91_0, s91_1, s91_4, s91_7, s91_8, s91_11, s91_14, s91_15, s91_16_o0, s91_19, s91_20, s91_21_o0, s91_24, s91_25_o76, s91_26, s91_28, s91_29_o0, s91_32, s91_33_o76, s91_34, s91_36, s91_38_o77, s91_38_o79, s91_38_o81, s91_38_o83, s91_41, s91_44, s91_46_o77, s91_46_o79, s91_46_o81, s91_46_o83, s91_49, s91_52, s91_53, s91_54_o0, s91_57, s91_58, s91_60_o77, s91_60_o79, s91_60_o81, s91_60_o83, s91_63, s91_65_o77, s91_65_o79, s91_65_o81, s91_65_o83, s91_68, s91_71, s91_72, s91_73_o0, s91_76, s91_77, s91_79, s91_80, s91_82_o77, s91_82_o79, s91_82_o81, s91_82_o83, s91_85, s91_88, s91_90, s91_92, s91_94_o77, s91_94_o79, s91_94_o81, s91_94_o83, s91_97, s91_100, s91_101, s91_102_o0, s91_105, s91_106, s91_108_o77, s91_108_o79, s91_108_o81, s91_108_o83, s91_111, s91_112, s91_114_o77, s91_114_o79, s91_114_o81, s91_114_o83, s91_117, s91_119, s91_121, s91_124, s91_126, k_isSheet, hst, hot, b2_t, vs, vo, cs, co, cr76_2, cr76_2, ms, mo_, b2_F w1, b2_F w2, a1, b1, w3, k1, k2, hb, cl_nI (show a < 2147483648 by omega), cl_nI (show b < 2147483648 by omega), cl_nI (show nn < 2147483648 by omega), cp2_rep, simprocAttr, if_true, if_false, true_and, and_true, false_and, and_false, not_false_eq_true, not_true_eq_false, gd_T, kont_i, kont_v]
        obtain ⟨F, e2⟩ := m_move_ok d 2 a nn 2 b qs qo (by omega) (by omega) p1 r1 hq1 hq2 (rep σ 82 (va_cpy (σ 82) (σ 82) a b nn)) (σ 100 2) w1 (by rw [rep_ne (by omega)]) (by first | (rw [rep_ne (by omega)]; exact w3.symm) | rw [rep_ne (by omega)]) (by rw [rep_ne (by omega)]; exact p3) (by rw [rep_ne (by omega)]; exact r3)
        rw [rep_ne (show 102 ≠ 82 by omega)] at e2
        refine ⟨_, _, _, e1, e2, h.shx (SHr_num (o := 2) h.2.2.2.2.2.2.1 (by omega) (fun z hz => ?_) (fun k hk => ?_) (fun k hk => ?_)) (h.wb.two e1 e2) (fun z hz => ?_)⟩
        · rw [rep_ne (by omega), rep_ne (by omega), rep_ne (by omega)]
        · rw [rep_ne (by omega), rep_ne (by omega), rep_self, rep_self]
          unfold cbF
          by_cases c : b ≤ k ∧ k < b + nn
          · rw [pk_cpy_in c.1 c.2, if_pos (by omega)]
            have := p4 (a + (k - b)) (by omega)
            rw [show σ 82 (a + (k - b)) = σ 102 (24 * 2 + (a + (k - b))) from this]
            congr 1
            omega
          · rw [pk_cpy_out (by omega), if_neg (by omega)]
            exact r4 k hk
        · rw [rep_self]
          unfold cbF
          rw [if_neg (by omega)]
        · rw [rep_ne (by omega), rep_ne (by omega), rep_ne (by omega)]
      · rw [b2_F c2] at k2
        refine Step_err h 1 (v := -1000001) ?_ ?_
        · simp only [c91, s91_0, s91_1, s91_4, s91_7, s91_8, s91_11, s91_14, s91_15, s91_16_o0, s91_19, s91_20, s91_21_o0, s91_24, s91_25_o76, s91_26, s91_28, s91_29_o0, s91_32, s91_33_o76, s91_34, s91_36, s91_38_o77, s91_38_o79, s91_38_o81, s91_38_o83, s91_41, s91_44, s91_46_o77, s91_46_o79, s91_46_o81, s91_46_o83, s91_49, s91_52, s91_53, s91_54_o0, s91_57, s91_58, s91_60_o77, s91_60_o79, s91_60_o81, s91_60_o83, s91_63, s91_65_o77, s91_65_o79, s91_65_o81, s91_65_o83, s91_68, s91_71, s91_72, s91_73_o0, s91_76, s91_77, s91_79, s91_80, s91_82_o77, s91_82_o79, s91_82_o81, s91_82_o83, s91_85, s91_88, s91_90, s91_92, s91_94_o77, s91_94_o79, s91_94_o81, s91_94_o83, s91_97, s91_100, s91_101, s91_102_o0, s91_105, s91_106, s91_108_o77, s91_108_o79, s91_108_o81, s91_108_o83, s91_111, s91_112, s91_114_o77, s91_114_o79, s91_114_o81, s91_114_o83, s91_117, s91_119, s91_121, s91_124, s91_126, k_isSheet, hst, hot, b2_t, vs, vo, cs, co, cr76_2, cr76_2, ms, mo_, b2_F w1, b2_F w2, a1, b1, w3, k1, k2, k_failed_1, simprocAttr, if_true, if_false, true_and, and_true, false_and, and_false, not_false_eq_true, not_true_eq_false, gd_T, kont_i, kont_v]
        · exact m_move_no d 2 2 qs qo (by omega) (by omega) p1 r1 x y n (fun q => c2 q.2) (erC σ 1) (σ 100 2) w1 (by rw [g100]) (by first | (rw [g100]; exact w3.symm) | rw [g100]) (by rw [g101]; exact p3) (by rw [g101]; exact r3)
    · rw [b2_F c1] at k1
      refine Step_err h 1 (v := -1000001) ?_ ?_
      · simp only [c91, s91_0, s91_1, s91_4, s91_7, s91_8, s91_11, s91_14, s91_15, s91_16_o0, s91_19, s91_20, s91_21_o0, s91_24, s91_25_o76, s91_26, s91_28, s91_29_o0, s91_32, s91_33_o76, s91_34, s91_36, s91_38_o77, s91_38_o79, s91_38_o81, s91_38_o83, s91_41, s91_44, s91_46_o77, s91_46_o79, s91_46_o81, s91_46_o83, s91_49, s91_52, s91_53, s91_54_o0, s91_57, s91_58, s91_60_o77, s91_60_o79, s91_60_o81, s91_60_o83, s91_63, s91_65_o77, s91_65_o79, s91_65_o81, s91_65_o83, s91_68, s91_71, s91_72, s91_73_o0, s91_76, s91_77, s91_79, s91_80, s91_82_o77, s91_82_o79, s91_82_o81, s91_82_o83, s91_85, s91_88, s91_90, s91_92, s91_94_o77, s91_94_o79, s91_94_o81, s91_94_o83, s91_97, s91_100, s91_101, s91_102_o0, s91_105, s91_106, s91_108_o77, s91_108_o79, s91_108_o81, s91_108_o83, s91_111, s91_112, s91_114_o77, s91_114_o79, s91_114_o81, s91_114_o83, s91_117, s91_119, s91_121, s91_124, s91_126, k_isSheet, hst, hot, b2_t, vs, vo, cs, co, cr76_2, cr76_2, ms, mo_, b2_F w1, b2_F w2, a1, b1, w3, k1, k_failed_1, simprocAttr, if_true, if_false, true_and, and_true, false_and, and_false, not_false_eq_true, not_true_eq_false, gd_T, kont_i, kont_v]
      · exact m_move_no d 2 2 qs qo (by omega) (by omega) p1 r1 x y n (fun q => c1 q.1) (erC σ 1) (σ 100 2) w1 (by rw [g100]) (by first | (rw [g100]; exact w3.symm) | rw [g100]) (by rw [g101]; exact p3) (by rw [g101]; exact r3)
  · first
      | exact absurd rfl w3
      | (have w1' := eq_false w1
         have w2' := eq_false w2
         have w3' := eq_false w3
         refine Step_err h 5 (v := -1000005) ?_ ?_
         · simp only [c91, s91_0, s91_1, s91_4, s91_7, s91_8, s91_11, s91_14, s91_15, s91_16_o0, s91_19, s91_20, s91_21_o0, s91_24, s91_25_o76, s91_26, s91_28, s91_29_o0, s91_32, s91_33_o76, s91_34, s91_36, s91_38_o77, s91_38_o79, s91_38_o81, s91_38_o83, s91_41, s91_44, s91_46_o77, s91_46_o79, s91_46_o81, s91_46_o83, s91_49, s91_52, s91_53, s91_54_o0, s91_57, s91_58, s91_60_o77, s91_60_o79, s91_60_o81, s91_60_o83, s91_63, s91_65_o77, s91_65_o79, s91_65_o81, s91_65_o83, s91_68, s91_71, s91_72, s91_73_o0, s91_76, s91_77, s91_79, s91_80, s91_82_o77, s91_82_o79, s91_82_o81, s91_82_o83, s91_85, s91_88, s91_90, s91_92, s91_94_o77, s91_94_o79, s91_94_o81, s91_94_o83, s91_97, s91_100, s91_101, s91_102_o0, s91_105, s91_106, s91_108_o77, s91_108_o79, s91_108_o81, s91_108_o83, s91_111, s91_112, s91_114_o77, s91_114_o79, s91_114_o81, s91_114_o83, s91_117, s91_119, s91_121, s91_124, s91_126, k_isSheet, hst, hot, b2_t, vs, vo, cs, co, cr76_2, cr76_2, ms, mo_, b2_F w1, b2_F w2, a1, b1, w3', k_failed_5, simprocAttr, if_true, if_false, true_and, and_true, false_and, and_false, not_false_eq_true, not_true_eq_false, gd_T, kont_i, kont_v]
         · simp only [c206, s206_0, s206_1, s206_4, s206_7, s206_8, s206_11, s206_14, s206_15, s206_17_o87, s206_20, s206_21, s206_22_o87, s206_25, s206_26_o100, s206_27, s206_30, s206_31_o87, s206_34, s206_35_o100, s206_36, s206_39, s206_40, s206_42_o87, s206_45, s206_46, s206_47_o87, s206_50, s206_51_o100, s206_52, s206_53_o87, s206_56, s206_57_o100, s206_58, s206_61, s206_62, s206_64_o87, s206_67, s206_68, s206_70, s206_73, s206_74, s206_77, s206_79, s206_82, s206_83, s206_84, s206_86, s206_87, s206_88, s206_89_o87, s206_92, s206_93_o101, s206_94, s206_95, s206_96, s206_99, s206_101, s206_102, s206_104, s206_105, s206_106, s206_107_o87, s206_110, s206_111_o101, s206_112, s206_113, s206_114, s206_117, s206_118, s206_120_o87, s206_123, s206_124, s206_125, m_isSheet, hst, hot, b2_t, vs, vo, cs, co, g100, w1', w2', w3', m_fin_5, simprocAttr, if_true, if_false, true_and, and_true, false_and, and_false, not_false_eq_true, not_true_eq_false, gd_T, kont_i, kont_v])
theorem L_move_2_3 {i : Nat} {σ : Hs} (h : RR i σ) (d : Nat) (x y n : Int32) : Step d i 91 206 [.int (nI 2), .int x, .int (nI 3), .int y, .int n] σ := by
  have hst : (0 ≤ nI 2 ∧ nI 2 ≤ 3) = True := eq_true (by decide +kernel)
  have hot : (0 ≤ nI 3 ∧ nI 3 ≤ 3) = True := eq_true (by decide +kernel)
  obtain ⟨⟨a1, a2⟩, qs, p1, p2, p3, p4⟩ := h.2.2.2.2.2.2.1 2 (by omega)
  obtain ⟨⟨b1, b2_⟩, qo, r1, r2, r3, r4⟩ := h.2.2.2.2.2.2.1 3 (by omega)
  have a1 : σ 81 1 = σ 100 2 := a1
  have b1 : σ 83 1 = σ 100 3 := b1
  have p2 : σ 81 2 = nI qs := p2
  have r2 : σ 83 2 = nI qo := r2
  have vs : vp_in (nI 2) 4 = True := vp_nI (by omega) (by omega)
  have vo : vp_in (nI 3) 4 = True := vp_nI (by omega) (by omega)
  have cs : (nI 2).toNatClampNeg = 2 := cl_nI (by omega)
  have co : (nI 3).toNatClampNeg = 3 := cl_nI (by omega)
  have ms := k_isMissing_2 (d + 98) σ _ a1
  have mo_ := k_isMissing_3 (d + 98) σ _ b1
  have g100 : ∀ k, erC σ k 100 = σ 100 := fun k => rep_ne (by omega)
  have g101 : ∀ k, erC σ k 101 = σ 101 := fun k => rep_ne (by omega)
  by_cases w1 : σ 100 2 = 0
  · refine Step_err h 2 (v := -1000002) ?_ ?_
    · simp only [c91, s91_0, s91_1, s91_4, s91_7, s91_8, s91_11, s91_14, s91_15, s91_16_o0, s91_19, s91_20, s91_21_o0, s91_24, s91_25_o76, s91_26, s91_28, s91_29_o0, s91_32, s91_33_o76, s91_34, s91_36, s91_38_o77, s91_38_o79, s91_38_o81, s91_38_o83, s91_41, s91_44, s91_46_o77, s91_46_o79, s91_46_o81, s91_46_o83, s91_49, s91_52, s91_53, s91_54_o0, s91_57, s91_58, s91_60_o77, s91_60_o79, s91_60_o81, s91_60_o83, s91_63, s91_65_o77, s91_65_o79, s91_65_o81, s91_65_o83, s91_68, s91_71, s91_72, s91_73_o0, s91_76, s91_77, s91_79, s91_80, s91_82_o77, s91_82_o79, s91_82_o81, s91_82_o83, s91_85, s91_88, s91_90, s91_92, s91_94_o77, s91_94_o79, s91_94_o81, s91_94_o83, s91_97, s91_100, s91_101, s91_102_o0, s91_105, s91_106, s91_108_o77, s91_108_o79, s91_108_o81, s91_108_o83, s91_111, s91_112, s91_114_o77, s91_114_o79, s91_114_o81, s91_114_o83, s91_117, s91_119, s91_121, s91_124, s91_126, k_isSheet, hst, hot, b2_t, vs, vo, cs, co, cr76_2, cr76_3, ms, b2_T w1, k_failed_2, simprocAttr, if_true, if_false, true_and, and_true, false_and, and_false, not_false_eq_true, not_true_eq_false, gd_T, kont_i, kont_v]
    · simp only [c206, s206_0, s206_1, s206_4, s206_7, s206_8, s206_11, s206_14, s206_15, s206_17_o87, s206_20, s206_21, s206_22_o87, s206_25, s206_26_o100, s206_27, s206_30, s206_31_o87, s206_34, s206_35_o100, s206_36, s206_39, s206_40, s206_42_o87, s206_45, s206_46, s206_47_o87, s206_50, s206_51_o100, s206_52, s206_53_o87, s206_56, s206_57_o100, s206_58, s206_61, s206_62, s206_64_o87, s206_67, s206_68, s206_70, s206_73, s206_74, s206_77, s206_79, s206_82, s206_83, s206_84, s206_86, s206_87, s206_88, s206_89_o87, s206_92, s206_93_o101, s206_94, s206_95, s206_96, s206_99, s206_101, s206_102, s206_104, s206_105, s206_106, s206_107_o87, s206_110, s206_111_o101, s206_112, s206_113, s206_114, s206_117, s206_118, s206_120_o87, s206_123, s206_124, s206_125, m_isSheet, hst, hot, b2_t, vs, vo, cs, co, g100, w1, m_fin_2, simprocAttr, if_true, if_false, true_and, and_true, false_and, and_false, not_false_eq_true, not_true_eq_false, gd_T, kont_i, kont_v]
  by_cases w2 : σ 100 3 = 0
  · first
      | exact absurd w2 w1
      | (refine Step_err h 2 (v := -1000002) ?_ ?_
         · simp only [c91, s91_0, s91_1, s91_4, s91_7, s91_8, s91_11, s91_14, s91_15, s91_16_o0, s91_19, s91_20, s91_21_o0, s91_24, s91_25_o76, s91_26, s91_28, s91_29_o0, s91_32, s91_33_o76, s91_34, s91_36, s91_38_o77, s91_38_o79, s91_38_o81, s91_38_o83, s91_41, s91_44, s91_46_o77, s91_46_o79, s91_46_o81, s91_46_o83, s91_49, s91_52, s91_53, s91_54_o0, s91_57, s91_58, s91_60_o77, s91_60_o79, s91_60_o81, s91_60_o83, s91_63, s91_65_o77, s91_65_o79, s91_65_o81, s91_65_o83, s91_68, s91_71, s91_72, s91_73_o0, s91_76, s91_77, s91_79, s91_80, s91_82_o77, s91_82_o79, s91_82_o81, s91_82_o83, s91_85, s91_88, s91_90, s91_92, s91_94_o77, s91_94_o79, s91_94_o81, s91_94_o83, s91_97, s91_100, s91_101, s91_102_o0, s91_105, s91_106, s91_108_o77, s91_108_o79, s91_108_o81, s91_108_o83, s91_111, s91_112, s91_114_o77, s91_114_o79, s91_114_o81, s91_114_o83, s91_117, s91_119, s91_121, s91_124, s91_126, k_isSheet, hst, hot, b2_t, vs, vo, cs, co, cr76_2, cr76_3, ms, mo_, b2_F w1, b2_T w2, k_failed_2, simprocAttr, if_true, if_false, true_and, and_true, false_and, and_false, not_false_eq_true, not_true_eq_false, gd_T, kont_i, kont_v]
         · have w1' := eq_false w1
           simp only [c206, s206_0, s206_1, s206_4, s206_7, s206_8, s206_11, s206_14, s206_15, s206_17_o87, s206_20, s206_21, s206_22_o87, s206_25, s206_26_o100, s206_27, s206_30, s206_31_o87, s206_34, s206_35_o100, s206_36, s206_39, s206_40, s206_42_o87, s206_45, s206_46, s206_47_o87, s206_50, s206_51_o100, s206_52, s206_53_o87, s206_56, s206_57_o100, s206_58, s206_61, s206_62, s206_64_o87, s206_67, s206_68, s206_70, s206_73, s206_74, s206_77, s206_79, s206_82, s206_83, s206_84, s206_86, s206_87, s206_88, s206_89_o87, s206_92, s206_93_o101, s206_94, s206_95, s206_96, s206_99, s206_101, s206_102, s206_104, s206_105, s206_106, s206_107_o87, s206_110, s206_111_o101, s206_112, s206_113, s206_114, s206_117, s206_118, s206_120_o87, s206_123, s206_124, s206_125, m_isSheet, hst, hot, b2_t, vs, vo, cs, co, g100, w1', w2, m_fin_2, simprocAttr, if_true, if_false, true_and, and_true, false_and, and_false, not_false_eq_true, not_true_eq_false, gd_T, kont_i, kont_v])
  by_cases w3 : σ 100 2 = σ 100 3
  · have k1 := k_stand_2 (d + 98) x n σ _ p2
    have k2 := k_stand_3 (d + 98) y n σ _ r2
    by_cases c1 : stQ qs x n
    · rw [b2_T c1] at k1
      by_cases c2 : stQ qo y n
      · rw [b2_T c2] at k2
        obtain ⟨a, nn, rfl, rfl, hq1⟩ := (stQ_n p1).mp c1
        obtain ⟨b, nn2, rfl, en, hq2⟩ := (stQ_n r1).mp c2
        have : nn = nn2 := by
          obtain ⟨-, h2, h3, -⟩ := c2
          have hb2 : nn2 ≤ qo := by omega
          rw [nI_eq (by omega) (by omega)] at en
          exact en
        subst this
        have hb := bnd_m (σ := σ) (x := 84) (y := 82) (a := a) (b := b) (n := nn) (by decide +kernel) (by omega) (by omega)
        have e1 : callD (d + 100) 91 [.ref 0, .int (nI 2), .int (nI a), .int (nI 3), .int (nI b), .int (nI nn)] σ = some (some (.int (nI nn)), rep σ 84 (va_cpy (σ 82) (σ 84) a b nn)) := by
          simp only [c91, s91_0, s91_1, s91_4, s91_7, s91_8, s91_11, s91_14, s91_15, s91_16_o0, s91_19, s91_20, s91_21_o0, s91_24, s91_25_o76, s91_26, s91_28, s91_29_o0, s91_32, s91_33_o76, s91_34, s91_36, s91_38_o77, s91_38_o79, s91_38_o81, s91_38_o83, s91_41, s91_44, s91_46_o77, s91_46_o79, s91_46_o81, s91_46_o83, s91_49, s91_52, s91_53, s91_54_o0, s91_57, s91_58, s91_60_o77, s91_60_o79, s91_60_o81, s91_60_o83, s91_63, s91_65_o77, s91_65_o79, s91_65_o81, s91_65_o83, s91_68, s91_71, s91_72, s91_73_o0, s91_76, s91_77, s91_79, s91_80, s91_82_o77, s91_82_o79, s91_82_o81, s91_82_o83, s91_85, s91_88, s91_90, s91_92, s91_94_o77, s91_94_o79, s91_94_o81, s91_94_o83, s91_97, s91_100, s91_101, s91_102_o0, s91_105, s91_106, s91_108_o77, s91_108_o79, s91_108_o81, s91_108_o83, s91_111, s91_112, s91_114_o77, s91_114_o79, s91_114_o81, s91_114_o83, s91_117, s91_119, s91_121, s91_124, s91_126, k_isSheet, hst, hot, b2_t, vs, vo, cs, co, cr76_2, cr76_3, ms, mo_, b2_F w1, b2_F w2, a1, b1, w3, k1, k2, hb, cl_nI (show a < 2147483648 by omega), cl_nI (show b < 2147483648 by omega), cl_nI (show nn < 2147483648 by omega), cp2_rep, simprocAttr, if_true, if_false, true_and, and_true, false_and, and_false, not_false_eq_true, not_true_eq_false, gd_T, kont_i, kont_v]
        obtain ⟨F, e2⟩ := m_move_ok d 2 a nn 3 b qs qo (by omega) (by omega) p1 r1 hq1 hq2 (rep σ 84 (va_cpy (σ 82) (σ 84) a b nn)) (σ 100 2) w1 (by rw [rep_ne (by omega)]) (by first | (rw [rep_ne (by omega)]; exact w3.symm) | rw [rep_ne (by omega)]) (by rw [rep_ne (by omega)]; exact p3) (by rw [rep_ne (by omega)]; exact r3)
        rw [rep_ne (show 102 ≠ 84 by omega)] at e2
        refine ⟨_, _, _, e1, e2, h.shx (SHr_num (o := 3) h.2.2.2.2.2.2.1 (by omega) (fun z hz => ?_) (fun k hk => ?_) (fun k hk => ?_)) (h.wb.two e1 e2) (fun z hz => ?_)⟩
        · rw [rep_ne (by omega), rep_ne (by omega), rep_ne (by omega)]
        · rw [rep_ne (by omega), rep_ne (by omega), rep_self, rep_self]
          unfold cbF
          by_cases c : b ≤ k ∧ k < b + nn
          · rw [pk_cpy_in c.1 c.2, if_pos (by omega)]
            have := p4 (a + (k - b)) (by omega)
            rw [show σ 82 (a + (k - b)) = σ 102 (24 * 2 + (a + (k - b))) from this]
            congr 1
            omega
          · rw [pk_cpy_out (by omega), if_neg (by omega)]
            exact r4 k hk
        · rw [rep_self]
          unfold cbF
          rw [if_neg (by omega)]
        · rw [rep_ne (by omega), rep_ne (by omega), rep_ne (by omega)]
      · rw [b2_F c2] at k2
        refine Step_err h 1 (v := -1000001) ?_ ?_
        · simp only [c91, s91_0, s91_1, s91_4, s91_7, s91_8, s91_11, s91_14, s91_15, s91_16_o0, s91_19, s91_20, s91_21_o0, s91_24, s91_25_o76, s91_26, s91_28, s91_29_o0, s91_32, s91_33_o76, s91_34, s91_36, s91_38_o77, s91_38_o79, s91_38_o81, s91_38_o83, s91_41, s91_44, s91_46_o77, s91_46_o79, s91_46_o81, s91_46_o83, s91_49, s91_52, s91_53, s91_54_o0, s91_57, s91_58, s91_60_o77, s91_60_o79, s91_60_o81, s91_60_o83, s91_63, s91_65_o77, s91_65_o79, s91_65_o81, s91_65_o83, s91_68, s91_71, s91_72, s91_73_o0, s91_76, s91_77, s91_79, s91_80, s91_82_o77, s91_82_o79, s91_82_o81, s91_82_o83, s91_85, s91_88, s91_90, s91_92, s91_94_o77, s91_94_o79, s91_94_o81, s91_94_o83, s91_97, s91_100, s91_101, s91_102_o0, s91_105, s91_106, s91_108_o77, s91_108_o79, s91_108_o81, s91_108_o83, s91_111, s91_112, s91_114_o77, s91_114_o79, s91_114_o81, s91_114_o83, s91_117, s91_119, s91_121, s91_124, s91_126, k_isSheet, hst, hot, b2_t, vs, vo, cs, co, cr76_2, cr76_3, ms, mo_, b2_F w1, b2_F w2, a1, b1, w3, k1, k2, k_failed_1, simprocAttr, if_true, if_false, true_and, and_true, false_and, and_false, not_false_eq_true, not_true_eq_false, gd_T, kont_i, kont_v]
        · exact m_move_no d 2 3 qs qo (by omega) (by omega) p1 r1 x y n (fun q => c2 q.2) (erC σ 1) (σ 100 2) w1 (by rw [g100]) (by first | (rw [g100]; exact w3.symm) | rw [g100]) (by rw [g101]; exact p3) (by rw [g101]; exact r3)
    · rw [b2_F c1] at k1
      refine Step_err h 1 (v := -1000001) ?_ ?_
      · simp only [c91, s91_0, s91_1, s91_4, s91_7, s91_8, s91_11, s91_14, s91_15, s91_16_o0, s91_19, s91_20, s91_21_o0, s91_24, s91_25_o76, s91_26, s91_28, s91_29_o0, s91_32, s91_33_o76, s91_34, s91_36, s91_38_o77, s91_38_o79, s91_38_o81, s91_38_o83, s91_41, s91_44, s91_46_o77, s91_46_o79, s91_46_o81, s91_46_o83, s91_49, s91_52, s91_53, s91_54_o0, s91_57, s91_58, s91_60_o77, s91_60_o79, s91_60_o81, s91_60_o83, s91_63, s91_65_o77, s91_65_o79, s91_65_o81, s91_65_o83, s91_68, s91_71, s91_72, s91_73_o0, s91_76, s91_77, s91_79, s91_80, s91_82_o77, s91_82_o79, s91_82_o81, s91_82_o83, s91_85, s91_88, s91_90, s91_92, s91_94_o77, s91_94_o79, s91_94_o81, s91_94_o83, s91_97, s91_100, s91_101, s91_102_o0, s91_105, s91_106, s91_108_o77, s91_108_o79, s91_108_o81, s91_108_o83, s91_111, s91_112, s91_114_o77, s91_114_o79, s91_114_o81, s91_114_o83, s91_117, s91_119, s91_121, s91_124, s91_126, k_isSheet, hst, hot, b2_t, vs, vo, cs, co, cr76_2, cr76_3, ms, mo_, b2_F w1, b2_F w2, a1, b1, w3, k1, k_failed_1, simprocAttr, if_true, if_false, true_and, and_true, false_and, and_false, not_false_eq_true, not_true_eq_false, gd_T, kont_i, kont_v]
      · exact m_move_no d 2 3 qs qo (by omega) (by omega) p1 r1 x y n (fun q => c1 q.1) (erC σ 1) (σ 100 2) w1 (by rw [g100]) (by first | (rw [g100]; exact w3.symm) | rw [g100]) (by rw [g101]; exact p3) (by rw [g101]; exact r3)
  · first
      | exact absurd rfl w3
      | (have w1' := eq_false w1
         have w2' := eq_false w2
         have w3' := eq_false w3
         refine Step_err h 5 (v := -1000005) ?_ ?_
         · simp only [c91, s91_0, s91_1, s91_4, s91_7, s91_8, s91_11, s91_14, s91_15, s91_16_o0, s91_19, s91_20, s91_21_o0, s91_24, s91_25_o76, s91_26, s91_28, s91_29_o0, s91_32, s91_33_o76, s91_34, s91_36, s91_38_o77, s91_38_o79, s91_38_o81, s91_38_o83, s91_41, s91_44, s91_46_o77, s91_46_o79, s91_46_o81, s91_46_o83, s91_49, s91_52, s91_53, s91_54_o0, s91_57, s91_58, s91_60_o77, s91_60_o79, s91_60_o81, s91_60_o83, s91_63, s91_65_o77, s91_65_o79, s91_65_o81, s91_65_o83, s91_68, s91_71, s91_72, s91_73_o0, s91_76, s91_77, s91_79, s91_80, s91_82_o77, s91_82_o79, s91_82_o81, s91_82_o83, s91_85, s91_88, s91_90, s91_92, s91_94_o77, s91_94_o79, s91_94_o81, s91_94_o83, s91_97, s91_100, s91_101, s91_102_o0, s91_105, s91_106, s91_108_o77, s91_108_o79, s91_108_o81, s91_108_o83, s91_111, s91_112, s91_114_o77, s91_114_o79, s91_114_o81, s91_114_o83, s91_117, s91_119, s91_121, s91_124, s91_126, k_isSheet, hst, hot, b2_t, vs, vo, cs, co, cr76_2, cr76_3, ms, mo_, b2_F w1, b2_F w2, a1, b1, w3', k_failed_5, simprocAttr, if_true, if_false, true_and, and_true, false_and, and_false, not_false_eq_true, not_true_eq_false, gd_T, kont_i, kont_v]
         · simp only [c206, s206_0, s206_1, s206_4, s206_7, s206_8, s206_11, s206_14, s206_15, s206_17_o87, s206_20, s206_21, s206_22_o87, s206_25, s206_26_o100, s206_27, s206_30, s206_31_o87, s206_34, s206_35_o100, s206_36, s206_39, s206_40, s206_42_o87, s206_45, s206_46, s206_47_o87, s206_50, s206_51_o100, s206_52, s206_53_o87, s206_56, s206_57_o100, s206_58, s206_61, s206_62, s206_64_o87, s206_67, s206_68, s206_70, s206_73, s206_74, s206_77, s206_79, s206_82, s206_83, s206_84, s206_86, s206_87, s206_88, s206_89_o87, s206_92, s206_93_o101, s206_94, s206_95, s206_96, s206_99, s206_101, s206_102, s206_104, s206_105, s206_106, s206_107_o87, s206_110, s206_111_o101, s206_112, s206_113, s206_114, s206_117, s206_118, s206_120_o87, s206_123, s206_124, s206_125, m_isSheet, hst, hot, b2_t, vs, vo, cs, co, g100, w1', w2', w3', m_fin_5, simprocAttr, if_true, if_false, true_and, and_true, false_and, and_false, not_false_eq_true, not_true_eq_false, gd_T, kont_i, kont_v])
theorem L_move_3_0 {i : Nat} {σ : Hs} (h : RR i σ) (d : Nat) (x y n : Int32) : Step d i 91 206 [.int (nI 3), .int x, .int (nI 0), .int y, .int n] σ := by
  have hst : (0 ≤ nI 3 ∧ nI 3 ≤ 3) = True := eq_true (by decide +kernel)
  have hot : (0 ≤ nI 0 ∧ nI 0 ≤ 3) = True := eq_true (by decide +kernel)
  obtain ⟨⟨a1, a2⟩, qs, p1, p2, p3, p4⟩ := h.2.2.2.2.2.2.1 3 (by omega)
  obtain ⟨⟨b1, b2_⟩, qo, r1, r2, r3, r4⟩ := h.2.2.2.2.2.2.1 0 (by omega)
  have a1 : σ 83 1 = σ 100 3 := a1
  have b1 : σ 77 1 = σ 100 0 := b1
  have p2 : σ 83 2 = nI qs := p2
  have r2 : σ 77 2 = nI qo := r2
  have vs : vp_in (nI 3) 4 = True := vp_nI (by omega) (by omega)
  have vo : vp_in (nI 0) 4 = True := vp_nI (by omega) (by omega)
  have cs : (nI 3).toNatClampNeg = 3 := cl_nI (by omega)
  have co : (nI 0).toNatClampNeg = 0 := cl_nI (by omega)
  have ms := k_isMissing_3 (d + 98) σ _ a1
  have mo_ := k_isMissing_0 (d + 98) σ _ b1
  have g100 : ∀ k, erC σ k 100 = σ 100 := fun k => rep_ne (by omega)
  have g101 : ∀ k, erC σ k 101 = σ 101 := fun k => rep_ne (by omega)
  by_cases w1 : σ 100 3 = 0
  · refine Step_err h 2 (v := -1000002) ?_ ?_
    · simp only [c91, s91_0, s91_1, s91_4, s91_7, s91_8, s91_11, s91_14, s91_15, s91_16_o0, s91_19, s91_20, s91_21_o0, s91_24, s91_25_o76, s91_26, s91_28, s91_29_o0, s91_32, s91_33_o76, s91_34, s91_36, s91_38_o77, s91_38_o79, s91_38_o81, s91_38_o83, s91_41, s91_44, s91_46_o77, s91_46_o79, s91_46_o81, s91_46_o83, s91_49, s91_52, s91_53, s91_54_o0, s91_57, s91_58, s91_60_o77, s91_60_o79, s91_60_o81, s91_60_o83, s91_63, s91_65_o77, s91_65_o79, s91_65_o81, s91_65_o83, s91_68, s91_71, s91_72, s91_73_o0, s91_76, s91_77, s91_79, s91_80, s91_82_o77, s91_82_o79, s91_82_o81, s91_82_o83, s91_85, s91_88, s91_90, s91_92, s91_94_o77, s91_94_o79, s91_94_o81, s91_94_o83, s91_97, s91_100, s91_101, s91_102_o0, s91_105, s91_106, s91_108_o77, s91_108_o79, s91_108_o81, s91_108_o83, s91_111, s91_112, s91_114_o77, s91_114_o79, s91_114_o81, s91_114_o83, s91_117, s91_119, s91_121, s91_124, s91_126, k_isSheet, hst, hot, b2_t, vs, vo, cs, co, cr76_3, cr76_0, ms, b2_T w1, k_failed_2, simprocAttr, if_true, if_false, true_and, and_true, false_and, and_false, not_false_eq_true, not_true_eq_false, gd_T, kont_i, kont_v]
    · simp only [c206, s206_0, s206_1, s206_4, s206_7, s206_8, s206_11, s206_14, s206_15, s206_17_o87, s206_20, s206_21, s206_22_o87, s206_25, s206_26_o100, s206_27, s206_30, s206_31_o87, s206_34, s206_35_o100, s206_36, s206_39, s206_40, s206_42_o87, s206_45, s206_46, s206_47_o87, s206_50, s206_51_o100, s206_52, s206_53_o87, s206_56, s206_57_o100, s206_58, s206_61, s206_62, s206_64_o87, s206_67, s206_68, s206_70, s206_73, s206_74, s206_77, s206_79, s206_82, s206_83, s206_84, s206_86, s206_87, s206_88, s206_89_o87, s206_92, s206_93_o101, s206_94, s206_95, s206_96, s206_99, s206_101, s206_102, s206_104, s206_105, s206_106, s206_107_o87, s206_110, s206_111_o101, s206_112, s206_113, s206_114, s206_117, s206_118, s206_120_o87, s206_123, s206_124, s206_125, m_isSheet, hst, hot, b2_t, vs, vo, cs, co, g100, w1, m_fin_2, simprocAttr, if_true, if_false, true_and, and_true, false_and, and_false, not_false_eq_true, not_true_eq_false, gd_T, kont_i, kont_v]
  by_cases w2 : σ 100 0 = 0
  · first
      | exact absurd w2 w1
      | (refine Step_err h 2 (v := -1000002) ?_ ?_
         · simp only [c91, s91_0, s91_1, s91_4, s91_7, s91_8, s91_11, s91_14, s91_15, s91_16_o0, s91_19, s91_20, s91_21_o0, s91_24, s91_25_o76, s91_26, s91_28, s91_29_o0, s91_32, s91_33_o76, s91_34, s91_36, s91_38_o77, s91_38_o79, s91_38_o81, s91_38_o83, s91_41, s91_44, s91_46_o77, s91_46_o79, s91_46_o81, s91_46_o83, s91_49, s91_52, s91_53, s91_54_o0, s91_57, s91_58, s91_60_o77, s91_60_o79, s91_60_o81, s91_60_o83, s91_63, s91_65_o77, s91_65_o79, s91_65_o81, s91_65_o83, s91_68, s91_71, s91_72, s91_73_o0, s91_76, s91_77, s91_79, s91_80, s91_82_o77, s91_82_o79, s91_82_o81, s91_82_o83, s91_85, s91_88, s91_90, s91_92, s91_94_o77, s91_94_o79, s91_94_o81, s91_94_o83, s91_97, s91_100, s91_101, s91_102_o0, s91_105, s91_106, s91_108_o77, s91_108_o79, s91_108_o81, s91_108_o83, s91_111, s91_112, s91_114_o77, s91_114_o79, s91_114_o81, s91_114_o83, s91_117, s91_119, s91_121, s91_124, s91_126, k_isSheet, hst, hot, b2_t, vs, vo, cs, co, cr76_3, cr76_0, ms, mo_, b2_F w1, b2_T w2, k_failed_2, simprocAttr, if_true, if_false, true_and, and_true, false_and, and_false, not_false_eq_true, not_true_eq_false, gd_T, kont_i, kont_v]
         · have w1' := eq_false w1
           simp only [c206, s206_0, s206_1, s206_4, s206_7, s206_8, s206_11, s206_14, s206_15, s206_17_o87, s206_20, s206_21, s206_22_o87, s206_25, s206_26_o100, s206_27, s206_30, s206_31_o87, s206_34, s206_35_o100, s206_36, s206_39, s206_40, s206_42_o87, s206_45, s206_46, s206_47_o87, s206_50, s206_51_o100, s206_52, s206_53_o87, s206_56, s206_57_o100, s206_58, s206_61, s206_62, s206_64_o87, s206_67, s206_68, s206_70, s206_73, s206_74, s206_77, s206_79, s206_82, s206_83, s206_84, s206_86, s206_87, s206_88, s206_89_o87, s206_92, s206_93_o101, s206_94, s206_95, s206_96, s206_99, s206_101, s206_102, s206_104, s206_105, s206_106, s206_107_o87, s206_110, s206_111_o101, s206_112, s206_113, s206_114, s206_117, s206_118, s206_120_o87, s206_123, s206_124, s206_125, m_isSheet, hst, hot, b2_t, vs, vo, cs, co, g100, w1', w2, m_fin_2, simprocAttr, if_true, if_false, true_and, and_true, false_and, and_false, not_false_eq_true, not_true_eq_false, gd_T, kont_i, kont_v])
  by_cases w3 : σ 100 3 = σ 100 0
  · have k1 := k_stand_3 (d + 98) x n σ _ p2
    have k2 := k_stand_0 (d + 98) y n σ _ r2
    by_cases c1 : stQ qs x n
    · rw [b2_T c1] at k1
      by_cases c2 : stQ qo y n
      · rw [b2_T c2] at k2
        obtain ⟨a, nn, rfl, rfl, hq1⟩ := (stQ_n p1).mp c1
        obtain ⟨b, nn2, rfl, en, hq2⟩ := (stQ_n r1).mp c2
        have : nn = nn2 := by
          obtain ⟨-, h2, h3, -⟩ := c2
          have hb2 : nn2 ≤ qo := by omega
          rw [nI_eq (by omega) (by omega)] at en
          exact en
        subst this
        have hb := bnd_m (σ := σ) (x := 78) (y := 84) (a := a) (b := b) (n := nn) (by decide +kernel) (by omega) (by omega)
        have e1 : callD (d + 100) 91 [.ref 0, .int (nI 3), .int (nI a), .int (nI 0), .int (nI b), .int (nI nn)] σ = some (some (.int (nI nn)), rep σ 78 (va_cpy (σ 84) (σ 78) a b nn)) := by
          simp only [c91, s91_0, s91_1, s91_4, s91_7, s91_8, s91_11, s91_14, s91_15, s91_16_o0, s91_19, s91_20, s91_21_o0, s91_24, s91_25_o76, s91_26, s91_28, s91_29_o0, s91_32, s91_33_o76, s91_34, s91_36, s91_38_o77, s91_38_o79, s91_38_o81, s91_38_o83, s91_41, s91_44, s91_46_o77, s91_46_o79, s91_46_o81, s91_46_o83, s91_49, s91_52, s91_53, s91_54_o0, s91_57, s91_58, s91_60_o77, s91_60_o79, s91_60_o81, s91_60_o83, s91_63, s91_65_o77, s91_65_o79, s91_65_o81, s91_65_o83, s91_68, s91_71, s91_72, s91_73_o0, s91_76, s91_77, s91_79, s91_80, s91_82_o77, s91_82_o79, s91_82_o81, s91_82_o83, s91_85, s91_88, s91_90, s91_92, s91_94_o77, s91_94_o79, s91_94_o81, s91_94_o83, s91_97, s91_100, s91_101, s91_102_o0, s91_105, s91_106, s91_108_o77, s91_108_o79, s91_108_o81, s91_108_o83, s91_111, s91_112, s91_114_o77, s91_114_o79, s91_114_o81, s91_114_o83, s91_117, s91_119, s91_121, s91_124, s91_126, k_isSheet, hst, hot, b2_t, vs, vo, cs, co, cr76_3, cr76_0, ms, mo_, b2_F w1, b2_F w2, a1, b1, w3, k1, k2, hb, cl_nI (show a < 2147483648 by omega), cl_nI (show b < 2147483648 by omega), cl_nI (show nn < 2147483648 by omega), cp2_rep, simprocAttr, if_true, if_false, true_and, and_true, false_and, and_false, not_false_eq_true, not_true_eq_false, gd_T, kont_i, kont_v]
        obtain ⟨F, e2⟩ := m_move_ok d 3 a nn 0 b qs qo (by omega) (by omega) p1 r1 hq1 hq2 (rep σ 78 (va_cpy (σ 84) (σ 78) a b nn)) (σ 100 3) w1 (by rw [rep_ne (by omega)]) (by first | (rw [rep_ne (by omega)]; exact w3.symm) | rw [rep_ne (by omega)]) (by rw [rep_ne (by omega)]; exact p3) (by rw [rep_ne (by omega)]; exact r3)
        rw [rep_ne (show 102 ≠ 78 by omega)] at e2
        refine ⟨_, _, _, e1, e2, h.shx (SHr_num (o := 0) h.2.2.2.2.2.2.1 (by omega) (fun z hz => ?_) (fun k hk => ?_) (fun k hk => ?_)) (h.wb.two e1 e2) (fun z hz => ?_)⟩
        · rw [rep_ne (by omega), rep_ne (by omega), rep_ne (by omega)]
        · rw [rep_ne (by omega), rep_ne (by omega), rep_self, rep_self]
          unfold cbF
          by_cases c : b ≤ k ∧ k < b + nn
          · rw [pk_cpy_in c.1 c.2, if_pos (by omega)]
            have := p4 (a + (k - b)) (by omega)
            rw [show σ 84 (a + (k - b)) = σ 102 (24 * 3 + (a + (k - b))) from this]
            congr 1
            omega
          · rw [pk_cpy_out (by omega), if_neg (by omega)]
            exact r4 k hk
        · rw [rep_self]
          unfold cbF
          rw [if_neg (by omega)]
        · rw [rep_ne (by omega), rep_ne (by omega), rep_ne (by omega)]
      · rw [b2_F c2] at k2
        refine Step_err h 1 (v := -1000001) ?_ ?_
        · simp only [c91, s91_0, s91_1, s91_4, s91_7, s91_8, s91_11, s91_14, s91_15, s91_16_o0, s91_19, s91_20, s91_21_o0, s91_24, s91_25_o76, s91_26, s91_28, s91_29_o0, s91_32, s91_33_o76, s91_34, s91_36, s91_38_o77, s91_38_o79, s91_38_o81, s91_38_o83, s91_41, s91_44, s91_46_o77, s91_46_o79, s91_46_o81, s91_46_o83, s91_49, s91_52, s91_53, s91_54_o0, s91_57, s91_58, s91_60_o77, s91_60_o79, s91_60_o81, s91_60_o83, s91_63, s91_65_o77, s91_65_o79, s91_65_o81, s91_65_o83, s91_68, s91_71, s91_72, s91_73_o0, s91_76, s91_77, s91_79, s91_80, s91_82_o77, s91_82_o79, s91_82_o81, s91_82_o83, s91_85, s91_88, s91_90, s91_92, s91_94_o77, s91_94_o79, s91_94_o81, s91_94_o83, s91_97, s91_100, s91_101, s91_102_o0, s91_105, s91_106, s91_108_o77, s91_108_o79, s91_108_o81, s91_108_o83, s91_111, s91_112, s91_114_o77, s91_114_o79, s91_114_o81, s91_114_o83, s91_117, s91_119, s91_121, s91_124, s91_126, k_isSheet, hst, hot, b2_t, vs, vo, cs, co, cr76_3, cr76_0, ms, mo_, b2_F w1, b2_F w2, a1, b1, w3, k1, k2, k_failed_1, simprocAttr, if_true, if_false, true_and, and_true, false_and, and_false, not_false_eq_true, not_true_eq_false, gd_T, kont_i, kont_v]
        · exact m_move_no d 3 0 qs qo (by omega) (by omega) p1 r1 x y n (fun q => c2 q.2) (erC σ 1) (σ 100 3) w1 (by rw [g100]) (by first | (rw [g100]; exact w3.symm) | rw [g100]) (by rw [g101]; exact p3) (by rw [g101]; exact r3)
    · rw [b2_F c1] at k1
      refine Step_err h 1 (v := -1000001) ?_ ?_
      · simp only [c91, s91_0, s91_1, s91_4, s91_7, s91_8, s91_11, s91_14, s91_15, s91_16_o0, s91_19, s91_20, s91_21_o0, s91_24, s91_25_o76, s91_26, s91_28, s91_29_o0, s91_32, s91_33_o76, s91_34, s91_36, s91_38_o77, s91_38_o79, s91_38_o81, s91_38_o83, s91_41, s91_44, s91_46_o77, s91_46_o79, s91_46_o81, s91_46_o83, s91_49, s91_52, s91_53, s91_54_o0, s91_57, s91_58, s91_60_o77, s91_60_o79, s91_60_o81, s91_60_o83, s91_63, s91_65_o77, s91_65_o79, s91_65_o81, s91_65_o83, s91_68, s91_71, s91_72, s91_73_o0, s91_76, s91_77, s91_79, s91_80, s91_82_o77, s91_82_o79, s91_82_o81, s91_82_o83, s91_85, s91_88, s91_90, s91_92, s91_94_o77, s91_94_o79, s91_94_o81, s91_94_o83, s91_97, s91_100, s91_101, s91_102_o0, s91_105, s91_106, s91_108_o77, s91_108_o79, s91_108_o81, s91_108_o83, s91_111, s91_112, s91_114_o77, s91_114_o79, s91_114_o81, s91_114_o83, s91_117, s91_119, s91_121, s91_124, s91_126, k_isSheet, hst, hot, b2_t, vs, vo, cs, co, cr76_3, cr76_0, ms, mo_, b2_F w1, b2_F w2, a1, b1, w3, k1, k_failed_1, simprocAttr, if_true, if_false, true_and, and_true, false_and, and_false, not_false_eq_true, not_true_eq_false, gd_T, kont_i, kont_v]
      · exact m_move_no d 3 0 qs qo (by omega) (by omega) p1 r1 x y n (fun q => c1 q.1) (erC σ 1) (σ 100 3) w1 (by rw [g100]) (by first | (rw [g100]; exact w3.symm) | rw [g100]) (by rw [g101]; exact p3) (by rw [g101]; exact r3)
  · first
      | exact absurd rfl w3
      | (have w1' := eq_false w1
         have w2' := eq_false w2
         have w3' := eq_false w3
         refine Step_err h 5 (v := -1000005) ?_ ?_
         · simp only [c91, s91_0, s91_1, s91_4, s91_7, s91_8, s91_11, s91_14, s91_15, s91_16_o0, s91_19, s91_20, s91_21_o0, s91_24, s91_25_o76, s91_26, s91_28, s91_29_o0, s91_32, s91_33_o76, s91_34, s91_36, s91_38_o77, s91_38_o79, s91_38_o81, s91_38_o83, s91_41, s91_44, s91_46_o77, s91_46_o79, s91_46_o81, s91_46_o83, s91_49, s91_52, s91_53, s91_54_o0, s91_57, s91_58, s91_60_o77, s91_60_o79, s91_60_o81, s91_60_o83, s91_63, s91_65_o77, s91_65_o79, s91_65_o81, s91_65_o83, s91_68, s91_71, s91_72, s91_73_o0, s91_76, s91_77, s91_79, s91_80, s91_82_o77, s91_82_o79, s91_82_o81, s91_82_o83, s91_85, s91_88, s91_90, s91_92, s91_94_o77, s91_94_o79, s91_94_o81, s91_94_o83, s91_97, s91_100, s91_101, s91_102_o0, s91_105, s91_106, s91_108_o77, s91_108_o79, s91_108_o81, s91_108_o83, s91_111, s91_112, s91_114_o77, s91_114_o79, s91_114_o81, s91_114_o83, s91_117, s91_119, s91_121, s91_124, s91_126, k_isSheet, hst, hot, b2_t, vs, vo, cs, co, cr76_3, cr76_0, ms, mo_, b2_F w1, b2_F w2, a1, b1, w3', k_failed_5, simprocAttr, if_true, if_false, true_and, and_true, false_and, and_false, not_false_eq_true, not_true_eq_false, gd_T, kont_i, kont_v]
         · simp only [c206, s206_0, s206_1, s206_4, s206_7, s206_8, s206_11, s206_14, s206_15, s206_17_o87, s206_20, s206_21, s206_22_o87, s206_25, s206_26_o100, s206_27, s206_30, s206_31_o87, s206_34, s206_35_o100, s206_36, s206_39, s206_40, s206_42_o87, s206_45, s206_46, s206_47_o87, s206_50, s206_51_o100, s206_52, s206_53_o87, s206_56, s206_57_o100, s206_58, s206_61, s206_62, s206_64_o87, s206_67, s206_68, s206_70, s206_73, s206_74, s206_77, s206_79, s206_82, s206_83, s206_84, s206_86, s206_87, s206_88, s206_89_o87, s206_92, s206_93_o101, s206_94, s206_95, s206_96, s206_99, s206_101, s206_102, s206_104, s206_105, s206_106, s206_107_o87, s206_110, s206_111_o101, s206_112, s206_113, s206_114, s206_117, s206_118, s206_120_o87, s206_123, s206_124, s206_125, m_isSheet, hst, hot, b2_t, vs, vo, cs, co, g100, w1', w2', w3', m_fin_5, simprocAttr, if_true, if_false, true_and, and_true, false_and, and_false, not_false_eq_true, not_true_eq_false, gd_T, kont_i, kont_v])
theorem L_move_3_1 {i : Nat} {σ : Hs} (h : RR i σ) (d : Nat) (x y n : Int32) : Step d i 91 206 [.int (nI 3), .int x, .int (nI 1), .int y, .int n] σ := by
  have hst : (0 ≤ nI 3 ∧ nI 3 ≤ 3) = True := eq_true (by decide +kernel)
  have hot : (0 ≤ nI 1 ∧ nI 1 ≤ 3) = True := eq_true (by decide +kernel)
  obtain ⟨⟨a1, a2⟩, qs, p1, p2, p3, p4⟩ := h.2.2.2.2.2.2.1 3 (by omega)
  obtain ⟨⟨b1, b2_⟩, qo, r1, r2, r3, r4⟩ := h.2.2.2.2.2.2.1 1 (by omega)
  have a1 : σ 83 1 = σ 100 3 := a1
  have b1 : σ 79 1 = σ 100 1 := b1
  have p2 : σ 83 2 = nI qs := p2
  have r2 : σ 79 2 = nI qo := r2
  have vs : vp_in (nI 3) 4 = True := vp_nI (by omega) (by omega)
  have vo : vp_in (nI 1) 4 = True := vp_nI (by omega) (by omega)
  have cs : (nI 3).toNatClampNeg = 3 := cl_nI (by omega)
  have co : (nI 1).toNatClampNeg = 1 := cl_nI (by omega)
  have ms := k_isMissing_3 (d + 98) σ _ a1
  have mo_ := k_isMissing_1 (d + 98) σ _ b1
  have g100 : ∀ k, erC σ k 100 = σ 100 := fun k => rep_ne (by omega)
  have g101 : ∀ k, erC σ k 101 = σ 101 := fun k => rep_ne (by omega)
  by_cases w1 : σ 100 3 = 0
  · refine Step_err h 2 (v := -1000002) ?_ ?_
    · simp only [c91, s91_0, s91_1, s91_4, s91_7, s91_8, s91_11, s91_14, s91_15, s91_16_o0, s91_19, s91_20, s91_21_o0, s91_24, s91_25_o76, s91_26, s91_28, s91_29_o0, s91_32, s91_33_o76, s91_34, s91_36, s91_38_o77, s91_38_o79, s91_38_o81, s91_38_o83, s91_41, s91_44, s91_46_o77, s91_46_o79, s91_46_o81, s91_46_o83, s91_49, s91_52, s91_53, s91_54_o0, s91_57, s91_58, s91_60_o77, s91_60_o79, s91_60_o81, s91_60_o83, s91_63, s91_65_o77, s91_65_o79, s91_65_o81, s91_65_o83, s91_68, s91_71, s91_72, s91_73_o0, s91_76, s91_77, s91_79, s91_80, s91_82_o77, s91_82_o79, s91_82_o81, s91_82_o83, s91_85, s91_88, s91_90, s91_92, s91_94_o77, s91_94_o79, s91_94_o81, s91_94_o83, s91_97, s91_100, s91_101, s91_102_o0, s91_105, s91_106, s91_108_o77, s91_108_o79, s91_108_o81, s91_108_o83, s91_111, s91_112, s91_114_o77, s91_114_o79, s91_114_o81, s91_114_o83, s91_117, s91_119, s91_121, s91_124, s91_126, k_isSheet, hst, hot, b2_t, vs, vo, cs, co, cr76_3, cr76_1, ms, b2_T w1, k_failed_2, simprocAttr, if_true, if_false, true_and, and_true, false_and, and_false, not_false_eq_true, not_true_eq_false, gd_T, kont_i, kont_v]
    · simp only [c206, s206_0, s206_1, s206_4, s206_7, s206_8, s206_11, s206_14, s206_15, s206_17_o87, s206_20, s206_21, s206_22_o87, s206_25, s206_26_o100, s206_27, s206_30, s206_31_o87, s206_34, s206_35_o100, s206_36, s206_39, s206_40, s206_42_o87, s206_45, s206_46, s206_47_o87, s206_50, s206_51_o100, s206_52, s206_53_o87, s206_56, s206_57_o100, s206_58, s206_61, s206_62, s206_64_o87, s206_67, s206_68, s206_70, s206_73, s206_74, s206_77, s206_79, s206_82, s206_83, s206_84, s206_86, s206_87, s206_88, s206_89_o87, s206_92, s206_93_o101, s206_94, s206_95, s206_96, s206_99, s206_101, s206_102, s206_104, s206_105, s206_106, s206_107_o87, s206_110, s206_111_o101, s206_112, s206_113, s206_114, s206_117, s206_118, s206_120_o87, s206_123, s206_124, s206_125, m_isSheet, hst, hot, b2_t, vs, vo, cs, co, g100, w1, m_fin_2, simprocAttr, if_true, if_false, true_and, and_true, false_and, and_false, not_false_eq_true, not_true_eq_false, gd_T, kont_i, kont_v]
  by_cases w2 : σ 100 1 = 0
  · first
      | exact absurd w2 w1
      | (refine Step_err h 2 (v := -1000002) ?_ ?_
         · simp only [c91, s91_0, s91_1, s91_4, s91_7, s91_8, s91_11, s91_14, s91_15, s91_16_o0, s91_19, s91_20, s91_21_o0, s91_24, s91_25_o76, s91_26, s91_28, s91_29_o0, s91_32, s91_33_o76, s91_34, s91_36, s91_38_o77, s91_38_o79, s91_38_o81, s91_38_o83, s91_41, s91_44, s91_46_o77, s91_46_o79, s91_46_o81, s91_46_o83, s91_49, s91_52, s91_53, s91_54_o0, s91_57, s91_58, s91_60_o77, s91_60_o79, s91_60_o81, s91_60_o83, s91_63, s91_65_o77, s91_65_o79, s91_65_o81, s91_65_o83, s91_68, s91_71, s91_72, s91_73_o0, s91_76, s91_77, s91_79, s91_80, s91_82_o77, s91_82_o79, s91_82_o81, s91_82_o83, s91_85, s91_88, s91_90, s91_92, s91_94_o77, s91_94_o79, s91_94_o81, s91_94_o83, s91_97, s91_100, s91_101, s91_102_o0, s91_105, s91_106, s91_108_o77, s91_108_o79, s91_108_o81, s91_108_o83, s91_111, s91_112, s91_114_o77, s91_114_o79, s91_114_o81, s91_114_o83, s91_117, s91_119, s91_121, s91_124, s91_126, k_isSheet, hst, hot, b2_t, vs, vo, cs, co, cr76_3, cr76_1, ms, mo_, b2_F w1, b2_T w2, k_failed_2, simprocAttr, if_true, if_false, true_and, and_true, false_and, and_false, not_false_eq_true, not_true_eq_false, gd_T, kont_i, kont_v]
         · have w1' := eq_false w1
           simp only [c206, s206_0, s206_1, s206_4, s206_7, s206_8, s206_11, s206_14, s206_15, s206_17_o87, s206_20, s206_21, s206_22_o87, s206_25, s206_26_o100, s206_27, s206_30, s206_31_o87, s206_34, s206_35_o100, s206_36, s206_39, s206_40, s206_42_o87, s206_45, s206_46, s206_47_o87, s206_50, s206_51_o100, s206_52, s206_53_o87, s206_56, s206_57_o100, s206_58, s206_61, s206_62, s206_64_o87, s206_67, s206_68, s206_70, s206_73, s206_74, s206_77, s206_79, s206_82, s206_83, s206_84, s206_86, s206_87, s206_88, s206_89_o87, s206_92, s206_93_o101, s206_94, s206_95, s206_96, s206_99, s206_101, s206_102, s206_104, s206_105, s206_106, s206_107_o87, s206_110, s206_111_o101, s206_112, s206_113, s206_114, s206_117, s206_118, s206_120_o87, s206_123, s206_124, s206_125, m_isSheet, hst, hot, b2_t, vs, vo, cs, co, g100, w1', w2, m_fin_2, simprocAttr, if_true, if_false, true_and, and_true, false_and, and_false, not_false_eq_true, not_true_eq_false, gd_T, kont_i, kont_v])
  by_cases w3 : σ 100 3 = σ 100 1
  · have k1 := k_stand_3 (d + 98) x n σ _ p2
    have k2 := k_stand_1 (d + 98) y n σ _ r2
    by_cases c1 : stQ qs x n
    · rw [b2_T c1] at k1
      by_cases c2 : stQ qo y n
      · rw [b2_T c2] at k2
        obtain ⟨a, nn, rfl, rfl, hq1⟩ := (stQ_n p1).mp c1
        obtain ⟨b, nn2, rfl, en, hq2⟩ := (stQ_n r1).mp c2
        have : nn = nn2 := by
          obtain ⟨-, h2, h3, -⟩ := c2
          have hb2 : nn2 ≤ qo := by omega
          rw [nI_eq (by omega) (by omega)] at en
          exact en
        subst this
        have hb := bnd_m (σ := σ) (x := 80) (y := 84) (a := a) (b := b) (n := nn) (by decide +kernel) (by omega) (by omega)
        have e1 : callD (d + 100) 91 [.ref 0, .int (nI 3), .int (nI a), .int (nI 1), .int (nI b), .int (nI nn)] σ = some (some (.int (nI nn)), rep σ 80 (va_cpy (σ 84) (σ 80) a b nn)) := by
          simp only [c91, s91_0, s91_1, s91_4, s91_7, s91_8, s91_11, s91_14, s91_15, s91_16_o0, s91_19, s91_20, s91_21_o0, s91_24, s91_25_o76, s91_26, s91_28, s91_29_o0, s91_32, s91_33_o76, s91_34, s91_36, s91_38_o77, s91_38_o79, s91_38_o81, s91_38_o83, s91_41, s91_44, s91_46_o77, s91_46_o79, s91_46_o81, s91_46_o83, s91_49, s91_52, s91_53, s91_54_o0, s91_57, s91_58, s91_60_o77, s91_60_o79, s91_60_o81, s91_60_o83, s91_63, s91_65_o77, s91_65_o79, s91_65_o81, s91_65_o83, s91_68, s91_71, s91_72, s91_73_o0, s91_76, s91_77, s91_79, s91_80, s91_82_o77, s91_82_o79, s91_82_o81, s91_82_o83, s91_85, s91_88, s91_90, s91_92, s91_94_o77, s91_94_o79, s91_94_o81, s91_94_o83, s91_97, s91_100, s91_101, s91_102_o0, s91_105, s91_106, s91_108_o77, s91_108_o79, s91_108_o81, s91_108_o83, s91_111, s91_112, s91_114_o77, s91_114_o79, s91_114_o81, s91_114_o83, s91_117, s91_119, s91_121, s91_124, s91_126, k_isSheet, hst, hot, b2_t, vs, vo, cs, co, cr76_3, cr76_1, ms, mo_, b2_F w1, b2_F w2, a1, b1, w3, k1, k2, hb, cl_nI (show a < 2147483648 by omega), cl_nI (show b < 2147483648 by omega), cl_nI (show nn < 2147483648 by omega), cp2_rep, simprocAttr, if_true, if_false, true_and, and_true, false_and, and_false, not_false_eq_true, not_true_eq_false, gd_T, kont_i, kont_v]
        obtain ⟨F, e2⟩ := m_move_ok d 3 a nn 1 b qs qo (by omega) (by omega) p1 r1 hq1 hq2 (rep σ 80 (va_cpy (σ 84) (σ 80) a b nn)) (σ 100 3) w1 (by rw [rep_ne (by omega)]) (by first | (rw [rep_ne (by omega)]; exact w3.symm) | rw [rep_ne (by omega)]) (by rw [rep_ne (by omega)]; exact p3) (by rw [rep_ne (by omega)]; exact r3)
        rw [rep_ne (show 102 ≠ 80 by omega)] at e2
        refine ⟨_, _, _, e1, e2, h.shx (SHr_num (o := 1) h.2.2.2.2.2.2.1 (by omega) (fun z hz => ?_) (fun k hk => ?_) (fun k hk => ?_)) (h.wb.two e1 e2) (fun z hz => ?_)⟩
        · rw [rep_ne (by omega), rep_ne (by omega), rep_ne (by omega)]
        · rw [rep_ne (by omega), rep_ne (by omega), rep_self, rep_self]
          unfold cbF
          by_cases c : b ≤ k ∧ k < b + nn
          · rw [pk_cpy_in c.1 c.2, if_pos (by omega)]
            have := p4 (a + (k - b)) (by omega)
            rw [show σ 84 (a + (k - b)) = σ 102 (24 * 3 + (a + (k - b))) from this]
            congr 1
            omega
          · rw [pk_cpy_out (by omega), if_neg (by omega)]
            exact r4 k hk
        · rw [rep_self]
          unfold cbF
          rw [if_neg (by omega)]
        · rw [rep_ne (by omega), rep_ne (by omega), rep_ne (by omega)]
      · rw [b2_F c2] at k2
        refine Step_err h 1 (v := -1000001) ?_ ?_
        · simp only [c91, s91_0, s91_1, s91_4, s91_7, s91_8, s91_11, s91_14, s91_15, s91_16_o0, s91_19, s91_20, s91_21_o0, s91_24, s91_25_o76, s91_26, s91_28, s91_29_o0, s91_32, s91_33_o76, s91_34, s91_36, s91_38_o77, s91_38_o79, s91_38_o81, s91_38_o83, s91_41, s91_44, s91_46_o77, s91_46_o79, s91_46_o81, s91_46_o83, s91_49, s91_52, s91_53, s91_54_o0, s91_57, s91_58, s91_60_o77, s91_60_o79, s91_60_o81, s91_60_o83, s91_63, s91_65_o77, s91_65_o79, s91_65_o81, s91_65_o83, s91_68, s91_71, s91_72, s91_73_o0, s91_76, s91_77, s91_79, s91_80, s91_82_o77, s91_82_o79, s91_82_o81, s91_82_o83, s91_85, s91_88, s91_90, s91_92, s91_94_o77, s91_94_o79, s91_94_o81, s91_94_o83, s91_97, s91_100, s91_101, s91_102_o0, s91_105, s91_106, s91_108_o77, s91_108_o79, s91_108_o81, s91_108_o83, s91_111, s91_112, s91_114_o77, s91_114_o79, s91_114_o81, s91_114_o83, s91_117, s91_119, s91_121, s91_124, s91_126, k_isSheet, hst, hot, b2_t, vs, vo, cs, co, cr76_3, cr76_1, ms, mo_, b2_F w1, b2_F w2, a1, b1, w3, k1, k2, k_failed_1, simprocAttr, if_true, if_false, true_and, and_true, false_and, and_false, not_false_eq_true, not_true_eq_false, gd_T, kont_i, kont_v]
        · exact m_move_no d 3 1 qs qo (by omega) (by omega) p1 r1 x y n (fun q => c2 q.2) (erC σ 1) (σ 100 3) w1 (by rw [g100]) (by first | (rw [g100]; exact w3.symm) | rw [g100]) (by rw [g101]; exact p3) (by rw [g101]; exact r3)
    · rw [b2_F c1] at k1
      refine Step_err h 1 (v := -1000001) ?_ ?_
      · simp only [c91, s91_0, s91_1, s91_4, s91_7, s91_8, s91_11, s91_14, s91_15, s91_16_o0, s91_19, s91_20, s91_21_o0, s91_24, s91_25_o76, s91_26, s91_28, s91_29_o0, s91_32, s91_33_o76, s91_34, s91_36, s91_38_o77, s91_38_o79, s91_38_o81, s91_38_o83, s91_41, s91_44, s91_46_o77, s91_46_o79, s91_46_o81, s91_46_o83, s91_49, s91_52, s91_53, s91_54_o0, s91_57, s91_58, s91_60_o77, s91_60_o79, s91_60_o81, s91_60_o83, s91_63, s91_65_o77, s91_65_o79, s91_65_o81, s91_65_o83, s91_68, s91_71, s91_72, s91_73_o0, s91_76, s91_77, s91_79, s91_80, s91_82_o77, s91_82_o79, s91_82_o81, s91_82_o83, s91_85, s91_88, s91_90, s91_92, s91_94_o77, s91_94_o79, s91_94_o81, s91_94_o83, s91_97, s91_100, s91_101, s91_102_o0, s91_105, s91_106, s91_108_o77, s91_108_o79, s91_108_o81, s91_108_o83, s91_111, s91_112, s91_114_o77, s91_114_o79, s91_114_o81, s91_114_o83, s91_117, s91_119, s91_121, s91_124, s91_126, k_isSheet, hst, hot, b2_t, vs, vo, cs, co, cr76_3, cr76_1, ms, mo_, b2_F w1, b2_F w2, a1, b1, w3, k1, k_failed_1, simprocAttr, if_true, if_false, true_and, and_true, false_and, and_false, not_false_eq_true, not_true_eq_false, gd_T, kont_i, kont_v]
      · exact m_move_no d 3 1 qs qo (by omega) (by omega) p1 r1 x y n (fun q => c1 q.1) (erC σ 1) (σ 100 3) w1 (by rw [g100]) (by first | (rw [g100]; exact w3.symm) | rw [g100]) (by rw [g101]; exact p3) (by rw [g101]; exact r3)
  · first
      | exact absurd rfl w3
      | (have w1' := eq_false w1
         have w2' := eq_false w2
         have w3' := eq_false w3
         refine Step_err h 5 (v := -1000005) ?_ ?_
         · simp only [c91, s91_0, s91_1, s91_4, s91_7, s91_8, s91_11, s91_14, s91_15, s91_16_o0, s91_19, s91_20, s91_21_o0, s91_24, s91_25_o76, s91_26, s91_28, s91_29_o0, s91_32, s91_33_o76, s91_34, s91_36, s91_38_o77, s91_38_o79, s91_38_o81, s91_38_o83, s91_41, s91_44, s91_46_o77, s91_46_o79, s91_46_o81, s91_46_o83, s91_49, s91_52, s91_53, s91_54_o0, s91_57, s91_58, s91_60_o77, s91_60_o79, s91_60_o81, s91_60_o83, s91_63, s91_65_o77, s91_65_o79, s91_65_o81, s91_65_o83, s91_68, s91_71, s91_72, s91_73_o0, s91_76, s91_77, s91_79, s91_80, s91_82_o77, s91_82_o79, s91_82_o81, s91_82_o83, s91_85, s91_88, s91_90, s91_92, s91_94_o77, s91_94_o79, s91_94_o81, s91_94_o83, s91_97, s91_100, s91_101, s91_102_o0, s91_105, s91_106, s91_108_o77, s91_108_o79, s91_108_o81, s91_108_o83, s91_111, s91_112, s91_114_o77, s91_114_o79, s91_114_o81, s91_114_o83, s91_117, s91_119, s91_121, s91_124, s91_126, k_isSheet, hst, hot, b2_t, vs, vo, cs, co, cr76_3, cr76_1, ms, mo_, b2_F w1, b2_F w2, a1, b1, w3', k_failed_5, simprocAttr, if_true, if_false, true_and, and_true, false_and, and_false, not_false_eq_true, not_true_eq_false, gd_T, kont_i, kont_v]
         · simp only [c206, s206_0, s206_1, s206_4, s206_7, s206_8, s206_11, s206_14, s206_15, s206_17_o87, s206_20, s206_21, s206_22_o87, s206_25, s206_26_o100, s206_27, s206_30, s206_31_o87, s206_34, s206_35_o100, s206_36, s206_39, s206_40, s206_42_o87, s206_45, s206_46, s206_47_o87, s206_50, s206_51_o100, s206_52, s206_53_o87, s206_56, s206_57_o100, s206_58, s206_61, s206_62, s206_64_o87, s206_67, s206_68, s206_70, s206_73, s206_74, s206_77, s206_79, s206_82, s206_83, s206_84, s206_86, s206_87, s206_88, s206_89_o87, s206_92, s206_93_o101, s206_94, s206_95, s206_96, s206_99, s206_101, s206_102, s206_104, s206_105, s206_106, s206_107_o87, s206_110, s206_111_o101, s206_112, s206_113, s206_114, s206_117, s206_118, s206_120_o87, s206_123, s206_124, s206_125, m_isSheet, hst, hot, b2_t, vs, vo, cs, co, g100, w1', w2', w3', m_fin_5, simprocAttr, if_true, if_false, true_and, and_true, false_and, and_false, not_false_eq_true, not_true_eq_false, gd_T, kont_i, kont_v])
theorem L_move_3_2 {i : Nat} {σ : Hs} (h : RR i σ) (d : Nat) (x y n : Int32) : Step d i 91 206 [.int (nI 3), .int x, .int (nI 2), .int y, .int n] σ := by
  have hst : (0 ≤ nI 3 ∧ nI 3 ≤ 3) = True := eq_true (by decide +kernel)
  have hot : (0 ≤ nI 2 ∧ nI 2 ≤ 3) = True := eq_true (by decide +kernel)
  obtain ⟨⟨a1, a2⟩, qs, p1, p2, p3, p4⟩ := h.2.2.2.2.2.2.1 3 (by omega)
  obtain ⟨⟨b1, b2_⟩, qo, r1, r2, r3, r4⟩ := h.2.2.2.2.2.2.1 2 (by omega)
  have a1 : σ 83 1 = σ 100 3 := a1
  have b1 : σ 81 1 = σ 100 2 := b1
  have p2 : σ 83 2 = nI qs := p2
  have r2 : σ 81 2 = nI qo := r2
  have vs : vp_in (nI 3) 4 = True := vp_nI (by omega) (by omega)
  have vo : vp_in (nI 2) 4 = True := vp_nI (by omega) (by omega)
  have cs : (nI 3).toNatClampNeg = 3 := cl_nI (by omega)
  have co : (nI 2).toNatClampNeg = 2 := cl_nI (by omega)
  have ms := k_isMissing_3 (d + 98) σ _ a1
  have mo_ := k_isMissing_2 (d + 98) σ _ b1
  have g100 : ∀ k, erC σ k 100 = σ 100 := fun k => rep_ne (by omega)
  have g101 : ∀ k, erC σ k 101 = σ 101 := fun k => rep_ne (by omega)
  by_cases w1 : σ 100 3 = 0
  · refine Step_err h 2 (v := -1000002) ?_ ?_
    · simp only [c91, s91_0, s91_1, s91_4, s91_7, s91_8, s91_11, s91_14, s91_15, s91_16_o0, s91_19, s91_20, s91_21_o0, s91_24, s91_25_o76, s91_26, s91_28, s91_29_o0, s91_32, s91_33_o76, s91_34, s91_36, s91_38_o77, s91_38_o79, s91_38_o81, s91_38_o83, s91_41, s91_44, s91_46_o77, s91_46_o79, s91_46_o81, s91_46_o83, s91_49, s91_52, s91_53, s91_54_o0, s91_57, s91_58, s91_60_o77, s91_60_o79, s91_60_o81, s91_60_o83, s91_63, s91_65_o77, s91_65_o79, s91_65_o81, s91_65_o83, s91_68, s91_71, s91_72, s91_73_o0, s91_76, s91_77, s91_79, s91_80, s91_82_o77, s91_82_o79, s91_82_o81, s91_82_o83, s91_85, s91_88, s91_90, s91_92, s91_94_o77, s91_94_o79, s91_94_o81, s91_94_o83, s91_97, s91_100, s91_101, s91_102_o0, s91_105, s91_106, s91_108_o77, s91_108_o79, s91_108_o81, s91_108_o83, s91_111, s91_112, s91_114_o77, s91_114_o79, s91_114_o81, s91_114_o83, s91_117, s91_119, s91_121, s91_124, s91_126, k_isSheet, hst, hot, b2_t, vs, vo, cs, co, cr76_3, cr76_2, ms, b2_T w1, k_failed_2, simprocAttr, if_true, if_false, true_and, and_true, false_and, and_false, not_false_eq_true, not_true_eq_false, gd_T, kont_i, kont_v]
    · simp only [c206, s206_0, s206_1, s206_4, s206_7, s206_8, s206_11, s206_14, s206_15, s206_17_o87, s206_20, s206_21, s206_22_o87, s206_25, s206_26_o100, s206_27, s206_30, s206_31_o87, s206_34, s206_35_o100, s206_36, s206_39, s206_40, s206_42_o87, s206_45, s206_46, s206_47_o87, s206_50, s206_51_o100, s206_52, s206_53_o87, s206_56, s206_57_o100, s206_58, s206_61, s206_62, s206_64_o87, s206_67, s206_68, s206_70, s206_73, s206_74, s206_77, s206_79, s206_82, s206_83, s206_84, s206_86, s206_87, s206_88, s206_89_o87, s206_92, s206_93_o101, s206_94, s206_95, s206_96, s206_99, s206_101, s206_102, s206_104, s206_105, s206_106, s206_107_o87, s206_110, s206_111_o101, s206_112, s206_113, s206_114, s206_117, s206_118, s206_120_o87, s206_123, s206_124, s206_125, m_isSheet, hst, hot, b2_t, vs, vo, cs, co, g100, w1, m_fin_2, simprocAttr, if_true, if_false, true_and, and_true, false_and, and_false, not_false_eq_true, not_true_eq_false, gd_T, kont_i, kont_v]
  by_cases w2 : σ 100 2 = 0
  · first
      | exact absurd w2 w1
      | (refine Step_err h 2 (v := -1000002) ?_ ?_
         · simp only [c91, s91_0, s91_1, s91_4, s91_7, s91_8, s91_11, s91_14, s91_15, s91_16_o0, s91_19, s91_20, s91_21_o0, s91_24, s91_25_o76, s91_26, s91_28, s91_29_o0, s91_32, s91_33_o76, s91_34, s91_36, s91_38_o77, s91_38_o79, s91_38_o81, s91_38_o83, s91_41, s91_44, s91_46_o77, s91_46_o79, s91_46_o81, s91_46_o83, s91_49, s91_52, s91_53, s91_54_o0, s91_57, s91_58, s91_60_o77, s91_60_o79, s91_60_o81, s91_60_o83, s91_63, s91_65_o77, s91_65_o79, s91_65_o81, s91_65_o83, s91_68, s91_71, s91_72, s91_73_o0, s91_76, s91_77, s91_79, s91_80, s91_82_o77, s91_82_o79, s91_82_o81, s91_82_o83, s91_85, s91_88, s91_90, s91_92, s91_94_o77, s91_94_o79, s91_94_o81, s91_94_o83, s91_97, s91_100, s91_101, s91_102_o0, s91_105, s91_106, s91_108_o77, s91_108_o79, s91_108_o81, s91_108_o83, s91_111, s91_112, s91_114_o77, s91_114_o79, s91_114_o81, s91_114_o83, s91_117, s91_119, s91_121, s91_124, s91_126, k_isSheet, hst, hot, b2_t, vs, vo, cs, co, cr76_3, cr76_2, ms, mo_, b2_F w1, b2_T w2, k_failed_2, simprocAttr, if_true, if_false, true_and, and_true, false_and, and_false, not_false_eq_true, not_true_eq_false, gd_T, kont_i, kont_v]
         · have w1' := eq_false w1
           simp only [c206, s206_0, s206_1, s206_4, s206_7, s206_8, s206_11, s206_14, s206_15, s206_17_o87, s206_20, s206_21, s206_22_o87, s206_25, s206_26_o100, s206_27, s206_30, s206_31_o87, s206_34, s206_35_o100, s206_36, s206_39, s206_40, s206_42_o87, s206_45, s206_46, s206_47_o87, s206_50, s206_51_o100, s206_52, s206_53_o87, s206_56, s206_57_o100, s206_58, s206_61, s206_62, s206_64_o87, s206_67, s206_68, s206_70, s206_73, s206_74, s206_77, s206_79, s206_82, s206_83, s206_84, s206_86, s206_87, s206_88, s206_89_o87, s206_92, s206_93_o101, s206_94, s206_95, s206_96, s206_99, s206_101, s206_102, s206_104, s206_105, s206_106, s206_107_o87, s206_110, s206_111_o101, s206_112, s206_113, s206_114, s206_117, s206_118, s206_120_o87, s206_123, s206_124, s206_125, m_isSheet, hst, hot, b2_t, vs, vo, cs, co, g100, w1', w2, m_fin_2, simprocAttr, if_true, if_false, true_and, and_true, false_and, and_false, not_false_eq_true, not_true_eq_false, gd_T, kont_i, kont_v])
  by_cases w3 : σ 100 3 = σ 100 2
  · have k1 := k_stand_3 (d + 98) x n σ _ p2
    have k2 := k_stand_2 (d + 98) y n σ _ r2
    by_cases c1 : stQ qs x n
    · rw [b2_T c1] at k1
      by_cases c2 : stQ qo y n
      · rw [b2_T c2] at k2
        obtain ⟨a, nn, rfl, rfl, hq1⟩ := (stQ_n p1).mp c1
        obtain ⟨b, nn2, rfl, en, hq2⟩ := (stQ_n r1).mp c2
        have : nn = nn2 := by
          obtain ⟨-, h2, h3, -⟩ := c2
          have hb2 : nn2 ≤ qo := by omega
          rw [nI_eq (by omega) (by omega)] at en
          exact en
        subst this
        have hb := bnd_m (σ := σ) (x := 82) (y := 84) (a := a) (b := b) (n := nn) (by decide +kernel) (by omega) (by omega)
        have e1 : callD (d + 100) 91 [.ref 0, .int (nI 3), .int (nI a), .int (nI 2), .int (nI b), .int (nI nn)] σ = some (some (.int (nI nn)), rep σ 82 (va_cpy (σ 84) (σ 82) a b nn)) := by
          simp only [c91, s91_0, s91_1, s91_4, s91_7, s91_8, s91_11, s91_14, s91_15, s91_16_o0, s91_19, s91_20, s91_21_o0, s91_24, s91_25_o76, s91_26, s91_28, s91_29_o0, s91_32, s91_33_o76, s91_34, s91_36, s91_38_o77, s91_38_o79, s91_38_o81, s91_38_o83, s91_41, s91_44, s91_46_o77, s91_46_o79, s91_46_o81, s91_46_o83, s91_49, s91_52, s91_53, s91_54_o0, s91_57, s91_58, s91_60_o77, s91_60_o79, s91_60_o81, s91_60_o83, s91_63, s91_65_o77, s91_65_o79, s91_65_o81, s91_65_o83, s91_68, s91_71, s91_72, s91_73_o0, s91_76, s91_77, s91_79, s91_80, s91_82_o77, s91_82_o79, s91_82_o81, s91_82_o83, s91_85, s91_88, s91_90, s91_92, s91_94_o77, s91_94_o79, s91_94_o81, s91_94_o83, s91_97, s91_100, s91_101, s91_102_o0, s91_105, s91_106, s91_108_o77, s91_108_o79, s91_108_o81, s91_108_o83, s91_111, s91_112, s91_114_o77, s91_114_o79, s91_114_o81, s91_114_o83, s91_117, s91_119, s91_121, s91_124, s91_126, k_isSheet, hst, hot, b2_t, vs, vo, cs, co, cr76_3, cr76_2, ms, mo_, b2_F w1, b2_F w2, a1, b1, w3, k1, k2, hb, cl_nI (show a < 2147483648 by omega), cl_nI (show b < 2147483648 by omega), cl_nI (show nn < 2147483648 by omega), cp2_rep, simprocAttr, if_true, if_false, true_and, and_true, false_and, and_false, not_false_eq_true, not_true_eq_false, gd_T, kont_i, kont_v]
        obtain ⟨F, e2⟩ := m_move_ok d 3 a nn 2 b qs qo (by omega) (by omega) p1 r1 hq1 hq2 (rep σ 82 (va_cpy (σ 84) (σ 82) a b nn)) (σ 100 3) w1 (by rw [rep_ne (by omega)]) (by first | (rw [rep_ne (by omega)]; exact w3.symm) | rw [rep_ne (by omega)]) (by rw [rep_ne (by omega)]; exact p3) (by rw [rep_ne (by omega)]; exact r3)
        rw [rep_ne (show 102 ≠ 82 by omega)] at e2
        refine ⟨_, _, _, e1, e2, h.shx (SHr_num (o := 2) h.2.2.2.2.2.2.1 (by omega) (fun z hz => ?_) (fun k hk => ?_) (fun k hk => ?_)) (h.wb.two e1 e2) (fun z hz => ?_)⟩
        · rw [rep_ne (by omega), rep_ne (by omega), rep_ne (by omega)]
        · rw [rep_ne (by omega), rep_ne (by omega), rep_self, rep_self]
          unfold cbF
          by_cases c : b ≤ k ∧ k < b + nn
          · rw [pk_cpy_in c.1 c.2, if_pos (by omega)]
            have := p4 (a + (k - b)) (by omega)
            rw [show σ 84 (a + (k - b)) = σ 102 (24 * 3 + (a + (k - b))) from this]
            congr 1
            omega
          · rw [pk_cpy_out (by omega), if_neg (by omega)]
            exact r4 k hk
        · rw [rep_self]
          unfold cbF
          rw [if_neg (by omega)]
        · rw [rep_ne (by omega), rep_ne (by omega), rep_ne (by omega)]
      · rw [b2_F c2] at k2
        refine Step_err h 1 (v := -1000001) ?_ ?_
        · simp only [c91, s91_0, s91_1, s91_4, s91_7, s91_8, s91_11, s91_14, s91_15, s91_16_o0, s91_19, s91_20, s91_21_o0, s91_24, s91_25_o76, s91_26, s91_28, s91_29_o0, s91_32, s91_33_o76, s91_34, s91_36, s91_38_o77, s91_38_o79, s91_38_o81, s91_38_o83, s91_41, s91_44, s91_46_o77, s91_46_o79, s91_46_o81, s91_46_o83, s91_49, s91_52, s91_53, s91_54_o0, s91_57, s91_58, s91_60_o77, s91_60_o79, s91_60_o81, s91_60_o83, s91_63, s91_65_o77, s91_65_o79, s91_65_o81, s91_65_o83, s91_68, s91_71, s91_72, s91_73_o0, s91_76, s91_77, s91_79, s91_80, s91_82_o77, s91_82_o79, s91_82_o81, s91_82_o83, s91_85, s91_88, s91_90, s91_92, s91_94_o77, s91_94_o79, s91_94_o81, s91_94_o83, s91_97, s91_100, s91_101, s91_102_o0, s91_105, s91_106, s91_108_o77, s91_108_o79, s91_108_o81, s91_108_o83, s91_111, s91_112, s91_114_o77, s91_114_o79, s91_114_o81, s91_114_o83, s91_117, s91_119, s91_121, s91_124, s91_126, k_isSheet, hst, hot, b2_t, vs, vo, cs, co, cr76_3, cr76_2, ms, mo_, b2_F w1, b2_F w2, a1, b1, w3, k1, k2, k_failed_1, simprocAttr, if_true, if_false, true_and, and_true, false_and, and_false, not_false_eq_true, not_true_eq_false, gd_T, kont_i, kont_v]
        · exact m_move_no d 3 2 qs qo (by omega) (by omega) p1 r1 x y n (fun q => c2 q.2) (erC σ 1) (σ 100 3) w1 (by rw [g100]) (by first | (rw [g100]; exact w3.symm) | rw [g100]) (by rw [g101]; exact p3) (by rw [g101]; exact r3)
    · rw [b2_F c1] at k1
      refine Step_err h 1 (v := -1000001) ?_ ?_
      · simp only [c91, s91_0, s91_1, s91_4, s91_7, s91_8, s91_11, s91_14, s91_15, s91_16_o0, s91_19, s91_20, s91_21_o0, s91_24, s91_25_o76, s91_26, s91_28, s91_29_o0, s91_32, s91_33_o76, s91_34, s91_36, s91_38_o77, s91_38_o79, s91_38_o81, s91_38_o83, s91_41, s91_44, s91_46_o77, s91_46_o79, s91_46_o81, s91_46_o83, s91_49, s91_52, s91_53, s91_54_o0, s91_57, s91_58, s91_60_o77, s91_60_o79, s91_60_o81, s91_60_o83, s91_63, s91_65_o77, s91_65_o79, s91_65_o81, s91_65_o83, s91_68, s91_71, s91_72, s91_73_o0, s91_76, s91_77, s91_79, s91_80, s91_82_o77, s91_82_o79, s91_82_o81, s91_82_o83, s91_85, s91_88, s91_90, s91_92, s91_94_o77, s91_94_o79, s91_94_o81, s91_94_o83, s91_97, s91_100, s91_101, s91_102_o0, s91_105, s91_106, s91_108_o77, s91_108_o79, s91_108_o81, s91_108_o83, s91_111, s91_112, s91_114_o77, s91_114_o79, s91_114_o81, s91_114_o83, s91_117, s91_119, s91_121, s91_124, s91_126, k_isSheet, hst, hot, b2_t, vs, vo, cs, co, cr76_3, cr76_2, ms, mo_, b2_F w1, b2_F w2, a1, b1, w3, k1, k_failed_1, simprocAttr, if_true, if_false, true_and, and_true, false_and, and_false, not_false_eq_true, not_true_eq_false, gd_T, kont_i, kont_v]
      · exact m_move_no d 3 2 qs qo (by omega) (by omega) p1 r1 x y n (fun q => c1 q.1) (erC σ 1) (σ 100 3) w1 (by rw [g100]) (by first | (rw [g100]; exact w3.symm) | rw [g100]) (by rw [g101]; exact p3) (by rw [g101]; exact r3)
  · first
      | exact absurd rfl w3
      | (have w1' := eq_false w1
         have w2' := eq_false w2
         have w3' := eq_false w3
         refine Step_err h 5 (v := -1000005) ?_ ?_
         · simp only [c91, s91_0, s91_1, s91_4, s91_7, s91_8, s91_11, s91_14, s91_15, s91_16_o0, s91_19, s91_20, s91_21_o0, s91_24, s91_25_o76, s91_26, s91_28, s91_29_o0, s91_32, s91_33_o76, s91_34, s91_36, s91_38_o77, s91_38_o79, s91_38_o81, s91_38_o83, s91_41, s91_44, s91_46_o77, s91_46_o79, s91_46_o81, s91_46_o83, s91_49, s91_52, s91_53, s91_54_o0, s91_57, s91_58, s91_60_o77, s91_60_o79, s91_60_o81, s91_60_o83, s91_63, s91_65_o77, s91_65_o79, s91_65_o81, s91_65_o83, s91_68, s91_71, s91_72, s91_73_o0, s91_76, s91_77, s91_79, s91_80, s91_82_o77, s91_82_o79, s91_82_o81, s91_82_o83, s91_85, s91_88, s91_90, s91_92, s91_94_o77, s91_94_o79, s91_94_o81, s91_94_o83, s91_97, s91_100, s91_101, s91_102_o0, s91_105, s91_106, s91_108_o77, s91_108_o79, s91_108_o81, s91_108_o83, s91_111, s91_112, s91_114_o77, s91_114_o79, s91_114_o81, s91_114_o83, s91_117, s91_119, s91_121, s91_124, s91_126, k_isSheet, hst, hot, b2_t, vs, vo, cs, co, cr76_3, cr76_2, ms, mo_, b2_F w1, b2_F w2, a1, b1, w3', k_failed_5, simprocAttr, if_true, if_false, true_and, and_true, false_and, and_false, not_false_eq_true, not_true_eq_false, gd_T, kont_i, kont_v]
         · simp only [c206, s206_0, s206_1, s206_4, s206_7, s206_8, s206_11, s206_14, s206_15, s206_17_o87, s206_20, s206_21, s206_22_o87, s206_25, s206_26_o100, s206_27, s206_30, s206_31_o87, s206_34, s206_35_o100, s206_36, s206_39, s206_40, s206_42_o87, s206_45, s206_46, s206_47_o87, s206_50, s206_51_o100, s206_52, s206_53_o87, s206_56, s206_57_o100, s206_58, s206_61, s206_62, s206_64_o87, s206_67, s206_68, s206_70, s206_73, s206_74, s206_77, s206_79, s206_82, s206_83, s206_84, s206_86, s206_87, s206_88, s206_89_o87, s206_92, s206_93_o101, s206_94, s206_95, s206_96, s206_99, s206_101, s206_102, s206_104, s206_105, s206_106, s206_107_o87, s206_110, s206_111_o101, s206_112, s206_113, s206_114, s206_117, s206_118, s206_120_o87, s206_123, s206_124, s206_125, m_isSheet, hst, hot, b2_t, vs, vo, cs, co, g100, w1', w2', w3', m_fin_5, simprocAttr, if_true, if_false, true_and, and_true, false_and, and_false, not_false_eq_true, not_true_eq_false, gd_T, kont_i, kont_v])
theorem L_move_3_3 {i : Nat} {σ : Hs} (h : RR i σ) (d : Nat) (x y n : Int32) : Step d i 91 206 [.int (nI 3), .int x, .int (nI 3), .int y, .int n] σ := by
  have hst : (0 ≤ nI 3 ∧ nI 3 ≤ 3) = True := eq_true (by decide +kernel)
  have hot : (0 ≤ nI 3 ∧ nI 3 ≤ 3) = True := eq_true (by decide +kernel)
  obtain ⟨⟨a1, a2⟩, qs, p1, p2, p3, p4⟩ := h.2.2.2.2.2.2.1 3 (by omega)
  obtain ⟨⟨b1, b2_⟩, qo, r1, r2, r3, r4⟩ := h.2.2.2.2.2.2.1 3 (by omega)
  have a1 : σ 83 1 = σ 100 3 := a1
  have b1 : σ 83 1 = σ 100 3 := b1
  have p2 : σ 83 2 = nI qs := p2
  have r2 : σ 83 2 = nI qo := r2
  have vs : vp_in (nI 3) 4 = True := vp_nI (by omega) (by omega)
  have vo : vp_in (nI 3) 4 = True := vp_nI (by omega) (by omega)
  have cs : (nI 3).toNatClampNeg = 3 := cl_nI (by omega)
  have co : (nI 3).toNatClampNeg = 3 := cl_nI (by omega)
  have ms := k_isMissing_3 (d + 98) σ _ a1
  have mo_ := k_isMissing_3 (d + 98) σ _ b1
  have g100 : ∀ k, erC σ k 100 = σ 100 := fun k => rep_ne (by omega)
  have g101 : ∀ k, erC σ k 101 = σ 101 := fun k => rep_ne (by omega)
  by_cases w1 : σ 100 3 = 0
  · refine Step_err h 2 (v := -1000002) ?_ ?_
    · simp only [c91, s91_0, s91_1, s91_4, s91_7, s91_8, s91_11, s91_14, s91_15, s91_16_o0, s91_19, s91_20, s91_21_o0, s91_24, s91_25_o76, s91_26, s91_28, s91_29_o0, s91_32, s91_33_o76, s91_34, s91_36, s91_38_o77, s91_38_o79, s91_38_o81, s91_38_o83, s91_41, s91_44, s91_46_o77, s91_46_o79, s91_46_o81, s91_46_o83, s91_49, s91_52, s91_53, s91_54_o0, s91_57, s91_58, s91_60_o77, s91_60_o79, s91_60_o81, s91_60_o83, s91_63, s91_65_o77, s91_65_o79, s91_65_o81, s91_65_o83, s91_68, s91_71, s91_72, s91_73_o0, s91_76, s91_77, s91_79, s91_80, s91_82_o77, s91_82_o79, s91_82_o81, s91_82_o83, s91_85, s91_88, s91_90, s91_92, s91_94_o77, s91_94_o79, s91_94_o81, s91_94_o83, s91_97, s91_100, s91_101, s91_102_o0, s91_105, s91_106, s91_108_o77, s91_108_o79, s91_108_o81, s91_108_o83, s91_111, s91_112, s91_114_o77, s91_114_o79, s91_114_o81, s91_114_o83, s91_117, s91_119, s91_121, s91_124, s91_126, k_isSheet, hst, hot, b2_t, vs, vo, cs, co, cr76_3, cr76_3, ms, b2_T w1, k_failed_2, simprocAttr, if_true, if_false, true_and, and_true, false_and, and_false, not_false_eq_true, not_true_eq_false, gd_T, kont_i, kont_v]
    · simp only [c206, s206_0, s206_1, s206_4, s206_7, s206_8, s206_11, s206_14, s206_15, s206_17_o87, s206_20, s206_21, s206_22_o87, s206_25, s206_26_o100, s206_27, s206_30, s206_31_o87, s206_34, s206_35_o100, s206_36, s206_39, s206_40, s206_42_o87, s206_45, s206_46, s206_47_o87, s206_50, s206_51_o100, s206_52, s206_53_o87, s206_56, s206_57_o100, s206_58, s206_61, s206_62, s206_64_o87, s206_67, s206_68, s206_70, s206_73, s206_74, s206_77, s206_79, s206_82, s206_83, s206_84, s206_86, s206_87, s206_88, s206_89_o87, s206_92, s206_93_o101, s206_94, s206_95, s206_96, s206_99, s206_101, s206_102, s206_104, s206_105, s206_106, s206_107_o87, s206_110, s206_111_o101, s206_112, s206_113, s206_114, s206_117, s206_118, s206_120_o87, s206_123, s206_124, s206_125, m_isSheet, hst, hot, b2_t, vs, vo, cs, co, g100, w1, m_fin_2, simprocAttr, if_true, if_false, true_and, and_true, false_and, and_false, not_false_eq_true, not_true_eq_false, gd_T, kont_i, kont_v]
  by_cases w2 : σ 100 3 = 0
  · first
      | exact absurd w2 w1
      | (refine Step_err h 2 (v := -1000002) ?_ ?_
         · simp only [c91, s91_0, s91_1, s91_4, s91_7, s91_8, s91_11, s91_14, s91_15, s91_16_o0, s91_19, s91_20, s91_21_o0, s91_24, s91_25_o76, s91_26, s91_28, s91_29_o0, s91_32, s91_33_o76, s91_34, s91_36, s91_38_o77, s91_38_o79, s91_38_o81, s91_38_o83, s91_41, s91_44, s91_46_o77, s91_46_o79, s91_46_o81, s91_46_o83, s91_49, s91_52, s91_53, s91_54_o0, s91_57, s91_58, s91_60_o77, s91_60_o79, s91_60_o81, s91_60_o83, s91_63, s91_65_o77, s91_65_o79, s91_65_o81, s91_65_o83, s91_68, s91_71, s91_72, s91_73_o0, s91_76, s91_77, s91_79, s91_80, s91_82_o77, s91_82_o79, s91_82_o81, s91_82_o83, s91_85, s91_88, s91_90, s91_92, s91_94_o77, s91_94_o79, s91_94_o81, s91_94_o83, s91_97, s91_100, s91_101, s91_102_o0, s91_105, s91_106, s91_108_o77, s91_108_o79, s91_108_o81, s91_108_o83, s91_111, s91_112, s91_114_o77, s91_114_o79, s91_114_o81, s91_114_o83, s91_117, s91_119, s91_121, s91_124, s91_126, k_isSheet, hst, hot, b2_t, vs, vo, cs, co, cr76_3, cr76_3, ms, mo_, b2_F w1, b2_T w2, k_failed_2, simprocAttr, if_true, if_false, true_and, and_true, false_and, and_false, not_false_eq_true, not_true_eq_false, gd_T, kont_i, kont_v]
         · have w1' := eq_false w1
           simp only [c206, s206_0, s206_1, s206_4, s206_7, s206_8, s206_11, s206_14, s206_15, s206_17_o87, s206_20, s206_21, s206_22_o87, s206_25, s206_26_o100, s206_27, s206_30, s206_31_o87, s206_34, s206_35_o100, s206_36, s206_39, s206_40, s206_42_o87, s206_45, s206_46, s206_47_o87, s206_50, s206_51_o100, s206_52, s206_53_o87, s206_56, s206_57_o100, s206_58, s206_61, s206_62, s206_64_o87, s206_67, s206_68, s206_70, s206_73, s206_74, s206_77, s206_79, s206_82, s206_83, s206_84, s206_86, s206_87, s206_88, s206_89_o87, s206_92, s206_93_o101, s206_94, s206_95, s206_96, s206_99, s206_101, s206_102, s206_104, s206_105, s206_106, s206_107_o87, s206_110, s206_111_o101, s206_112, s206_113, s206_114, s206_117, s206_118, s206_120_o87, s206_123, s206_124, s206_125, m_isSheet, hst, hot, b2_t, vs, vo, cs, co, g100, w1', w2, m_fin_2, simprocAttr, if_true, if_false, true_and, and_true, false_and, and_false, not_false_eq_true, not_true_eq_false, gd_T, kont_i, kont_v])
  by_cases w3 : σ 100 3 = σ 100 3
  · have k1 := k_stand_3 (d + 98) x n σ _ p2
    have k2 := k_stand_3 (d + 98) y n σ _ r2
    by_cases c1 : stQ qs x n
    · rw [b2_T c1] at k1
      by_cases c2 : stQ qo y n
      · rw [b2_T c2] at k2
        obtain ⟨a, nn, rfl, rfl, hq1⟩ := (stQ_n p1).mp c1
        obtain ⟨b, nn2, rfl, en, hq2⟩ := (stQ_n r1).mp c2
        have : nn = nn2 := by
          obtain ⟨-, h2, h3, -⟩ := c2
          have hb2 : nn2 ≤ qo := by omega
          rw [nI_eq (by omega) (by omega)] at en
          exact en
        subst this
        have hb := bnd_m (σ := σ) (x := 84) (y := 84) (a := a) (b := b) (n := nn) (by decide +kernel) (by omega) (by omega)
        have e1 : callD (d + 100) 91 [.ref 0, .int (nI 3), .int (nI a), .int (nI 3), .int (nI b), .int (nI nn)] σ = some (some (.int (nI nn)), rep σ 84 (va_cpy (σ 84) (σ 84) a b nn)) := by
          simp only [c91, s91_0, s91_1, s91_4, s91_7, s91_8, s91_11, s91_14, s91_15, s91_16_o0, s91_19, s91_20, s91_21_o0, s91_24, s91_25_o76, s91_26, s91_28, s91_29_o0, s91_32, s91_33_o76, s91_34, s91_36, s91_38_o77, s91_38_o79, s91_38_o81, s91_38_o83, s91_41, s91_44, s91_46_o77, s91_46_o79, s91_46_o81, s91_46_o83, s91_49, s91_52, s91_53, s91_54_o0, s91_57, s91_58, s91_60_o77, s91_60_o79, s91_60_o81, s91_60_o83, s91_63, s91_65_o77, s91_65_o79, s91_65_o81, s91_65_o83, s91_68, s91_71, s91_72, s91_73_o0, s91_76, s91_77, s91_79, s91_80, s91_82_o77, s91_82_o79, s91_82_o81, s91_82_o83, s91_85, s91_88, s91_90, s91_92, s91_94_o77, s91_94_o79, s91_94_o81, s91_94_o83, s91_97, s91_100, s91_101, s91_102_o0, s91_105, s91_106, s91_108_o77, s91_108_o79, s91_108_o81, s91_108_o83, s91_111, s91_112, s91_114_o77, s91_114_o79, s91_114_o81, s91_114_o83, s91_117, s91_119, s91_121, s91_124, s91_126, k_isSheet, hst, hot, b2_t, vs, vo, cs, co, cr76_3, cr76_3, ms, mo_, b2_F w1, b2_F w2, a1, b1, w3, k1, k2, hb, cl_nI (show a < 2147483648 by omega), cl_nI (show b < 2147483648 by omega), cl_nI (show nn < 2147483648 by omega), cp2_rep, simprocAttr, if_true, if_false, true_and, and_true, false_and, and_false, not_false_eq_true, not_true_eq_false, gd_T, kont_i, kont_v]
        obtain ⟨F, e2⟩ := m_move_ok d 3 a nn 3 b qs qo (by omega) (by omega) p1 r1 hq1 hq2 (rep σ 84 (va_cpy (σ 84) (σ 84) a b nn)) (σ 100 3) w1 (by rw [rep_ne (by omega)]) (by first | (rw [rep_ne (by omega)]; exact w3.symm) | rw [rep_ne (by omega)]) (by rw [rep_ne (by omega)]; exact p3) (by rw [rep_ne (by omega)]; exact r3)
        rw [rep_ne (show 102 ≠ 84 by omega)] at e2
        refine ⟨_, _, _, e1, e2, h.shx (SHr_num (o := 3) h.2.2.2.2.2.2.1 (by omega) (fun z hz => ?_) (fun k hk => ?_) (fun k hk => ?_)) (h.wb.two e1 e2) (fun z hz => ?_)⟩
        · rw [rep_ne (by omega), rep_ne (by omega), rep_ne (by omega)]
        · rw [rep_ne (by omega), rep_ne (by omega), rep_self, rep_self]
          unfold cbF
          by_cases c : b ≤ k ∧ k < b + nn
          · rw [pk_cpy_in c.1 c.2, if_pos (by omega)]
            have := p4 (a + (k - b)) (by omega)
            rw [show σ 84 (a + (k - b)) = σ 102 (24 * 3 + (a + (k - b))) from this]
            congr 1
            omega
          · rw [pk_cpy_out (by omega), if_neg (by omega)]
            exact r4 k hk
        · rw [rep_self]
          unfold cbF
          rw [if_neg (by omega)]
        · rw [rep_ne (by omega), rep_ne (by omega), rep_ne (by omega)]
      · rw [b2_F c2] at k2
        refine Step_err h 1 (v := -1000001) ?_ ?_
        · simp only [c91, s91_0, s91_1, s91_4, s91_7, s91_8, s91_11, s91_14, s91_15, s91_16_o0, s91_19, s91_20, s91_21_o0, s91_24, s91_25_o76, s91_26, s91_28, s91_29_o0, s91_32, s91_33_o76, s91_34, s91_36, s91_38_o77, s91_38_o79, s91_38_o81, s91_38_o83, s91_41, s91_44, s91_46_o77, s91_46_o79, s91_46_o81, s91_46_o83, s91_49, s91_52, s91_53, s91_54_o0, s91_57, s91_58, s91_60_o77, s91_60_o79, s91_60_o81, s91_60_o83, s91_63, s91_65_o77, s91_65_o79, s91_65_o81, s91_65_o83, s91_68, s91_71, s91_72, s91_73_o0, s91_76, s91_77, s91_79, s91_80, s91_82_o77, s91_82_o79, s91_82_o81, s91_82_o83, s91_85, s91_88, s91_90, s91_92, s91_94_o77, s91_94_o79, s91_94_o81, s91_94_o83, s91_97, s91_100, s91_101, s91_102_o0, s91_105, s91_106, s91_108_o77, s91_108_o79, s91_108_o81, s91_108_o83, s91_111, s91_112, s91_114_o77, s91_114_o79, s91_114_o81, s91_114_o83, s91_117, s91_119, s91_121, s91_124, s91_126, k_isSheet, hst, hot, b2_t, vs, vo, cs, co, cr76_3, cr76_3, ms, mo_, b2_F w1, b2_F w2, a1, b1, w3, k1, k2, k_failed_1, simprocAttr, if_true, if_false, true_and, and_true, false_and, and_false, not_false_eq_true, not_true_eq_false, gd_T, kont_i, kont_v]
        · exact m_move_no d 3 3 qs qo (by omega) (by omega) p1 r1 x y n (fun q => c2 q.2) (erC σ 1) (σ 100 3) w1 (by rw [g100]) (by first | (rw [g100]; exact w3.symm) | rw [g100]) (by rw [g101]; exact p3) (by rw [g101]; exact r3)
    · rw [b2_F c1] at k1
      refine Step_err h 1 (v := -1000001) ?_ ?_
      · simp only [c91, s91_0, s91_1, s91_4, s91_7, s91_8, s91_11, s91_14, s91_15, s91_16_o0, s91_19, s91_20, s91_21_o0, s91_24, s91_25_o76, s91_26, s91_28, s91_29_o0, s91_32, s91_33_o76, s91_34, s91_36, s91_38_o77, s91_38_o79, s91_38_o81, s91_38_o83, s91_41, s91_44, s91_46_o77, s91_46_o79, s91_46_o81, s91_46_o83, s91_49, s91_52, s91_53, s91_54_o0, s91_57, s91_58, s91_60_o77, s91_60_o79, s91_60_o81, s91_60_o83, s91_63, s91_65_o77, s91_65_o79, s91_65_o81, s91_65_o83, s91_68, s91_71, s91_72, s91_73_o0, s91_76, s91_77, s91_79, s91_80, s91_82_o77, s91_82_o79, s91_82_o81, s91_82_o83, s91_85, s91_88, s91_90, s91_92, s91_94_o77, s91_94_o79, s91_94_o81, s91_94_o83, s91_97, s91_100, s91_101, s91_102_o0, s91_105, s91_106, s91_108_o77, s91_108_o79, s91_108_o81, s91_108_o83, s91_111, s91_112, s91_114_o77, s91_114_o79, s91_114_o81, s91_114_o83, s91_117, s91_119, s91_121, s91_124, s91_126, k_isSheet, hst, hot, b2_t, vs, vo, cs, co, cr76_3, cr76_3, ms, mo_, b2_F w1, b2_F w2, a1, b1, w3, k1, k_failed_1, simprocAttr, if_true, if_false, true_and, and_true, false_and, and_false, not_false_eq_true, not_true_eq_false, gd_T, kont_i, kont_v]
      · exact m_move_no d 3 3 qs qo (by omega) (by omega) p1 r1 x y n (fun q => c1 q.1) (erC σ 1) (σ 100 3) w1 (by rw [g100]) (by first | (rw [g100]; exact w3.symm) | rw [g100]) (by rw [g101]; exact p3) (by rw [g101]; exact r3)
  · first
      | exact absurd rfl w3
      | (have w1' := eq_false w1
         have w2' := eq_false w2
         have w3' := eq_false w3
         refine Step_err h 5 (v := -1000005) ?_ ?_
         · simp only [c91, s91_0, s91_1, s91_4, s91_7, s91_8, s91_11, s91_14, s91_15, s91_16_o0, s91_19, s91_20, s91_21_o0, s91_24, s91_25_o76, s91_26, s91_28, s91_29_o0, s91_32, s91_33_o76, s91_34, s91_36, s91_38_o77, s91_38_o79, s91_38_o81, s91_38_o83, s91_41, s91_44, s91_46_o77, s91_46_o79, s91_46_o81, s91_46_o83, s91_49, s91_52, s91_53, s91_54_o0, s91_57, s91_58, s91_60_o77, s91_60_o79, s91_60_o81, s91_60_o83, s91_63, s91_65_o77, s91_65_o79, s91_65_o81, s91_65_o83, s91_68, s91_71, s91_72, s91_73_o0, s91_76, s91_77, s91_79, s91_80, s91_82_o77, s91_82_o79, s91_82_o81, s91_82_o83, s91_85, s91_88, s91_90, s91_92, s91_94_o77, s91_94_o79, s91_94_o81, s91_94_o83, s91_97, s91_100, s91_101, s91_102_o0, s91_105, s91_106, s91_108_o77, s91_108_o79, s91_108_o81, s91_108_o83, s91_111, s91_112, s91_114_o77, s91_114_o79, s91_114_o81, s91_114_o83, s91_117, s91_119, s91_121, s91_124, s91_126, k_isSheet, hst, hot, b2_t, vs, vo, cs, co, cr76_3, cr76_3, ms, mo_, b2_F w1, b2_F w2, a1, b1, w3', k_failed_5, simprocAttr, if_true, if_false, true_and, and_true, false_and, and_false, not_false_eq_true, not_true_eq_false, gd_T, kont_i, kont_v]
         · simp only [c206, s206_0, s206_1, s206_4, s206_7, s206_8, s206_11, s206_14, s206_15, s206_17_o87, s206_20, s206_21, s206_22_o87, s206_25, s206_26_o100, s206_27, s206_30, s206_31_o87, s206_34, s206_35_o100, s206_36, s206_39, s206_40, s206_42_o87, s206_45, s206_46, s206_47_o87, s206_50, s206_51_o100, s206_52, s206_53_o87, s206_56, s206_57_o100, s206_58, s206_61, s206_62, s206_64_o87, s206_67, s206_68, s206_70, s206_73, s206_74, s206_77, s206_79, s206_82, s206_83, s206_84, s206_86, s206_87, s206_88, s206_89_o87, s206_92, s206_93_o101, s206_94, s206_95, s206_96, s206_99, s206_101, s206_102, s206_104, s206_105, s206_106, s206_107_o87, s206_110, s206_111_o101, s206_112, s206_113, s206_114, s206_117, s206_118, s206_120_o87, s206_123, s206_124, s206_125, m_isSheet, hst, hot, b2_t, vs, vo, cs, co, g100, w1', w2', w3', m_fin_5, simprocAttr, if_true, if_false, true_and, and_true, false_and, and_false, not_false_eq_true, not_true_eq_false, gd_T, kont_i, kont_v])
theorem L_move {i : Nat} {σ : Hs} (h : RR i σ) (d : Nat) (s x o y n : Int32) : Step d i 91 206 [.int s, .int x, .int o, .int y, .int n] σ := by
  by_cases hs : 0 ≤ s ∧ s ≤ 3
  · have hst := eq_true hs
    by_cases ho : 0 ≤ o ∧ o ≤ 3
    · obtain ⟨u, lu, rfl⟩ := she_n hs
      obtain ⟨v, lv, rfl⟩ := she_n ho
      have hu : u = 0 ∨ u = 1 ∨ u = 2 ∨ u = 3 := by omega
      have hv : v = 0 ∨ v = 1 ∨ v = 2 ∨ v = 3 := by omega
      rcases hu with rfl | rfl | rfl | rfl
      · rcases hv with rfl | rfl | rfl | rfl
        · exact L_move_0_0 h d x y n
        · exact L_move_0_1 h d x y n
        · exact L_move_0_2 h d x y n
        · exact L_move_0_3 h d x y n
      · rcases hv with rfl | rfl | rfl | rfl
        · exact L_move_1_0 h d x y n
        · exact L_move_1_1 h d x y n
        · exact L_move_1_2 h d x y n
        · exact L_move_1_3 h d x y n
      · rcases hv with rfl | rfl | rfl | rfl
        · exact L_move_2_0 h d x y n
        · exact L_move_2_1 h d x y n
        · exact L_move_2_2 h d x y n
        · exact L_move_2_3 h d x y n
      · rcases hv with rfl | rfl | rfl | rfl
        · exact L_move_3_0 h d x y n
        · exact L_move_3_1 h d x y n
        · exact L_move_3_2 h d x y n
        · exact L_move_3_3 h d x y n
    · have hof := eq_false ho
      refine Step_err h 1 (v := -1000001) ?_ ?_
      · simp only [c91, s91_0, s91_1, s91_4, s91_7, s91_8, s91_11, s91_14, s91_15, s91_16_o0, s91_19, s91_20, s91_21_o0, s91_24, s91_25_o76, s91_26, s91_28, s91_29_o0, s91_32, s91_33_o76, s91_34, s91_36, s91_38_o77, s91_38_o79, s91_38_o81, s91_38_o83, s91_41, s91_44, s91_46_o77, s91_46_o79, s91_46_o81, s91_46_o83, s91_49, s91_52, s91_53, s91_54_o0, s91_57, s91_58, s91_60_o77, s91_60_o79, s91_60_o81, s91_60_o83, s91_63, s91_65_o77, s91_65_o79, s91_65_o81, s91_65_o83, s91_68, s91_71, s91_72, s91_73_o0, s91_76, s91_77, s91_79, s91_80, s91_82_o77, s91_82_o79, s91_82_o81, s91_82_o83, s91_85, s91_88, s91_90, s91_92, s91_94_o77, s91_94_o79, s91_94_o81, s91_94_o83, s91_97, s91_100, s91_101, s91_102_o0, s91_105, s91_106, s91_108_o77, s91_108_o79, s91_108_o81, s91_108_o83, s91_111, s91_112, s91_114_o77, s91_114_o79, s91_114_o81, s91_114_o83, s91_117, s91_119, s91_121, s91_124, s91_126, k_isSheet, hst, hof, b2_t, b2_f, k_failed_1, simprocAttr, if_true, if_false, true_and, and_true, false_and, and_false, not_false_eq_true, not_true_eq_false, gd_T, kont_i, kont_v]
      · simp only [c206, s206_0, s206_1, s206_4, s206_7, s206_8, s206_11, s206_14, s206_15, s206_17_o87, s206_20, s206_21, s206_22_o87, s206_25, s206_26_o100, s206_27, s206_30, s206_31_o87, s206_34, s206_35_o100, s206_36, s206_39, s206_40, s206_42_o87, s206_45, s206_46, s206_47_o87, s206_50, s206_51_o100, s206_52, s206_53_o87, s206_56, s206_57_o100, s206_58, s206_61, s206_62, s206_64_o87, s206_67, s206_68, s206_70, s206_73, s206_74, s206_77, s206_79, s206_82, s206_83, s206_84, s206_86, s206_87, s206_88, s206_89_o87, s206_92, s206_93_o101, s206_94, s206_95, s206_96, s206_99, s206_101, s206_102, s206_104, s206_105, s206_106, s206_107_o87, s206_110, s206_111_o101, s206_112, s206_113, s206_114, s206_117, s206_118, s206_120_o87, s206_123, s206_124, s206_125, m_isSheet, hst, hof, b2_t, b2_f, m_fin_1, simprocAttr, if_true, if_false, true_and, and_true, false_and, and_false, not_false_eq_true, not_true_eq_false, gd_T, kont_i, kont_v]
  · have hsf := eq_false hs
    refine Step_err h 1 (v := -1000001) ?_ ?_
    · simp only [c91, s91_0, s91_1, s91_4, s91_7, s91_8, s91_11, s91_14, s91_15, s91_16_o0, s91_19, s91_20, s91_21_o0, s91_24, s91_25_o76, s91_26, s91_28, s91_29_o0, s91_32, s91_33_o76, s91_34, s91_36, s91_38_o77, s91_38_o79, s91_38_o81, s91_38_o83, s91_41, s91_44, s91_46_o77, s91_46_o79, s91_46_o81, s91_46_o83, s91_49, s91_52, s91_53, s91_54_o0, s91_57, s91_58, s91_60_o77, s91_60_o79, s91_60_o81, s91_60_o83, s91_63, s91_65_o77, s91_65_o79, s91_65_o81, s91_65_o83, s91_68, s91_71, s91_72, s91_73_o0, s91_76, s91_77, s91_79, s91_80, s91_82_o77, s91_82_o79, s91_82_o81, s91_82_o83, s91_85, s91_88, s91_90, s91_92, s91_94_o77, s91_94_o79, s91_94_o81, s91_94_o83, s91_97, s91_100, s91_101, s91_102_o0, s91_105, s91_106, s91_108_o77, s91_108_o79, s91_108_o81, s91_108_o83, s91_111, s91_112, s91_114_o77, s91_114_o79, s91_114_o81, s91_114_o83, s91_117, s91_119, s91_121, s91_124, s91_126, k_isSheet, hsf, b2_f, k_failed_1, simprocAttr, if_true, if_false, true_and, and_true, false_and, and_false, not_false_eq_true, not_true_eq_false, gd_T, kont_i, kont_v]
    · simp only [c206, s206_0, s206_1, s206_4, s206_7, s206_8, s206_11, s206_14, s206_15, s206_17_o87, s206_20, s206_21, s206_22_o87, s206_25, s206_26_o100, s206_27, s206_30, s206_31_o87, s206_34, s206_35_o100, s206_36, s206_39, s206_40, s206_42_o87, s206_45, s206_46, s206_47_o87, s206_50, s206_51_o100, s206_52, s206_53_o87, s206_56, s206_57_o100, s206_58, s206_61, s206_62, s206_64_o87, s206_67, s206_68, s206_70, s206_73, s206_74, s206_77, s206_79, s206_82, s206_83, s206_84, s206_86, s206_87, s206_88, s206_89_o87, s206_92, s206_93_o101, s206_94, s206_95, s206_96, s206_99, s206_101, s206_102, s206_104, s206_105, s206_106, s206_107_o87, s206_110, s206_111_o101, s206_112, s206_113, s206_114, s206_117, s206_118, s206_120_o87, s206_123, s206_124, s206_125, m_isSheet, hsf, b2_f, m_fin_1, simprocAttr, if_true, if_false, true_and, and_true, false_and, and_false, not_false_eq_true, not_true_eq_false, gd_T, kont_i, kont_v]
