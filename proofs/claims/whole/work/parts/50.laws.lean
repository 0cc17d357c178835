/-! ===== the class: texts ===== -/
def sgI (c : Int32) : Int32 := if c = 20000 then 124 else if c = 20001 then 38 else if c = 20002 then 60 else if c = 20003 then 61 else if c = 20004 then 62 else if c = 20005 then 43 else if c = 20006 then 45 else if c = 20007 then 42 else if c = 20008 then 47 else if c = 20009 then 37 else if c = 20010 then 33 else 0
def enI (c : Int32) : Int32 := if c < 20000 then c else 20000 + sgI c
theorem k_joined (d : Nat) (c a b : Int32) (h33 : ¬ c = 20010) (σ : Hs) : callD (d + 1) 34 [.int (sgI c), .int a, .int b] σ = some (some (.int (doneI c a b)), σ) := by
  unfold sgI doneI
  by_cases c20000 : c = 20000
  · subst c20000
    simp only [c34, s34_0, s34_1, s34_84, s34_85, s34_88, s34_89, s34_92, s34_93, s34_96, s34_97, s34_98, s34_99, s34_102, s34_103, s34_106, s34_107, s34_110, s34_111, s34_112, s34_113, s34_114, s34_117, s34_118, s34_121, s34_122, s34_123, s34_124, s34_125, s34_128, s34_129, s34_132, s34_133, s34_134, s34_135, s34_136, s34_139, s34_140, s34_143, s34_144, s34_145, s34_146, s34_147, s34_148, s34_149, s34_150, s34_151, s34_152, s34_153, s34_154, s34_155, s34_156, s34_157, s34_158, s34_161, s34_162, s34_165, s34_166, s34_167, s34_168, s34_169, s34_170, s34_173, s34_174, s34_177, s34_178, s34_179, s34_180, simprocAttr, if_true, if_false, true_and, and_true, false_and, and_false, not_false_eq_true, not_true_eq_false, gd_T, kont_i, kont_v]
    by_cases hb : b = 0
    · subst hb
      try simp only [not_true_eq_false, simprocAttr, if_true, if_false, true_and, and_true, false_and, and_false, not_false_eq_true, not_true_eq_false, gd_T, kont_i, kont_v]
      repeat' split
      all_goals first | rfl | simp_all
    · first | rw [gd_pos hb] | skip
      try simp only [hb, simprocAttr, if_true, if_false, true_and, and_true, false_and, and_false, not_false_eq_true, not_true_eq_false, gd_T, kont_i, kont_v]
      repeat' split
      all_goals first | rfl | simp_all
  by_cases c20001 : c = 20001
  · subst c20001
    simp only [c34, s34_0, s34_1, s34_84, s34_85, s34_88, s34_89, s34_92, s34_93, s34_96, s34_97, s34_98, s34_99, s34_102, s34_103, s34_106, s34_107, s34_110, s34_111, s34_112, s34_113, s34_114, s34_117, s34_118, s34_121, s34_122, s34_123, s34_124, s34_125, s34_128, s34_129, s34_132, s34_133, s34_134, s34_135, s34_136, s34_139, s34_140, s34_143, s34_144, s34_145, s34_146, s34_147, s34_148, s34_149, s34_150, s34_151, s34_152, s34_153, s34_154, s34_155, s34_156, s34_157, s34_158, s34_161, s34_162, s34_165, s34_166, s34_167, s34_168, s34_169, s34_170, s34_173, s34_174, s34_177, s34_178, s34_179, s34_180, simprocAttr, if_true, if_false, true_and, and_true, false_and, and_false, not_false_eq_true, not_true_eq_false, gd_T, kont_i, kont_v]
    by_cases hb : b = 0
    · subst hb
      try simp only [not_true_eq_false, simprocAttr, if_true, if_false, true_and, and_true, false_and, and_false, not_false_eq_true, not_true_eq_false, gd_T, kont_i, kont_v]
      repeat' split
      all_goals first | rfl | simp_all
    · first | rw [gd_pos hb] | skip
      try simp only [hb, simprocAttr, if_true, if_false, true_and, and_true, false_and, and_false, not_false_eq_true, not_true_eq_false, gd_T, kont_i, kont_v]
      repeat' split
      all_goals first | rfl | simp_all
  by_cases c20002 : c = 20002
  · subst c20002
    simp only [c34, s34_0, s34_1, s34_84, s34_85, s34_88, s34_89, s34_92, s34_93, s34_96, s34_97, s34_98, s34_99, s34_102, s34_103, s34_106, s34_107, s34_110, s34_111, s34_112, s34_113, s34_114, s34_117, s34_118, s34_121, s34_122, s34_123, s34_124, s34_125, s34_128, s34_129, s34_132, s34_133, s34_134, s34_135, s34_136, s34_139, s34_140, s34_143, s34_144, s34_145, s34_146, s34_147, s34_148, s34_149, s34_150, s34_151, s34_152, s34_153, s34_154, s34_155, s34_156, s34_157, s34_158, s34_161, s34_162, s34_165, s34_166, s34_167, s34_168, s34_169, s34_170, s34_173, s34_174, s34_177, s34_178, s34_179, s34_180, simprocAttr, if_true, if_false, true_and, and_true, false_and, and_false, not_false_eq_true, not_true_eq_false, gd_T, kont_i, kont_v]
    by_cases hb : b = 0
    · subst hb
      try simp only [not_true_eq_false, simprocAttr, if_true, if_false, true_and, and_true, false_and, and_false, not_false_eq_true, not_true_eq_false, gd_T, kont_i, kont_v]
      repeat' split
      all_goals first | rfl | simp_all
    · first | rw [gd_pos hb] | skip
      try simp only [hb, simprocAttr, if_true, if_false, true_and, and_true, false_and, and_false, not_false_eq_true, not_true_eq_false, gd_T, kont_i, kont_v]
      repeat' split
      all_goals first | rfl | simp_all
  by_cases c20003 : c = 20003
  · subst c20003
    simp only [c34, s34_0, s34_1, s34_84, s34_85, s34_88, s34_89, s34_92, s34_93, s34_96, s34_97, s34_98, s34_99, s34_102, s34_103, s34_106, s34_107, s34_110, s34_111, s34_112, s34_113, s34_114, s34_117, s34_118, s34_121, s34_122, s34_123, s34_124, s34_125, s34_128, s34_129, s34_132, s34_133, s34_134, s34_135, s34_136, s34_139, s34_140, s34_143, s34_144, s34_145, s34_146, s34_147, s34_148, s34_149, s34_150, s34_151, s34_152, s34_153, s34_154, s34_155, s34_156, s34_157, s34_158, s34_161, s34_162, s34_165, s34_166, s34_167, s34_168, s34_169, s34_170, s34_173, s34_174, s34_177, s34_178, s34_179, s34_180, simprocAttr, if_true, if_false, true_and, and_true, false_and, and_false, not_false_eq_true, not_true_eq_false, gd_T, kont_i, kont_v]
    by_cases hb : b = 0
    · subst hb
      try simp only [not_true_eq_false, simprocAttr, if_true, if_false, true_and, and_true, false_and, and_false, not_false_eq_true, not_true_eq_false, gd_T, kont_i, kont_v]
      repeat' split
      all_goals first | rfl | simp_all
    · first | rw [gd_pos hb] | skip
      try simp only [hb, simprocAttr, if_true, if_false, true_and, and_true, false_and, and_false, not_false_eq_true, not_true_eq_false, gd_T, kont_i, kont_v]
      repeat' split
      all_goals first | rfl | simp_all
  by_cases c20004 : c = 20004
  · subst c20004
    simp only [c34, s34_0, s34_1, s34_84, s34_85, s34_88, s34_89, s34_92, s34_93, s34_96, s34_97, s34_98, s34_99, s34_102, s34_103, s34_106, s34_107, s34_110, s34_111, s34_112, s34_113, s34_114, s34_117, s34_118, s34_121, s34_122, s34_123, s34_124, s34_125, s34_128, s34_129, s34_132, s34_133, s34_134, s34_135, s34_136, s34_139, s34_140, s34_143, s34_144, s34_145, s34_146, s34_147, s34_148, s34_149, s34_150, s34_151, s34_152, s34_153, s34_154, s34_155, s34_156, s34_157, s34_158, s34_161, s34_162, s34_165, s34_166, s34_167, s34_168, s34_169, s34_170, s34_173, s34_174, s34_177, s34_178, s34_179, s34_180, simprocAttr, if_true, if_false, true_and, and_true, false_and, and_false, not_false_eq_true, not_true_eq_false, gd_T, kont_i, kont_v]
    by_cases hb : b = 0
    · subst hb
      try simp only [not_true_eq_false, simprocAttr, if_true, if_false, true_and, and_true, false_and, and_false, not_false_eq_true, not_true_eq_false, gd_T, kont_i, kont_v]
      repeat' split
      all_goals first | rfl | simp_all
    · first | rw [gd_pos hb] | skip
      try simp only [hb, simprocAttr, if_true, if_false, true_and, and_true, false_and, and_false, not_false_eq_true, not_true_eq_false, gd_T, kont_i, kont_v]
      repeat' split
      all_goals first | rfl | simp_all
  by_cases c20005 : c = 20005
  · subst c20005
    simp only [c34, s34_0, s34_1, s34_84, s34_85, s34_88, s34_89, s34_92, s34_93, s34_96, s34_97, s34_98, s34_99, s34_102, s34_103, s34_106, s34_107, s34_110, s34_111, s34_112, s34_113, s34_114, s34_117, s34_118, s34_121, s34_122, s34_123, s34_124, s34_125, s34_128, s34_129, s34_132, s34_133, s34_134, s34_135, s34_136, s34_139, s34_140, s34_143, s34_144, s34_145, s34_146, s34_147, s34_148, s34_149, s34_150, s34_151, s34_152, s34_153, s34_154, s34_155, s34_156, s34_157, s34_158, s34_161, s34_162, s34_165, s34_166, s34_167, s34_168, s34_169, s34_170, s34_173, s34_174, s34_177, s34_178, s34_179, s34_180, simprocAttr, if_true, if_false, true_and, and_true, false_and, and_false, not_false_eq_true, not_true_eq_false, gd_T, kont_i, kont_v]
  by_cases c20006 : c = 20006
  · subst c20006
    simp only [c34, s34_0, s34_1, s34_84, s34_85, s34_88, s34_89, s34_92, s34_93, s34_96, s34_97, s34_98, s34_99, s34_102, s34_103, s34_106, s34_107, s34_110, s34_111, s34_112, s34_113, s34_114, s34_117, s34_118, s34_121, s34_122, s34_123, s34_124, s34_125, s34_128, s34_129, s34_132, s34_133, s34_134, s34_135, s34_136, s34_139, s34_140, s34_143, s34_144, s34_145, s34_146, s34_147, s34_148, s34_149, s34_150, s34_151, s34_152, s34_153, s34_154, s34_155, s34_156, s34_157, s34_158, s34_161, s34_162, s34_165, s34_166, s34_167, s34_168, s34_169, s34_170, s34_173, s34_174, s34_177, s34_178, s34_179, s34_180, simprocAttr, if_true, if_false, true_and, and_true, false_and, and_false, not_false_eq_true, not_true_eq_false, gd_T, kont_i, kont_v]
  by_cases c20007 : c = 20007
  · subst c20007
    simp only [c34, s34_0, s34_1, s34_84, s34_85, s34_88, s34_89, s34_92, s34_93, s34_96, s34_97, s34_98, s34_99, s34_102, s34_103, s34_106, s34_107, s34_110, s34_111, s34_112, s34_113, s34_114, s34_117, s34_118, s34_121, s34_122, s34_123, s34_124, s34_125, s34_128, s34_129, s34_132, s34_133, s34_134, s34_135, s34_136, s34_139, s34_140, s34_143, s34_144, s34_145, s34_146, s34_147, s34_148, s34_149, s34_150, s34_151, s34_152, s34_153, s34_154, s34_155, s34_156, s34_157, s34_158, s34_161, s34_162, s34_165, s34_166, s34_167, s34_168, s34_169, s34_170, s34_173, s34_174, s34_177, s34_178, s34_179, s34_180, simprocAttr, if_true, if_false, true_and, and_true, false_and, and_false, not_false_eq_true, not_true_eq_false, gd_T, kont_i, kont_v]
  by_cases c20008 : c = 20008
  · subst c20008
    simp only [c34, s34_0, s34_1, s34_84, s34_85, s34_88, s34_89, s34_92, s34_93, s34_96, s34_97, s34_98, s34_99, s34_102, s34_103, s34_106, s34_107, s34_110, s34_111, s34_112, s34_113, s34_114, s34_117, s34_118, s34_121, s34_122, s34_123, s34_124, s34_125, s34_128, s34_129, s34_132, s34_133, s34_134, s34_135, s34_136, s34_139, s34_140, s34_143, s34_144, s34_145, s34_146, s34_147, s34_148, s34_149, s34_150, s34_151, s34_152, s34_153, s34_154, s34_155, s34_156, s34_157, s34_158, s34_161, s34_162, s34_165, s34_166, s34_167, s34_168, s34_169, s34_170, s34_173, s34_174, s34_177, s34_178, s34_179, s34_180, simprocAttr, if_true, if_false, true_and, and_true, false_and, and_false, not_false_eq_true, not_true_eq_false, gd_T, kont_i, kont_v]
    by_cases hb : b = 0
    · subst hb
      try simp only [not_true_eq_false, simprocAttr, if_true, if_false, true_and, and_true, false_and, and_false, not_false_eq_true, not_true_eq_false, gd_T, kont_i, kont_v]
      repeat' split
      all_goals first | rfl | simp_all
    · first | rw [gd_pos hb] | skip
      try simp only [hb, simprocAttr, if_true, if_false, true_and, and_true, false_and, and_false, not_false_eq_true, not_true_eq_false, gd_T, kont_i, kont_v]
      repeat' split
      all_goals first | rfl | simp_all
  by_cases c20009 : c = 20009
  · subst c20009
    simp only [c34, s34_0, s34_1, s34_84, s34_85, s34_88, s34_89, s34_92, s34_93, s34_96, s34_97, s34_98, s34_99, s34_102, s34_103, s34_106, s34_107, s34_110, s34_111, s34_112, s34_113, s34_114, s34_117, s34_118, s34_121, s34_122, s34_123, s34_124, s34_125, s34_128, s34_129, s34_132, s34_133, s34_134, s34_135, s34_136, s34_139, s34_140, s34_143, s34_144, s34_145, s34_146, s34_147, s34_148, s34_149, s34_150, s34_151, s34_152, s34_153, s34_154, s34_155, s34_156, s34_157, s34_158, s34_161, s34_162, s34_165, s34_166, s34_167, s34_168, s34_169, s34_170, s34_173, s34_174, s34_177, s34_178, s34_179, s34_180, simprocAttr, if_true, if_false, true_and, and_true, false_and, and_false, not_false_eq_true, not_true_eq_false, gd_T, kont_i, kont_v]
    by_cases hb : b = 0
    · subst hb
      try simp only [not_true_eq_false, simprocAttr, if_true, if_false, true_and, and_true, false_and, and_false, not_false_eq_true, not_true_eq_false, gd_T, kont_i, kont_v]
      repeat' split
      all_goals first | rfl | simp_all
    · first | rw [gd_pos hb] | skip
      try simp only [hb, simprocAttr, if_true, if_false, true_and, and_true, false_and, and_false, not_false_eq_true, not_true_eq_false, gd_T, kont_i, kont_v]
      repeat' split
      all_goals first | rfl | simp_all
  simp only [c20000, c20001, c20002, c20003, c20004, c20005, c20006, c20007, c20008, c20009, h33, simprocAttr, if_true, if_false, true_and, and_true, false_and, and_false, not_false_eq_true, not_true_eq_false, gd_T, kont_i, kont_v]
  simp only [c34, s34_0, s34_1, s34_84, s34_85, s34_88, s34_89, s34_92, s34_93, s34_96, s34_97, s34_98, s34_99, s34_102, s34_103, s34_106, s34_107, s34_110, s34_111, s34_112, s34_113, s34_114, s34_117, s34_118, s34_121, s34_122, s34_123, s34_124, s34_125, s34_128, s34_129, s34_132, s34_133, s34_134, s34_135, s34_136, s34_139, s34_140, s34_143, s34_144, s34_145, s34_146, s34_147, s34_148, s34_149, s34_150, s34_151, s34_152, s34_153, s34_154, s34_155, s34_156, s34_157, s34_158, s34_161, s34_162, s34_165, s34_166, s34_167, s34_168, s34_169, s34_170, s34_173, s34_174, s34_177, s34_178, s34_179, s34_180, simprocAttr, if_true, if_false, true_and, and_true, false_and, and_false, not_false_eq_true, not_true_eq_false, gd_T, kont_i, kont_v]
  by_cases hb : b = 0
  · subst hb
    simp only [not_true_eq_false, simprocAttr, if_true, if_false, true_and, and_true, false_and, and_false, not_false_eq_true, not_true_eq_false, gd_T, kont_i, kont_v]
  · rw [gd_pos hb]
    simp only [hb, simprocAttr, if_true, if_false, true_and, and_true, false_and, and_false, not_false_eq_true, not_true_eq_false, gd_T, kont_i, kont_v]
theorem sub_20000 (s : Int32) : 20000 + s - 20000 = s := by
  rw [Int32.add_comm, Int32.add_sub_cancel]
theorem en_lt {c : Int32} (h : c < 20000) : enI c = c := if_pos h
theorem en_ge {c : Int32} (h : ¬ c < 20000) : enI c = 20000 + sgI c := if_neg h
theorem en_20010 : enI 20010 = 20033 := by decide +kernel
theorem en_nlt {c : Int32} (h : ¬ c < 20000) : ¬ enI c < 20000 := by
  rw [en_ge h]
  unfold sgI
  repeat' split
  all_goals decide +kernel
theorem en_n33 {c : Int32} (h : ¬ c < 20000) (h33 : ¬ c = 20010) : ¬ enI c = 20033 := by
  rw [en_ge h]
  unfold sgI
  repeat' split
  all_goals first | decide +kernel | (exfalso; contradiction)
theorem k_work_l_0 (d : Nat) (σ : Hs) (T : Nat → Int32) (cnt : Nat) (hcnt : σ 16 1 = nI cnt) (hc60 : cnt ≤ 60) (hco : ∀ k, k < cnt → σ 17 k = enI (T (360 + k))) (l1 : Value) (a b c e : Int32) : ∀ m i n (F : Nat → Int32) (l9 : Value), wfV (cdL T (360 + i) m) n → n + m ≤ 60 → i + m = cnt →
    ∃ F', ru (d + 1) 33 14 [.ref 13, l1, .int a, .int b, .int c, .int e, .int (nI n), .ref 16, .int (nI i), l9] [] (rep σ 15 F) = some (some (.int ((evV (nmF a b c e) (cdL T (360 + i) m) (stk F n)).headD 0)), rep σ 15 F') := by
  intro m
  induction m with
  | zero =>
    intro i n F l9 hw hn hi
    have hi31 : i < 2147483648 := by omega
    have hw1 : n = 1 := hw
    subst hw1
    refine ⟨F, ?_⟩
    have e0 : (nI 1 ≤ 0) = False := eq_false (by decide +kernel)
    have e1 : nI 1 - 1 = 0 := by decide +kernel
    simp only [s33_14]
    simp only [s33_16, s33_18_o16, s33_18_o18, s33_18_o20, s33_21, s33_241, s33_243, s33_246, s33_247_o13, s33_250, s33_252, s33_253, s33_254_o15, s33_255, s33_258, s33_259, rep_at, hcnt, le_nn (show cnt < 2147483648 by omega) hi31, e0, e1, vp_lit, simprocAttr, if_true, if_false, true_and, and_true, false_and, and_false, not_false_eq_true, not_true_eq_false, gd_T, kont_i, kont_v]
    rw [if_pos (by omega)]
    rfl
  | succ m ih =>
    intro i n F l9 hw hn hi
    have hi31 : i < 2147483648 := by omega
    have hi60 : i < 60 := by omega
    have hn60 : n < 60 := by omega
    have hn31 : n < 2147483648 := by omega
    obtain ⟨q, hq⟩ : ∃ q, q = T (360 + i) := ⟨_, rfl⟩
    have hcd : cdL T (360 + i) (m + 1) = q :: cdL T (360 + (i + 1)) m := by rw [cdL, ← hq]; rfl
    have hqc : σ 17 i = enI q := by rw [hco i (by omega), ← hq]
    rw [hcd] at hw ⊢
    simp only [s33_14]
    simp only [s33_16, s33_18_o16, s33_18_o18, s33_18_o20, s33_21, s33_24, s33_26_o16, s33_26_o18, s33_26_o20, s33_29, s33_31_o17, s33_31_o19, s33_31_o21, s33_32, s33_34, s33_36, s33_39, rep_at, hcnt, le_nn (show cnt < 2147483648 by omega) hi31, vp_nI hi60, cl_nI hi31, hqc, simprocAttr, if_true, if_false, true_and, and_true, false_and, and_false, not_false_eq_true, not_true_eq_false, gd_T, kont_i, kont_v]
    rw [if_neg (show ¬ cnt ≤ i by omega)]
    simp only [evV, stpV]
    rcases hw with ⟨h1, h2, h3, h4⟩ | ⟨h1, h2, h3, h4⟩ | ⟨h1, h2, h3, h4⟩
    · rw [en_lt h1, if_neg (Int32.not_le.mpr h1), if_pos h1]
      have e60 : (nI n < 60) = True := eq_true (by rw [show (60 : Int32) = nI 60 from rfl, lt_nn hn31 (by omega)]; exact hn60)
      by_cases h10 : q < 10000
      · rw [if_pos h10]
        obtain ⟨F', hi⟩ := ih (i + 1) (n + 1) (upd F n q) (.int q) h4 (by omega) (by omega)
        rw [stk_push] at hi
        refine ⟨F', ?_⟩
        have n0 : (q = 10000) = False := eq_false (fun h => by subst h; exact absurd h10 (by decide +kernel))
        have n1 : (q = 10001) = False := eq_false (fun h => by subst h; exact absurd h10 (by decide +kernel))
        have n2 : (q = 10002) = False := eq_false (fun h => by subst h; exact absurd h10 (by decide +kernel))
        have n3 : (q = 10003) = False := eq_false (fun h => by subst h; exact absurd h10 (by decide +kernel))
        rw [← hi]
        simp only [s33_42, s33_44, s33_46, s33_49, s33_50, s33_51, s33_53, s33_84, s33_85_o13, s33_88, s33_90, s33_91_o15, s33_92, s33_95, s33_96_o13, s33_99, s33_101, s33_102_o15, s33_103, s33_106, s33_107_o13, s33_110, s33_112, s33_114_o15, s33_115, s33_118, s33_119_o13, s33_122, s33_124, s33_126_o15, s33_127, s33_130, s33_131_o13, s33_134, s33_136, s33_138_o15, s33_139, s33_142, s33_235, s33_238, e60, n0, n1, n2, n3, vp_nI hn60, cl_nI hn31, up2_rep, rep_rep, rep_at, nI_1, simprocAttr, if_true, if_false, true_and, and_true, false_and, and_false, not_false_eq_true, not_true_eq_false, gd_T, kont_i, kont_v]
      · rw [if_neg h10]
        obtain ⟨j, hj, hcj⟩ := name_j h2 h3 h10
        have hqj : q = nI (10000 + j) := by
          rw [← nI_add, ← hcj, show nI 10000 = (10000 : Int32) from rfl, Int32.add_comm, Int32.sub_add_cancel]
        obtain ⟨F', hi⟩ := ih (i + 1) (n + 1) (upd F n (nmF a b c e j)) (.int q) h4 (by omega) (by omega)
        rw [stk_push] at hi
        refine ⟨F', ?_⟩
        rw [hcj, cl_nI (by omega), ← hi]
        have hjj : j = 0 ∨ j = 1 ∨ j = 2 ∨ j = 3 := by omega
        rcases hjj with rfl | rfl | rfl | rfl
        · rw [hqj, show nI (10000 + 0) = 10000 from rfl]
          simp only [s33_42, s33_44, s33_46, s33_49, s33_50, s33_51, s33_53, s33_84, s33_85_o13, s33_88, s33_90, s33_91_o15, s33_92, s33_95, s33_96_o13, s33_99, s33_101, s33_102_o15, s33_103, s33_106, s33_107_o13, s33_110, s33_112, s33_114_o15, s33_115, s33_118, s33_119_o13, s33_122, s33_124, s33_126_o15, s33_127, s33_130, s33_131_o13, s33_134, s33_136, s33_138_o15, s33_139, s33_142, s33_235, s33_238, e60, vp_nI hn60, cl_nI hn31, up2_rep, rep_rep, rep_at, nI_1, simprocAttr, if_true, if_false, true_and, and_true, false_and, and_false, not_false_eq_true, not_true_eq_false, gd_T, kont_i, kont_v]
          rfl
        · rw [hqj, show nI (10000 + 1) = 10001 from rfl]
          simp only [s33_42, s33_44, s33_46, s33_49, s33_50, s33_51, s33_53, s33_84, s33_85_o13, s33_88, s33_90, s33_91_o15, s33_92, s33_95, s33_96_o13, s33_99, s33_101, s33_102_o15, s33_103, s33_106, s33_107_o13, s33_110, s33_112, s33_114_o15, s33_115, s33_118, s33_119_o13, s33_122, s33_124, s33_126_o15, s33_127, s33_130, s33_131_o13, s33_134, s33_136, s33_138_o15, s33_139, s33_142, s33_235, s33_238, e60, vp_nI hn60, cl_nI hn31, up2_rep, rep_rep, rep_at, nI_1, simprocAttr, if_true, if_false, true_and, and_true, false_and, and_false, not_false_eq_true, not_true_eq_false, gd_T, kont_i, kont_v]
          rfl
        · rw [hqj, show nI (10000 + 2) = 10002 from rfl]
          simp only [s33_42, s33_44, s33_46, s33_49, s33_50, s33_51, s33_53, s33_84, s33_85_o13, s33_88, s33_90, s33_91_o15, s33_92, s33_95, s33_96_o13, s33_99, s33_101, s33_102_o15, s33_103, s33_106, s33_107_o13, s33_110, s33_112, s33_114_o15, s33_115, s33_118, s33_119_o13, s33_122, s33_124, s33_126_o15, s33_127, s33_130, s33_131_o13, s33_134, s33_136, s33_138_o15, s33_139, s33_142, s33_235, s33_238, e60, vp_nI hn60, cl_nI hn31, up2_rep, rep_rep, rep_at, nI_1, simprocAttr, if_true, if_false, true_and, and_true, false_and, and_false, not_false_eq_true, not_true_eq_false, gd_T, kont_i, kont_v]
          rfl
        · rw [hqj, show nI (10000 + 3) = 10003 from rfl]
          simp only [s33_42, s33_44, s33_46, s33_49, s33_50, s33_51, s33_53, s33_84, s33_85_o13, s33_88, s33_90, s33_91_o15, s33_92, s33_95, s33_96_o13, s33_99, s33_101, s33_102_o15, s33_103, s33_106, s33_107_o13, s33_110, s33_112, s33_114_o15, s33_115, s33_118, s33_119_o13, s33_122, s33_124, s33_126_o15, s33_127, s33_130, s33_131_o13, s33_134, s33_136, s33_138_o15, s33_139, s33_142, s33_235, s33_238, e60, vp_nI hn60, cl_nI hn31, up2_rep, rep_rep, rep_at, nI_1, simprocAttr, if_true, if_false, true_and, and_true, false_and, and_false, not_false_eq_true, not_true_eq_false, gd_T, kont_i, kont_v]
          rfl
    · subst h2
      obtain ⟨n, rfl⟩ : ∃ q, n = q + 1 := ⟨n - 1, by omega⟩
      have hq60 : n < 60 := by omega
      have hq31 : n < 2147483648 := by omega
      obtain ⟨F', hi⟩ := ih (i + 1) (n + 1) (upd F n (if F n = 0 then 1 else 0)) (.int 20033) h4 (by omega) (by omega)
      rw [stk_push] at hi
      refine ⟨F', ?_⟩
      have e1 : (1 ≤ nI (n + 1)) = True := eq_true (by rw [show (1 : Int32) = nI 1 from rfl, le_nn (by omega) hn31]; omega)
      rw [en_20010]
      simp only [stk, simprocAttr, if_true, if_false, true_and, and_true, false_and, and_false, not_false_eq_true, not_true_eq_false, gd_T, kont_i, kont_v]
      rw [← hi]
      simp only [s33_145, s33_147, s33_150, s33_153, s33_155, s33_156, s33_159, s33_160, s33_161, s33_162_o13, s33_165, s33_167, s33_168, s33_169, s33_170_o13, s33_173, s33_175, s33_176, s33_177_o15, s33_178, s33_181, s33_182, s33_185, s33_186_o15, s33_187, s33_235, s33_238, e1, nI_pred, vp_nI hq60, cl_nI hq31, up2_rep, rep_rep, rep_at, nI_1, simprocAttr, if_true, if_false, true_and, and_true, false_and, and_false, not_false_eq_true, not_true_eq_false, gd_T, kont_i, kont_v]
      by_cases h0 : F n = 0
      · simp only [h0, simprocAttr, if_true, if_false, true_and, and_true, false_and, and_false, not_false_eq_true, not_true_eq_false, gd_T, kont_i, kont_v]
      · simp only [h0, simprocAttr, if_true, if_false, true_and, and_true, false_and, and_false, not_false_eq_true, not_true_eq_false, gd_T, kont_i, kont_v]
    · obtain ⟨n, rfl⟩ : ∃ q, n = q + 2 := ⟨n - 2, by omega⟩
      have hq60 : n < 60 := by omega
      have hq31 : n < 2147483648 := by omega
      have hr60 : n + 1 < 60 := by omega
      have hr31 : n + 1 < 2147483648 := by omega
      obtain ⟨F', hi⟩ := ih (i + 1) (n + 1) (upd F n (doneI q (F n) (F (n + 1)))) (.int (enI q)) h4 (by omega) (by omega)
      rw [stk_push] at hi
      refine ⟨F', ?_⟩
      have e2 : (2 ≤ nI (n + 2)) = True := eq_true (by rw [show (2 : Int32) = nI 2 from rfl, le_nn (by omega) hn31]; omega)
      have hsg : enI q - 20000 = sgI q := by rw [en_ge h1, sub_20000]
      rw [if_neg h1, if_neg h2]
      simp only [stk, simprocAttr, if_true, if_false, true_and, and_true, false_and, and_false, not_false_eq_true, not_true_eq_false, gd_T, kont_i, kont_v]
      rw [← hi, if_pos (Int32.not_lt.mp (en_nlt h1))]
      simp only [s33_145, s33_147, s33_150, s33_190, s33_192, s33_193, s33_196, s33_197, s33_198, s33_201, s33_202_o13, s33_205, s33_207, s33_208, s33_209, s33_211, s33_214, s33_215, s33_216_o13, s33_219, s33_221, s33_222, s33_223_o15, s33_224, s33_225_o13, s33_228, s33_230_o15, s33_231, s33_234_o15, s33_235, s33_238, e2, hsg, k_joined _ _ _ _ h2, pk_m1, nI_pred, vp_nI hq60, cl_nI hq31, vp_nI hr60, cl_nI hr31, up2_rep, rep_rep, rep_at, nI_1, simprocAttr, if_true, if_false, true_and, and_true, false_and, and_false, not_false_eq_true, not_true_eq_false, gd_T, kont_i, kont_v]
      rw [if_neg (en_n33 h1 h2)]
theorem k_work_l_1 (d : Nat) (σ : Hs) (T : Nat → Int32) (cnt : Nat) (hcnt : σ 18 1 = nI cnt) (hc60 : cnt ≤ 60) (hco : ∀ k, k < cnt → σ 19 k = enI (T (422 + k))) (l1 : Value) (a b c e : Int32) : ∀ m i n (F : Nat → Int32) (l9 : Value), wfV (cdL T (422 + i) m) n → n + m ≤ 60 → i + m = cnt →
    ∃ F', ru (d + 1) 33 14 [.ref 13, l1, .int a, .int b, .int c, .int e, .int (nI n), .ref 18, .int (nI i), l9] [] (rep σ 15 F) = some (some (.int ((evV (nmF a b c e) (cdL T (422 + i) m) (stk F n)).headD 0)), rep σ 15 F') := by
  intro m
  induction m with
  | zero =>
    intro i n F l9 hw hn hi
    have hi31 : i < 2147483648 := by omega
    have hw1 : n = 1 := hw
    subst hw1
    refine ⟨F, ?_⟩
    have e0 : (nI 1 ≤ 0) = False := eq_false (by decide +kernel)
    have e1 : nI 1 - 1 = 0 := by decide +kernel
    simp only [s33_14]
    simp only [s33_16, s33_18_o16, s33_18_o18, s33_18_o20, s33_21, s33_241, s33_243, s33_246, s33_247_o13, s33_250, s33_252, s33_253, s33_254_o15, s33_255, s33_258, s33_259, rep_at, hcnt, le_nn (show cnt < 2147483648 by omega) hi31, e0, e1, vp_lit, simprocAttr, if_true, if_false, true_and, and_true, false_and, and_false, not_false_eq_true, not_true_eq_false, gd_T, kont_i, kont_v]
    rw [if_pos (by omega)]
    rfl
  | succ m ih =>
    intro i n F l9 hw hn hi
    have hi31 : i < 2147483648 := by omega
    have hi60 : i < 60 := by omega
    have hn60 : n < 60 := by omega
    have hn31 : n < 2147483648 := by omega
    obtain ⟨q, hq⟩ : ∃ q, q = T (422 + i) := ⟨_, rfl⟩
    have hcd : cdL T (422 + i) (m + 1) = q :: cdL T (422 + (i + 1)) m := by rw [cdL, ← hq]; rfl
    have hqc : σ 19 i = enI q := by rw [hco i (by omega), ← hq]
    rw [hcd] at hw ⊢
    simp only [s33_14]
    simp only [s33_16, s33_18_o16, s33_18_o18, s33_18_o20, s33_21, s33_24, s33_26_o16, s33_26_o18, s33_26_o20, s33_29, s33_31_o17, s33_31_o19, s33_31_o21, s33_32, s33_34, s33_36, s33_39, rep_at, hcnt, le_nn (show cnt < 2147483648 by omega) hi31, vp_nI hi60, cl_nI hi31, hqc, simprocAttr, if_true, if_false, true_and, and_true, false_and, and_false, not_false_eq_true, not_true_eq_false, gd_T, kont_i, kont_v]
    rw [if_neg (show ¬ cnt ≤ i by omega)]
    simp only [evV, stpV]
    rcases hw with ⟨h1, h2, h3, h4⟩ | ⟨h1, h2, h3, h4⟩ | ⟨h1, h2, h3, h4⟩
    · rw [en_lt h1, if_neg (Int32.not_le.mpr h1), if_pos h1]
      have e60 : (nI n < 60) = True := eq_true (by rw [show (60 : Int32) = nI 60 from rfl, lt_nn hn31 (by omega)]; exact hn60)
      by_cases h10 : q < 10000
      · rw [if_pos h10]
        obtain ⟨F', hi⟩ := ih (i + 1) (n + 1) (upd F n q) (.int q) h4 (by omega) (by omega)
        rw [stk_push] at hi
        refine ⟨F', ?_⟩
        have n0 : (q = 10000) = False := eq_false (fun h => by subst h; exact absurd h10 (by decide +kernel))
        have n1 : (q = 10001) = False := eq_false (fun h => by subst h; exact absurd h10 (by decide +kernel))
        have n2 : (q = 10002) = False := eq_false (fun h => by subst h; exact absurd h10 (by decide +kernel))
        have n3 : (q = 10003) = False := eq_false (fun h => by subst h; exact absurd h10 (by decide +kernel))
        rw [← hi]
        simp only [s33_42, s33_44, s33_46, s33_49, s33_50, s33_51, s33_53, s33_84, s33_85_o13, s33_88, s33_90, s33_91_o15, s33_92, s33_95, s33_96_o13, s33_99, s33_101, s33_102_o15, s33_103, s33_106, s33_107_o13, s33_110, s33_112, s33_114_o15, s33_115, s33_118, s33_119_o13, s33_122, s33_124, s33_126_o15, s33_127, s33_130, s33_131_o13, s33_134, s33_136, s33_138_o15, s33_139, s33_142, s33_235, s33_238, e60, n0, n1, n2, n3, vp_nI hn60, cl_nI hn31, up2_rep, rep_rep, rep_at, nI_1, simprocAttr, if_true, if_false, true_and, and_true, false_and, and_false, not_false_eq_true, not_true_eq_false, gd_T, kont_i, kont_v]
      · rw [if_neg h10]
        obtain ⟨j, hj, hcj⟩ := name_j h2 h3 h10
        have hqj : q = nI (10000 + j) := by
          rw [← nI_add, ← hcj, show nI 10000 = (10000 : Int32) from rfl, Int32.add_comm, Int32.sub_add_cancel]
        obtain ⟨F', hi⟩ := ih (i + 1) (n + 1) (upd F n (nmF a b c e j)) (.int q) h4 (by omega) (by omega)
        rw [stk_push] at hi
        refine ⟨F', ?_⟩
        rw [hcj, cl_nI (by omega), ← hi]
        have hjj : j = 0 ∨ j = 1 ∨ j = 2 ∨ j = 3 := by omega
        rcases hjj with rfl | rfl | rfl | rfl
        · rw [hqj, show nI (10000 + 0) = 10000 from rfl]
          simp only [s33_42, s33_44, s33_46, s33_49, s33_50, s33_51, s33_53, s33_84, s33_85_o13, s33_88, s33_90, s33_91_o15, s33_92, s33_95, s33_96_o13, s33_99, s33_101, s33_102_o15, s33_103, s33_106, s33_107_o13, s33_110, s33_112, s33_114_o15, s33_115, s33_118, s33_119_o13, s33_122, s33_124, s33_126_o15, s33_127, s33_130, s33_131_o13, s33_134, s33_136, s33_138_o15, s33_139, s33_142, s33_235, s33_238, e60, vp_nI hn60, cl_nI hn31, up2_rep, rep_rep, rep_at, nI_1, simprocAttr, if_true, if_false, true_and, and_true, false_and, and_false, not_false_eq_true, not_true_eq_false, gd_T, kont_i, kont_v]
          rfl
        · rw [hqj, show nI (10000 + 1) = 10001 from rfl]
          simp only [s33_42, s33_44, s33_46, s33_49, s33_50, s33_51, s33_53, s33_84, s33_85_o13, s33_88, s33_90, s33_91_o15, s33_92, s33_95, s33_96_o13, s33_99, s33_101, s33_102_o15, s33_103, s33_106, s33_107_o13, s33_110, s33_112, s33_114_o15, s33_115, s33_118, s33_119_o13, s33_122, s33_124, s33_126_o15, s33_127, s33_130, s33_131_o13, s33_134, s33_136, s33_138_o15, s33_139, s33_142, s33_235, s33_238, e60, vp_nI hn60, cl_nI hn31, up2_rep, rep_rep, rep_at, nI_1, simprocAttr, if_true, if_false, true_and, and_true, false_and, and_false, not_false_eq_true, not_true_eq_false, gd_T, kont_i, kont_v]
          rfl
        · rw [hqj, show nI (10000 + 2) = 10002 from rfl]
          simp only [s33_42, s33_44, s33_46, s33_49, s33_50, s33_51, s33_53, s33_84, s33_85_o13, s33_88, s33_90, s33_91_o15, s33_92, s33_95, s33_96_o13, s33_99, s33_101, s33_102_o15, s33_103, s33_106, s33_107_o13, s33_110, s33_112, s33_114_o15, s33_115, s33_118, s33_119_o13, s33_122, s33_124, s33_126_o15, s33_127, s33_130, s33_131_o13, s33_134, s33_136, s33_138_o15, s33_139, s33_142, s33_235, s33_238, e60, vp_nI hn60, cl_nI hn31, up2_rep, rep_rep, rep_at, nI_1, simprocAttr, if_true, if_false, true_and, and_true, false_and, and_false, not_false_eq_true, not_true_eq_false, gd_T, kont_i, kont_v]
          rfl
        · rw [hqj, show nI (10000 + 3) = 10003 from rfl]
          simp only [s33_42, s33_44, s33_46, s33_49, s33_50, s33_51, s33_53, s33_84, s33_85_o13, s33_88, s33_90, s33_91_o15, s33_92, s33_95, s33_96_o13, s33_99, s33_101, s33_102_o15, s33_103, s33_106, s33_107_o13, s33_110, s33_112, s33_114_o15, s33_115, s33_118, s33_119_o13, s33_122, s33_124, s33_126_o15, s33_127, s33_130, s33_131_o13, s33_134, s33_136, s33_138_o15, s33_139, s33_142, s33_235, s33_238, e60, vp_nI hn60, cl_nI hn31, up2_rep, rep_rep, rep_at, nI_1, simprocAttr, if_true, if_false, true_and, and_true, false_and, and_false, not_false_eq_true, not_true_eq_false, gd_T, kont_i, kont_v]
          rfl
    · subst h2
      obtain ⟨n, rfl⟩ : ∃ q, n = q + 1 := ⟨n - 1, by omega⟩
      have hq60 : n < 60 := by omega
      have hq31 : n < 2147483648 := by omega
      obtain ⟨F', hi⟩ := ih (i + 1) (n + 1) (upd F n (if F n = 0 then 1 else 0)) (.int 20033) h4 (by omega) (by omega)
      rw [stk_push] at hi
      refine ⟨F', ?_⟩
      have e1 : (1 ≤ nI (n + 1)) = True := eq_true (by rw [show (1 : Int32) = nI 1 from rfl, le_nn (by omega) hn31]; omega)
      rw [en_20010]
      simp only [stk, simprocAttr, if_true, if_false, true_and, and_true, false_and, and_false, not_false_eq_true, not_true_eq_false, gd_T, kont_i, kont_v]
      rw [← hi]
      simp only [s33_145, s33_147, s33_150, s33_153, s33_155, s33_156, s33_159, s33_160, s33_161, s33_162_o13, s33_165, s33_167, s33_168, s33_169, s33_170_o13, s33_173, s33_175, s33_176, s33_177_o15, s33_178, s33_181, s33_182, s33_185, s33_186_o15, s33_187, s33_235, s33_238, e1, nI_pred, vp_nI hq60, cl_nI hq31, up2_rep, rep_rep, rep_at, nI_1, simprocAttr, if_true, if_false, true_and, and_true, false_and, and_false, not_false_eq_true, not_true_eq_false, gd_T, kont_i, kont_v]
      by_cases h0 : F n = 0
      · simp only [h0, simprocAttr, if_true, if_false, true_and, and_true, false_and, and_false, not_false_eq_true, not_true_eq_false, gd_T, kont_i, kont_v]
      · simp only [h0, simprocAttr, if_true, if_false, true_and, and_true, false_and, and_false, not_false_eq_true, not_true_eq_false, gd_T, kont_i, kont_v]
    · obtain ⟨n, rfl⟩ : ∃ q, n = q + 2 := ⟨n - 2, by omega⟩
      have hq60 : n < 60 := by omega
      have hq31 : n < 2147483648 := by omega
      have hr60 : n + 1 < 60 := by omega
      have hr31 : n + 1 < 2147483648 := by omega
      obtain ⟨F', hi⟩ := ih (i + 1) (n + 1) (upd F n (doneI q (F n) (F (n + 1)))) (.int (enI q)) h4 (by omega) (by omega)
      rw [stk_push] at hi
      refine ⟨F', ?_⟩
      have e2 : (2 ≤ nI (n + 2)) = True := eq_true (by rw [show (2 : Int32) = nI 2 from rfl, le_nn (by omega) hn31]; omega)
      have hsg : enI q - 20000 = sgI q := by rw [en_ge h1, sub_20000]
      rw [if_neg h1, if_neg h2]
      simp only [stk, simprocAttr, if_true, if_false, true_and, and_true, false_and, and_false, not_false_eq_true, not_true_eq_false, gd_T, kont_i, kont_v]
      rw [← hi, if_pos (Int32.not_lt.mp (en_nlt h1))]
      simp only [s33_145, s33_147, s33_150, s33_190, s33_192, s33_193, s33_196, s33_197, s33_198, s33_201, s33_202_o13, s33_205, s33_207, s33_208, s33_209, s33_211, s33_214, s33_215, s33_216_o13, s33_219, s33_221, s33_222, s33_223_o15, s33_224, s33_225_o13, s33_228, s33_230_o15, s33_231, s33_234_o15, s33_235, s33_238, e2, hsg, k_joined _ _ _ _ h2, pk_m1, nI_pred, vp_nI hq60, cl_nI hq31, vp_nI hr60, cl_nI hr31, up2_rep, rep_rep, rep_at, nI_1, simprocAttr, if_true, if_false, true_and, and_true, false_and, and_false, not_false_eq_true, not_true_eq_false, gd_T, kont_i, kont_v]
      rw [if_neg (en_n33 h1 h2)]
theorem k_work_l_2 (d : Nat) (σ : Hs) (T : Nat → Int32) (cnt : Nat) (hcnt : σ 20 1 = nI cnt) (hc60 : cnt ≤ 60) (hco : ∀ k, k < cnt → σ 21 k = enI (T (484 + k))) (l1 : Value) (a b c e : Int32) : ∀ m i n (F : Nat → Int32) (l9 : Value), wfV (cdL T (484 + i) m) n → n + m ≤ 60 → i + m = cnt →
    ∃ F', ru (d + 1) 33 14 [.ref 13, l1, .int a, .int b, .int c, .int e, .int (nI n), .ref 20, .int (nI i), l9] [] (rep σ 15 F) = some (some (.int ((evV (nmF a b c e) (cdL T (484 + i) m) (stk F n)).headD 0)), rep σ 15 F') := by
  intro m
  induction m with
  | zero =>
    intro i n F l9 hw hn hi
    have hi31 : i < 2147483648 := by omega
    have hw1 : n = 1 := hw
    subst hw1
    refine ⟨F, ?_⟩
    have e0 : (nI 1 ≤ 0) = False := eq_false (by decide +kernel)
    have e1 : nI 1 - 1 = 0 := by decide +kernel
    simp only [s33_14]
    simp only [s33_16, s33_18_o16, s33_18_o18, s33_18_o20, s33_21, s33_241, s33_243, s33_246, s33_247_o13, s33_250, s33_252, s33_253, s33_254_o15, s33_255, s33_258, s33_259, rep_at, hcnt, le_nn (show cnt < 2147483648 by omega) hi31, e0, e1, vp_lit, simprocAttr, if_true, if_false, true_and, and_true, false_and, and_false, not_false_eq_true, not_true_eq_false, gd_T, kont_i, kont_v]
    rw [if_pos (by omega)]
    rfl
  | succ m ih =>
    intro i n F l9 hw hn hi
    have hi31 : i < 2147483648 := by omega
    have hi60 : i < 60 := by omega
    have hn60 : n < 60 := by omega
    have hn31 : n < 2147483648 := by omega
    obtain ⟨q, hq⟩ : ∃ q, q = T (484 + i) := ⟨_, rfl⟩
    have hcd : cdL T (484 + i) (m + 1) = q :: cdL T (484 + (i + 1)) m := by rw [cdL, ← hq]; rfl
    have hqc : σ 21 i = enI q := by rw [hco i (by omega), ← hq]
    rw [hcd] at hw ⊢
    simp only [s33_14]
    simp only [s33_16, s33_18_o16, s33_18_o18, s33_18_o20, s33_21, s33_24, s33_26_o16, s33_26_o18, s33_26_o20, s33_29, s33_31_o17, s33_31_o19, s33_31_o21, s33_32, s33_34, s33_36, s33_39, rep_at, hcnt, le_nn (show cnt < 2147483648 by omega) hi31, vp_nI hi60, cl_nI hi31, hqc, simprocAttr, if_true, if_false, true_and, and_true, false_and, and_false, not_false_eq_true, not_true_eq_false, gd_T, kont_i, kont_v]
    rw [if_neg (show ¬ cnt ≤ i by omega)]
    simp only [evV, stpV]
    rcases hw with ⟨h1, h2, h3, h4⟩ | ⟨h1, h2, h3, h4⟩ | ⟨h1, h2, h3, h4⟩
    · rw [en_lt h1, if_neg (Int32.not_le.mpr h1), if_pos h1]
      have e60 : (nI n < 60) = True := eq_true (by rw [show (60 : Int32) = nI 60 from rfl, lt_nn hn31 (by omega)]; exact hn60)
      by_cases h10 : q < 10000
      · rw [if_pos h10]
        obtain ⟨F', hi⟩ := ih (i + 1) (n + 1) (upd F n q) (.int q) h4 (by omega) (by omega)
        rw [stk_push] at hi
        refine ⟨F', ?_⟩
        have n0 : (q = 10000) = False := eq_false (fun h => by subst h; exact absurd h10 (by decide +kernel))
        have n1 : (q = 10001) = False := eq_false (fun h => by subst h; exact absurd h10 (by decide +kernel))
        have n2 : (q = 10002) = False := eq_false (fun h => by subst h; exact absurd h10 (by decide +kernel))
        have n3 : (q = 10003) = False := eq_false (fun h => by subst h; exact absurd h10 (by decide +kernel))
        rw [← hi]
        simp only [s33_42, s33_44, s33_46, s33_49, s33_50, s33_51, s33_53, s33_84, s33_85_o13, s33_88, s33_90, s33_91_o15, s33_92, s33_95, s33_96_o13, s33_99, s33_101, s33_102_o15, s33_103, s33_106, s33_107_o13, s33_110, s33_112, s33_114_o15, s33_115, s33_118, s33_119_o13, s33_122, s33_124, s33_126_o15, s33_127, s33_130, s33_131_o13, s33_134, s33_136, s33_138_o15, s33_139, s33_142, s33_235, s33_238, e60, n0, n1, n2, n3, vp_nI hn60, cl_nI hn31, up2_rep, rep_rep, rep_at, nI_1, simprocAttr, if_true, if_false, true_and, and_true, false_and, and_false, not_false_eq_true, not_true_eq_false, gd_T, kont_i, kont_v]
      · rw [if_neg h10]
        obtain ⟨j, hj, hcj⟩ := name_j h2 h3 h10
        have hqj : q = nI (10000 + j) := by
          rw [← nI_add, ← hcj, show nI 10000 = (10000 : Int32) from rfl, Int32.add_comm, Int32.sub_add_cancel]
        obtain ⟨F', hi⟩ := ih (i + 1) (n + 1) (upd F n (nmF a b c e j)) (.int q) h4 (by omega) (by omega)
        rw [stk_push] at hi
        refine ⟨F', ?_⟩
        rw [hcj, cl_nI (by omega), ← hi]
        have hjj : j = 0 ∨ j = 1 ∨ j = 2 ∨ j = 3 := by omega
        rcases hjj with rfl | rfl | rfl | rfl
        · rw [hqj, show nI (10000 + 0) = 10000 from rfl]
          simp only [s33_42, s33_44, s33_46, s33_49, s33_50, s33_51, s33_53, s33_84, s33_85_o13, s33_88, s33_90, s33_91_o15, s33_92, s33_95, s33_96_o13, s33_99, s33_101, s33_102_o15, s33_103, s33_106, s33_107_o13, s33_110, s33_112, s33_114_o15, s33_115, s33_118, s33_119_o13, s33_122, s33_124, s33_126_o15, s33_127, s33_130, s33_131_o13, s33_134, s33_136, s33_138_o15, s33_139, s33_142, s33_235, s33_238, e60, vp_nI hn60, cl_nI hn31, up2_rep, rep_rep, rep_at, nI_1, simprocAttr, if_true, if_false, true_and, and_true, false_and, and_false, not_false_eq_true, not_true_eq_false, gd_T, kont_i, kont_v]
          rfl
        · rw [hqj, show nI (10000 + 1) = 10001 from rfl]
          simp only [s33_42, s33_44, s33_46, s33_49, s33_50, s33_51, s33_53, s33_84, s33_85_o13, s33_88, s33_90, s33_91_o15, s33_92, s33_95, s33_96_o13, s33_99, s33_101, s33_102_o15, s33_103, s33_106, s33_107_o13, s33_110, s33_112, s33_114_o15, s33_115, s33_118, s33_119_o13, s33_122, s33_124, s33_126_o15, s33_127, s33_130, s33_131_o13, s33_134, s33_136, s33_138_o15, s33_139, s33_142, s33_235, s33_238, e60, vp_nI hn60, cl_nI hn31, up2_rep, rep_rep, rep_at, nI_1, simprocAttr, if_true, if_false, true_and, and_true, false_and, and_false, not_false_eq_true, not_true_eq_false, gd_T, kont_i, kont_v]
          rfl
        · rw [hqj, show nI (10000 + 2) = 10002 from rfl]
          simp only [s33_42, s33_44, s33_46, s33_49, s33_50, s33_51, s33_53, s33_84, s33_85_o13, s33_88, s33_90, s33_91_o15, s33_92, s33_95, s33_96_o13, s33_99, s33_101, s33_102_o15, s33_103, s33_106, s33_107_o13, s33_110, s33_112, s33_114_o15, s33_115, s33_118, s33_119_o13, s33_122, s33_124, s33_126_o15, s33_127, s33_130, s33_131_o13, s33_134, s33_136, s33_138_o15, s33_139, s33_142, s33_235, s33_238, e60, vp_nI hn60, cl_nI hn31, up2_rep, rep_rep, rep_at, nI_1, simprocAttr, if_true, if_false, true_and, and_true, false_and, and_false, not_false_eq_true, not_true_eq_false, gd_T, kont_i, kont_v]
          rfl
        · rw [hqj, show nI (10000 + 3) = 10003 from rfl]
          simp only [s33_42, s33_44, s33_46, s33_49, s33_50, s33_51, s33_53, s33_84, s33_85_o13, s33_88, s33_90, s33_91_o15, s33_92, s33_95, s33_96_o13, s33_99, s33_101, s33_102_o15, s33_103, s33_106, s33_107_o13, s33_110, s33_112, s33_114_o15, s33_115, s33_118, s33_119_o13, s33_122, s33_124, s33_126_o15, s33_127, s33_130, s33_131_o13, s33_134, s33_136, s33_138_o15, s33_139, s33_142, s33_235, s33_238, e60, vp_nI hn60, cl_nI hn31, up2_rep, rep_rep, rep_at, nI_1, simprocAttr, if_true, if_false, true_and, and_true, false_and, and_false, not_false_eq_true, not_true_eq_false, gd_T, kont_i, kont_v]
          rfl
    · subst h2
      obtain ⟨n, rfl⟩ : ∃ q, n = q + 1 := ⟨n - 1, by omega⟩
      have hq60 : n < 60 := by omega
      have hq31 : n < 2147483648 := by omega
      obtain ⟨F', hi⟩ := ih (i + 1) (n + 1) (upd F n (if F n = 0 then 1 else 0)) (.int 20033) h4 (by omega) (by omega)
      rw [stk_push] at hi
      refine ⟨F', ?_⟩
      have e1 : (1 ≤ nI (n + 1)) = True := eq_true (by rw [show (1 : Int32) = nI 1 from rfl, le_nn (by omega) hn31]; omega)
      rw [en_20010]
      simp only [stk, simprocAttr, if_true, if_false, true_and, and_true, false_and, and_false, not_false_eq_true, not_true_eq_false, gd_T, kont_i, kont_v]
      rw [← hi]
      simp only [s33_145, s33_147, s33_150, s33_153, s33_155, s33_156, s33_159, s33_160, s33_161, s33_162_o13, s33_165, s33_167, s33_168, s33_169, s33_170_o13, s33_173, s33_175, s33_176, s33_177_o15, s33_178, s33_181, s33_182, s33_185, s33_186_o15, s33_187, s33_235, s33_238, e1, nI_pred, vp_nI hq60, cl_nI hq31, up2_rep, rep_rep, rep_at, nI_1, simprocAttr, if_true, if_false, true_and, and_true, false_and, and_false, not_false_eq_true, not_true_eq_false, gd_T, kont_i, kont_v]
      by_cases h0 : F n = 0
      · simp only [h0, simprocAttr, if_true, if_false, true_and, and_true, false_and, and_false, not_false_eq_true, not_true_eq_false, gd_T, kont_i, kont_v]
      · simp only [h0, simprocAttr, if_true, if_false, true_and, and_true, false_and, and_false, not_false_eq_true, not_true_eq_false, gd_T, kont_i, kont_v]
    · obtain ⟨n, rfl⟩ : ∃ q, n = q + 2 := ⟨n - 2, by omega⟩
      have hq60 : n < 60 := by omega
      have hq31 : n < 2147483648 := by omega
      have hr60 : n + 1 < 60 := by omega
      have hr31 : n + 1 < 2147483648 := by omega
      obtain ⟨F', hi⟩ := ih (i + 1) (n + 1) (upd F n (doneI q (F n) (F (n + 1)))) (.int (enI q)) h4 (by omega) (by omega)
      rw [stk_push] at hi
      refine ⟨F', ?_⟩
      have e2 : (2 ≤ nI (n + 2)) = True := eq_true (by rw [show (2 : Int32) = nI 2 from rfl, le_nn (by omega) hn31]; omega)
      have hsg : enI q - 20000 = sgI q := by rw [en_ge h1, sub_20000]
      rw [if_neg h1, if_neg h2]
      simp only [stk, simprocAttr, if_true, if_false, true_and, and_true, false_and, and_false, not_false_eq_true, not_true_eq_false, gd_T, kont_i, kont_v]
      rw [← hi, if_pos (Int32.not_lt.mp (en_nlt h1))]
      simp only [s33_145, s33_147, s33_150, s33_190, s33_192, s33_193, s33_196, s33_197, s33_198, s33_201, s33_202_o13, s33_205, s33_207, s33_208, s33_209, s33_211, s33_214, s33_215, s33_216_o13, s33_219, s33_221, s33_222, s33_223_o15, s33_224, s33_225_o13, s33_228, s33_230_o15, s33_231, s33_234_o15, s33_235, s33_238, e2, hsg, k_joined _ _ _ _ h2, pk_m1, nI_pred, vp_nI hq60, cl_nI hq31, vp_nI hr60, cl_nI hr31, up2_rep, rep_rep, rep_at, nI_1, simprocAttr, if_true, if_false, true_and, and_true, false_and, and_false, not_false_eq_true, not_true_eq_false, gd_T, kont_i, kont_v]
      rw [if_neg (en_n33 h1 h2)]
