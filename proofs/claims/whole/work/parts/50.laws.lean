/-! ===== the class: texts ===== -/
def sgI (c : Int32) : Int32 := if c = 20000 then 124 else if c = 20001 then 38 else if c = 20002 then 60 else if c = 20003 then 61 else if c = 20004 then 62 else if c = 20005 then 43 else if c = 20006 then 45 else if c = 20007 then 42 else if c = 20008 then 47 else if c = 20009 then 37 else if c = 20010 then 33 else 0
def enI (c : Int32) : Int32 := if c < 20000 then c else 20000 + sgI c
theorem k_joined (d : Nat) (c a b : Int32) (h33 : ¬ c = 20010) (σ : Hs) : callD (d + 1) 33 [.int (sgI c), .int a, .int b] σ = some (some (.int (doneI c a b)), σ) := by
  unfold sgI doneI
  by_cases c20000 : c = 20000
  · subst c20000
    simp only [c33, s33_0, s33_1, s33_84, s33_85, s33_88, s33_89, s33_92, s33_93, s33_96, s33_97, s33_98, s33_99, s33_102, s33_103, s33_106, s33_107, s33_110, s33_111, s33_112, s33_113, s33_114, s33_117, s33_118, s33_121, s33_122, s33_123, s33_124, s33_125, s33_128, s33_129, s33_132, s33_133, s33_134, s33_135, s33_136, s33_139, s33_140, s33_143, s33_144, s33_145, s33_146, s33_147, s33_148, s33_149, s33_150, s33_151, s33_152, s33_153, s33_154, s33_155, s33_156, s33_157, s33_158, s33_161, s33_162, s33_165, s33_166, s33_167, s33_168, s33_169, s33_170, s33_173, s33_174, s33_177, s33_178, s33_179, s33_180, simprocAttr, if_true, if_false, true_and, and_true, false_and, and_false, not_false_eq_true, not_true_eq_false, gd_T, kont_i, kont_v]
    by_cases hb : b = 0
    · subst hb
      try simp only [not_true_eq_false, simprocAttr, if_true, if_false, true_and, and_true, false_and, and_false, not_false_eq_true, not_true_eq_false, gd_T, kont_i, kont_v]
      repeat' split
      all_goals first | rfl | simp_all
    · first | rw [gd_pos hb] | skip
      try simp only [hb, simprocAttr, if_true, if_false, true_and, and_true, false_and, and_false, not_false_eq_true, not_true_eq_false, gd_T, kont_i, kont_v]
      repeat' split
      all_goals first | rfl | simp_all
  by_cases c20001 : c = 20001
  · subst c20001
    simp only [c33, s33_0, s33_1, s33_84, s33_85, s33_88, s33_89, s33_92, s33_93, s33_96, s33_97, s33_98, s33_99, s33_102, s33_103, s33_106, s33_107, s33_110, s33_111, s33_112, s33_113, s33_114, s33_117, s33_118, s33_121, s33_122, s33_123, s33_124, s33_125, s33_128, s33_129, s33_132, s33_133, s33_134, s33_135, s33_136, s33_139, s33_140, s33_143, s33_144, s33_145, s33_146, s33_147, s33_148, s33_149, s33_150, s33_151, s33_152, s33_153, s33_154, s33_155, s33_156, s33_157, s33_158, s33_161, s33_162, s33_165, s33_166, s33_167, s33_168, s33_169, s33_170, s33_173, s33_174, s33_177, s33_178, s33_179, s33_180, simprocAttr, if_true, if_false, true_and, and_true, false_and, and_false, not_false_eq_true, not_true_eq_false, gd_T, kont_i, kont_v]
    by_cases hb : b = 0
    · subst hb
      try simp only [not_true_eq_false, simprocAttr, if_true, if_false, true_and, and_true, false_and, and_false, not_false_eq_true, not_true_eq_false, gd_T, kont_i, kont_v]
      repeat' split
      all_goals first | rfl | simp_all
    · first | rw [gd_pos hb] | skip
      try simp only [hb, simprocAttr, if_true, if_false, true_and, and_true, false_and, and_false, not_false_eq_true, not_true_eq_false, gd_T, kont_i, kont_v]
      repeat' split
      all_goals first | rfl | simp_all
  by_cases c20002 : c = 20002
  · subst c20002
    simp only [c33, s33_0, s33_1, s33_84, s33_85, s33_88, s33_89, s33_92, s33_93, s33_96, s33_97, s33_98, s33_99, s33_102, s33_103, s33_106, s33_107, s33_110, s33_111, s33_112, s33_113, s33_114, s33_117, s33_118, s33_121, s33_122, s33_123, s33_124, s33_125, s33_128, s33_129, s33_132, s33_133, s33_134, s33_135, s33_136, s33_139, s33_140, s33_143, s33_144, s33_145, s33_146, s33_147, s33_148, s33_149, s33_150, s33_151, s33_152, s33_153, s33_154, s33_155, s33_156, s33_157, s33_158, s33_161, s33_162, s33_165, s33_166, s33_167, s33_168, s33_169, s33_170, s33_173, s33_174, s33_177, s33_178, s33_179, s33_180, simprocAttr, if_true, if_false, true_and, and_true, false_and, and_false, not_false_eq_true, not_true_eq_false, gd_T, kont_i, kont_v]
    by_cases hb : b = 0
    · subst hb
      try simp only [not_true_eq_false, simprocAttr, if_true, if_false, true_and, and_true, false_and, and_false, not_false_eq_true, not_true_eq_false, gd_T, kont_i, kont_v]
      repeat' split
      all_goals first | rfl | simp_all
    · first | rw [gd_pos hb] | skip
      try simp only [hb, simprocAttr, if_true, if_false, true_and, and_true, false_and, and_false, not_false_eq_true, not_true_eq_false, gd_T, kont_i, kont_v]
      repeat' split
      all_goals first | rfl | simp_all
  by_cases c20003 : c = 20003
  · subst c20003
    simp only [c33, s33_0, s33_1, s33_84, s33_85, s33_88, s33_89, s33_92, s33_93, s33_96, s33_97, s33_98, s33_99, s33_102, s33_103, s33_106, s33_107, s33_110, s33_111, s33_112, s33_113, s33_114, s33_117, s33_118, s33_121, s33_122, s33_123, s33_124, s33_125, s33_128, s33_129, s33_132, s33_133, s33_134, s33_135, s33_136, s33_139, s33_140, s33_143, s33_144, s33_145, s33_146, s33_147, s33_148, s33_149, s33_150, s33_151, s33_152, s33_153, s33_154, s33_155, s33_156, s33_157, s33_158, s33_161, s33_162, s33_165, s33_166, s33_167, s33_168, s33_169, s33_170, s33_173, s33_174, s33_177, s33_178, s33_179, s33_180, simprocAttr, if_true, if_false, true_and, and_true, false_and, and_false, not_false_eq_true, not_true_eq_false, gd_T, kont_i, kont_v]
    by_cases hb : b = 0
    · subst hb
      try simp only [not_true_eq_false, simprocAttr, if_true, if_false, true_and, and_true, false_and, and_false, not_false_eq_true, not_true_eq_false, gd_T, kont_i, kont_v]
      repeat' split
      all_goals first | rfl | simp_all
    · first | rw [gd_pos hb] | skip
      try simp only [hb, simprocAttr, if_true, if_false, true_and, and_true, false_and, and_false, not_false_eq_true, not_true_eq_false, gd_T, kont_i, kont_v]
      repeat' split
      all_goals first | rfl | simp_all
  by_cases c20004 : c = 20004
  · subst c20004
    simp only [c33, s33_0, s33_1, s33_84, s33_85, s33_88, s33_89, s33_92, s33_93, s33_96, s33_97, s33_98, s33_99, s33_102, s33_103, s33_106, s33_107, s33_110, s33_111, s33_112, s33_113, s33_114, s33_117, s33_118, s33_121, s33_122, s33_123, s33_124, s33_125, s33_128, s33_129, s33_132, s33_133, s33_134, s33_135, s33_136, s33_139, s33_140, s33_143, s33_144, s33_145, s33_146, s33_147, s33_148, s33_149, s33_150, s33_151, s33_152, s33_153, s33_154, s33_155, s33_156, s33_157, s33_158, s33_161, s33_162, s33_165, s33_166, s33_167, s33_168, s33_169, s33_170, s33_173, s33_174, s33_177, s33_178, s33_179, s33_180, simprocAttr, if_true, if_false, true_and, and_true, false_and, and_false, not_false_eq_true, not_true_eq_false, gd_T, kont_i, kont_v]
    by_cases hb : b = 0
    · subst hb
      try simp only [not_true_eq_false, simprocAttr, if_true, if_false, true_and, and_true, false_and, and_false, not_false_eq_true, not_true_eq_false, gd_T, kont_i, kont_v]
      repeat' split
      all_goals first | rfl | simp_all
    · first | rw [gd_pos hb] | skip
      try simp only [hb, simprocAttr, if_true, if_false, true_and, and_true, false_and, and_false, not_false_eq_true, not_true_eq_false, gd_T, kont_i, kont_v]
      repeat' split
      all_goals first | rfl | simp_all
  by_cases c20005 : c = 20005
  · subst c20005
    simp only [c33, s33_0, s33_1, s33_84, s33_85, s33_88, s33_89, s33_92, s33_93, s33_96, s33_97, s33_98, s33_99, s33_102, s33_103, s33_106, s33_107, s33_110, s33_111, s33_112, s33_113, s33_114, s33_117, s33_118, s33_121, s33_122, s33_123, s33_124, s33_125, s33_128, s33_129, s33_132, s33_133, s33_134, s33_135, s33_136, s33_139, s33_140, s33_143, s33_144, s33_145, s33_146, s33_147, s33_148, s33_149, s33_150, s33_151, s33_152, s33_153, s33_154, s33_155, s33_156, s33_157, s33_158, s33_161, s33_162, s33_165, s33_166, s33_167, s33_168, s33_169, s33_170, s33_173, s33_174, s33_177, s33_178, s33_179, s33_180, simprocAttr, if_true, if_false, true_and, and_true, false_and, and_false, not_false_eq_true, not_true_eq_false, gd_T, kont_i, kont_v]
  by_cases c20006 : c = 20006
  · subst c20006
    simp only [c33, s33_0, s33_1, s33_84, s33_85, s33_88, s33_89, s33_92, s33_93, s33_96, s33_97, s33_98, s33_99, s33_102, s33_103, s33_106, s33_107, s33_110, s33_111, s33_112, s33_113, s33_114, s33_117, s33_118, s33_121, s33_122, s33_123, s33_124, s33_125, s33_128, s33_129, s33_132, s33_133, s33_134, s33_135, s33_136, s33_139, s33_140, s33_143, s33_144, s33_145, s33_146, s33_147, s33_148, s33_149, s33_150, s33_151, s33_152, s33_153, s33_154, s33_155, s33_156, s33_157, s33_158, s33_161, s33_162, s33_165, s33_166, s33_167, s33_168, s33_169, s33_170, s33_173, s33_174, s33_177, s33_178, s33_179, s33_180, simprocAttr, if_true, if_false, true_and, and_true, false_and, and_false, not_false_eq_true, not_true_eq_false, gd_T, kont_i, kont_v]
  by_cases c20007 : c = 20007
  · subst c20007
    simp only [c33, s33_0, s33_1, s33_84, s33_85, s33_88, s33_89, s33_92, s33_93, s33_96, s33_97, s33_98, s33_99, s33_102, s33_103, s33_106, s33_107, s33_110, s33_111, s33_112, s33_113, s33_114, s33_117, s33_118, s33_121, s33_122, s33_123, s33_124, s33_125, s33_128, s33_129, s33_132, s33_133, s33_134, s33_135, s33_136, s33_139, s33_140, s33_143, s33_144, s33_145, s33_146, s33_147, s33_148, s33_149, s33_150, s33_151, s33_152, s33_153, s33_154, s33_155, s33_156, s33_157, s33_158, s33_161, s33_162, s33_165, s33_166, s33_167, s33_168, s33_169, s33_170, s33_173, s33_174, s33_177, s33_178, s33_179, s33_180, simprocAttr, if_true, if_false, true_and, and_true, false_and, and_false, not_false_eq_true, not_true_eq_false, gd_T, kont_i, kont_v]
  by_cases c20008 : c = 20008
  · subst c20008
    simp only [c33, s33_0, s33_1, s33_84, s33_85, s33_88, s33_89, s33_92, s33_93, s33_96, s33_97, s33_98, s33_99, s33_102, s33_103, s33_106, s33_107, s33_110, s33_111, s33_112, s33_113, s33_114, s33_117, s33_118, s33_121, s33_122, s33_123, s33_124, s33_125, s33_128, s33_129, s33_132, s33_133, s33_134, s33_135, s33_136, s33_139, s33_140, s33_143, s33_144, s33_145, s33_146, s33_147, s33_148, s33_149, s33_150, s33_151, s33_152, s33_153, s33_154, s33_155, s33_156, s33_157, s33_158, s33_161, s33_162, s33_165, s33_166, s33_167, s33_168, s33_169, s33_170, s33_173, s33_174, s33_177, s33_178, s33_179, s33_180, simprocAttr, if_true, if_false, true_and, and_true, false_and, and_false, not_false_eq_true, not_true_eq_false, gd_T, kont_i, kont_v]
    by_cases hb : b = 0
    · subst hb
      try simp only [not_true_eq_false, simprocAttr, if_true, if_false, true_and, and_true, false_and, and_false, not_false_eq_true, not_true_eq_false, gd_T, kont_i, kont_v]
      repeat' split
      all_goals first | rfl | simp_all
    · first | rw [gd_pos hb] | skip
      try simp only [hb, simprocAttr, if_true, if_false, true_and, and_true, false_and, and_false, not_false_eq_true, not_true_eq_false, gd_T, kont_i, kont_v]
      repeat' split
      all_goals first | rfl | simp_all
  by_cases c20009 : c = 20009
  · subst c20009
    simp only [c33, s33_0, s33_1, s33_84, s33_85, s33_88, s33_89, s33_92, s33_93, s33_96, s33_97, s33_98, s33_99, s33_102, s33_103, s33_106, s33_107, s33_110, s33_111, s33_112, s33_113, s33_114, s33_117, s33_118, s33_121, s33_122, s33_123, s33_124, s33_125, s33_128, s33_129, s33_132, s33_133, s33_134, s33_135, s33_136, s33_139, s33_140, s33_143, s33_144, s33_145, s33_146, s33_147, s33_148, s33_149, s33_150, s33_151, s33_152, s33_153, s33_154, s33_155, s33_156, s33_157, s33_158, s33_161, s33_162, s33_165, s33_166, s33_167, s33_168, s33_169, s33_170, s33_173, s33_174, s33_177, s33_178, s33_179, s33_180, simprocAttr, if_true, if_false, true_and, and_true, false_and, and_false, not_false_eq_true, not_true_eq_false, gd_T, kont_i, kont_v]
    by_cases hb : b = 0
    · subst hb
      try simp only [not_true_eq_false, simprocAttr, if_true, if_false, true_and, and_true, false_and, and_false, not_false_eq_true, not_true_eq_false, gd_T, kont_i, kont_v]
      repeat' split
      all_goals first | rfl | simp_all
    · first | rw [gd_pos hb] | skip
      try simp only [hb, simprocAttr, if_true, if_false, true_and, and_true, false_and, and_false, not_false_eq_true, not_true_eq_false, gd_T, kont_i, kont_v]
      repeat' split
      all_goals first | rfl | simp_all
  simp only [c20000, c20001, c20002, c20003, c20004, c20005, c20006, c20007, c20008, c20009, h33, simprocAttr, if_true, if_false, true_and, and_true, false_and, and_false, not_false_eq_true, not_true_eq_false, gd_T, kont_i, kont_v]
  simp only [c33, s33_0, s33_1, s33_84, s33_85, s33_88, s33_89, s33_92, s33_93, s33_96, s33_97, s33_98, s33_99, s33_102, s33_103, s33_106, s33_107, s33_110, s33_111, s33_112, s33_113, s33_114, s33_117, s33_118, s33_121, s33_122, s33_123, s33_124, s33_125, s33_128, s33_129, s33_132, s33_133, s33_134, s33_135, s33_136, s33_139, s33_140, s33_143, s33_144, s33_145, s33_146, s33_147, s33_148, s33_149, s33_150, s33_151, s33_152, s33_153, s33_154, s33_155, s33_156, s33_157, s33_158, s33_161, s33_162, s33_165, s33_166, s33_167, s33_168, s33_169, s33_170, s33_173, s33_174, s33_177, s33_178, s33_179, s33_180, simprocAttr, if_true, if_false, true_and, and_true, false_and, and_false, not_false_eq_true, not_true_eq_false, gd_T, kont_i, kont_v]
  by_cases hb : b = 0
  · subst hb
    simp only [not_true_eq_false, simprocAttr, if_true, if_false, true_and, and_true, false_and, and_false, not_false_eq_true, not_true_eq_false, gd_T, kont_i, kont_v]
  · rw [gd_pos hb]
    simp only [hb, simprocAttr, if_true, if_false, true_and, and_true, false_and, and_false, not_false_eq_true, not_true_eq_false, gd_T, kont_i, kont_v]
theorem sub_20000 (s : Int32) : 20000 + s - 20000 = s := by
  rw [Int32.add_comm, Int32.add_sub_cancel]
theorem en_lt {c : Int32} (h : c < 20000) : enI c = c := if_pos h
theorem en_ge {c : Int32} (h : ¬ c < 20000) : enI c = 20000 + sgI c := if_neg h
theorem en_20010 : enI 20010 = 20033 := by decide +kernel
theorem en_nlt {c : Int32} (h : ¬ c < 20000) : ¬ enI c < 20000 := by
  rw [en_ge h]
  unfold sgI
  repeat' split
  all_goals decide +kernel
theorem en_n33 {c : Int32} (h : ¬ c < 20000) (h33 : ¬ c = 20010) : ¬ enI c = 20033 := by
  rw [en_ge h]
  unfold sgI
  repeat' split
  all_goals first | decide +kernel | (exfalso; contradiction)
theorem k_work_l_0 (d : Nat) (σ : Hs) (T : Nat → Int32) (cnt : Nat) (hcnt : σ 16 1 = nI cnt) (hc60 : cnt ≤ 60) (hco : ∀ k, k < cnt → σ 17 k = enI (T (360 + k))) (l1 : Value) (a b c e : Int32) : ∀ m i n (F : Nat → Int32) (l9 : Value), wfV (cdL T (360 + i) m) n → n + m ≤ 60 → i + m = cnt →
    ∃ F', ru (d + 1) 32 14 [.ref 13, l1, .int a, .int b, .int c, .int e, .int (nI n), .ref 16, .int (nI i), l9] [] (rep σ 15 F) = some (some (.int ((evV (nmF a b c e) (cdL T (360 + i) m) (stk F n)).headD 0)), rep σ 15 F') := by
  intro m
  induction m with
  | zero =>
    intro i n F l9 hw hn hi
    have hi31 : i < 2147483648 := by omega
    have hw1 : n = 1 := hw
    subst hw1
    refine ⟨F, ?_⟩
    have e0 : (nI 1 ≤ 0) = False := eq_false (by decide +kernel)
    have e1 : nI 1 - 1 = 0 := by decide +kernel
    simp only [s32_14]
    simp only [s32_16, s32_18_o16, s32_18_o18, s32_18_o20, s32_21, s32_241, s32_243, s32_246, s32_247_o13, s32_250, s32_252, s32_253, s32_254_o15, s32_255, s32_258, s32_259, rep_at, hcnt, le_nn (show cnt < 2147483648 by omega) hi31, e0, e1, vp_lit, simprocAttr, if_true, if_false, true_and, and_true, false_and, and_false, not_false_eq_true, not_true_eq_false, gd_T, kont_i, kont_v]
    rw [if_pos (by omega)]
    rfl
  | succ m ih =>
    intro i n F l9 hw hn hi
    have hi31 : i < 2147483648 := by omega
    have hi60 : i < 60 := by omega
    have hn60 : n < 60 := by omega
    have hn31 : n < 2147483648 := by omega
    obtain ⟨q, hq⟩ : ∃ q, q = T (360 + i) := ⟨_, rfl⟩
    have hcd : cdL T (360 + i) (m + 1) = q :: cdL T (360 + (i + 1)) m := by rw [cdL, ← hq]; rfl
    have hqc : σ 17 i = enI q := by rw [hco i (by omega), ← hq]
    rw [hcd] at hw ⊢
    simp only [s32_14]
    simp only [s32_16, s32_18_o16, s32_18_o18, s32_18_o20, s32_21, s32_24, s32_26_o16, s32_26_o18, s32_26_o20, s32_29, s32_31_o17, s32_31_o19, s32_31_o21, s32_32, s32_34, s32_36, s32_39, rep_at, hcnt, le_nn (show cnt < 2147483648 by omega) hi31, vp_nI hi60, cl_nI hi31, hqc, simprocAttr, if_true, if_false, true_and, and_true, false_and, and_false, not_false_eq_true, not_true_eq_false, gd_T, kont_i, kont_v]
    rw [if_neg (show ¬ cnt ≤ i by omega)]
    simp only [evV, stpV]
    rcases hw with ⟨h1, h2, h3, h4⟩ | ⟨h1, h2, h3, h4⟩ | ⟨h1, h2, h3, h4⟩
    · rw [en_lt h1, if_neg (Int32.not_le.mpr h1), if_pos h1]
      have e60 : (nI n < 60) = True := eq_true (by rw [show (60 : Int32) = nI 60 from rfl, lt_nn hn31 (by omega)]; exact hn60)
      by_cases h10 : q < 10000
      · rw [if_pos h10]
        obtain ⟨F', hi⟩ := ih (i + 1) (n + 1) (upd F n q) (.int q) h4 (by omega) (by omega)
        rw [stk_push] at hi
        refine ⟨F', ?_⟩
        have n0 : (q = 10000) = False := eq_false (fun h => by subst h; exact absurd h10 (by decide +kernel))
        have n1 : (q = 10001) = False := eq_false (fun h => by subst h; exact absurd h10 (by decide +kernel))
        have n2 : (q = 10002) = False := eq_false (fun h => by subst h; exact absurd h10 (by decide +kernel))
        have n3 : (q = 10003) = False := eq_false (fun h => by subst h; exact absurd h10 (by decide +kernel))
        rw [← hi]
        simp only [s32_42, s32_44, s32_46, s32_49, s32_50, s32_51, s32_53, s32_84, s32_85_o13, s32_88, s32_90, s32_91_o15, s32_92, s32_95, s32_96_o13, s32_99, s32_101, s32_102_o15, s32_103, s32_106, s32_107_o13, s32_110, s32_112, s32_114_o15, s32_115, s32_118, s32_119_o13, s32_122, s32_124, s32_126_o15, s32_127, s32_130, s32_131_o13, s32_134, s32_136, s32_138_o15, s32_139, s32_142, s32_235, s32_238, e60, n0, n1, n2, n3, vp_nI hn60, cl_nI hn31, up2_rep, rep_rep, rep_at, nI_1, simprocAttr, if_true, if_false, true_and, and_true, false_and, and_false, not_false_eq_true, not_true_eq_false, gd_T, kont_i, kont_v]
      · rw [if_neg h10]
        obtain ⟨j, hj, hcj⟩ := name_j h2 h3 h10
        have hqj : q = nI (10000 + j) := by
          rw [← nI_add, ← hcj, show nI 10000 = (10000 : Int32) from rfl, Int32.add_comm, Int32.sub_add_cancel]
        obtain ⟨F', hi⟩ := ih (i + 1) (n + 1) (upd F n (nmF a b c e j)) (.int q) h4 (by omega) (by omega)
        rw [stk_push] at hi
        refine ⟨F', ?_⟩
        rw [hcj, cl_nI (by omega), ← hi]
        have hjj : j = 0 ∨ j = 1 ∨ j = 2 ∨ j = 3 := by omega
        rcases hjj with rfl | rfl | rfl | rfl
        · rw [hqj, show nI (10000 + 0) = 10000 from rfl]
          simp only [s32_42, s32_44, s32_46, s32_49, s32_50, s32_51, s32_53, s32_84, s32_85_o13, s32_88, s32_90, s32_91_o15, s32_92, s32_95, s32_96_o13, s32_99, s32_101, s32_102_o15, s32_103, s32_106, s32_107_o13, s32_110, s32_112, s32_114_o15, s32_115, s32_118, s32_119_o13, s32_122, s32_124, s32_126_o15, s32_127, s32_130, s32_131_o13, s32_134, s32_136, s32_138_o15, s32_139, s32_142, s32_235, s32_238, e60, vp_nI hn60, cl_nI hn31, up2_rep, rep_rep, rep_at, nI_1, simprocAttr, if_true, if_false, true_and, and_true, false_and, and_false, not_false_eq_true, not_true_eq_false, gd_T, kont_i, kont_v]
          rfl
        · rw [hqj, show nI (10000 + 1) = 10001 from rfl]
          simp only [s32_42, s32_44, s32_46, s32_49, s32_50, s32_51, s32_53, s32_84, s32_85_o13, s32_88, s32_90, s32_91_o15, s32_92, s32_95, s32_96_o13, s32_99, s32_101, s32_102_o15, s32_103, s32_106, s32_107_o13, s32_110, s32_112, s32_114_o15, s32_115, s32_118, s32_119_o13, s32_122, s32_124, s32_126_o15, s32_127, s32_130, s32_131_o13, s32_134, s32_136, s32_138_o15, s32_139, s32_142, s32_235, s32_238, e60, vp_nI hn60, cl_nI hn31, up2_rep, rep_rep, rep_at, nI_1, simprocAttr, if_true, if_false, true_and, and_true, false_and, and_false, not_false_eq_true, not_true_eq_false, gd_T, kont_i, kont_v]
          rfl
        · rw [hqj, show nI (10000 + 2) = 10002 from rfl]
          simp only [s32_42, s32_44, s32_46, s32_49, s32_50, s32_51, s32_53, s32_84, s32_85_o13, s32_88, s32_90, s32_91_o15, s32_92, s32_95, s32_96_o13, s32_99, s32_101, s32_102_o15, s32_103, s32_106, s32_107_o13, s32_110, s32_112, s32_114_o15, s32_115, s32_118, s32_119_o13, s32_122, s32_124, s32_126_o15, s32_127, s32_130, s32_131_o13, s32_134, s32_136, s32_138_o15, s32_139, s32_142, s32_235, s32_238, e60, vp_nI hn60, cl_nI hn31, up2_rep, rep_rep, rep_at, nI_1, simprocAttr, if_true, if_false, true_and, and_true, false_and, and_false, not_false_eq_true, not_true_eq_false, gd_T, kont_i, kont_v]
          rfl
        · rw [hqj, show nI (10000 + 3) = 10003 from rfl]
          simp only [s32_42, s32_44, s32_46, s32_49, s32_50, s32_51, s32_53, s32_84, s32_85_o13, s32_88, s32_90, s32_91_o15, s32_92, s32_95, s32_96_o13, s32_99, s32_101, s32_102_o15, s32_103, s32_106, s32_107_o13, s32_110, s32_112, s32_114_o15, s32_115, s32_118, s32_119_o13, s32_122, s32_124, s32_126_o15, s32_127, s32_130, s32_131_o13, s32_134, s32_136, s32_138_o15, s32_139, s32_142, s32_235, s32_238, e60, vp_nI hn60, cl_nI hn31, up2_rep, rep_rep, rep_at, nI_1, simprocAttr, if_true, if_false, true_and, and_true, false_and, and_false, not_false_eq_true, not_true_eq_false, gd_T, kont_i, kont_v]
          rfl
    · subst h2
      obtain ⟨n, rfl⟩ : ∃ q, n = q + 1 := ⟨n - 1, by omega⟩
      have hq60 : n < 60 := by omega
      have hq31 : n < 2147483648 := by omega
      obtain ⟨F', hi⟩ := ih (i + 1) (n + 1) (upd F n (if F n = 0 then 1 else 0)) (.int 20033) h4 (by omega) (by omega)
      rw [stk_push] at hi
      refine ⟨F', ?_⟩
      have e1 : (1 ≤ nI (n + 1)) = True := eq_true (by rw [show (1 : Int32) = nI 1 from rfl, le_nn (by omega) hn31]; omega)
      rw [en_20010]
      simp only [stk, simprocAttr, if_true, if_false, true_and, and_true, false_and, and_false, not_false_eq_true, not_true_eq_false, gd_T, kont_i, kont_v]
      rw [← hi]
      simp only [s32_145, s32_147, s32_150, s32_153, s32_155, s32_156, s32_159, s32_160, s32_161, s32_162_o13, s32_165, s32_167, s32_168, s32_169, s32_170_o13, s32_173, s32_175, s32_176, s32_177_o15, s32_178, s32_181, s32_182, s32_185, s32_186_o15, s32_187, s32_235, s32_238, e1, nI_pred, vp_nI hq60, cl_nI hq31, up2_rep, rep_rep, rep_at, nI_1, simprocAttr, if_true, if_false, true_and, and_true, false_and, and_false, not_false_eq_true, not_true_eq_false, gd_T, kont_i, kont_v]
      by_cases h0 : F n = 0
      · simp only [h0, simprocAttr, if_true, if_false, true_and, and_true, false_and, and_false, not_false_eq_true, not_true_eq_false, gd_T, kont_i, kont_v]
      · simp only [h0, simprocAttr, if_true, if_false, true_and, and_true, false_and, and_false, not_false_eq_true, not_true_eq_false, gd_T, kont_i, kont_v]
    · obtain ⟨n, rfl⟩ : ∃ q, n = q + 2 := ⟨n - 2, by omega⟩
      have hq60 : n < 60 := by omega
      have hq31 : n < 2147483648 := by omega
      have hr60 : n + 1 < 60 := by omega
      have hr31 : n + 1 < 2147483648 := by omega
      obtain ⟨F', hi⟩ := ih (i + 1) (n + 1) (upd F n (doneI q (F n) (F (n + 1)))) (.int (enI q)) h4 (by omega) (by omega)
      rw [stk_push] at hi
      refine ⟨F', ?_⟩
      have e2 : (2 ≤ nI (n + 2)) = True := eq_true (by rw [show (2 : Int32) = nI 2 from rfl, le_nn (by omega) hn31]; omega)
      have hsg : enI q - 20000 = sgI q := by rw [en_ge h1, sub_20000]
      rw [if_neg h1, if_neg h2]
      simp only [stk, simprocAttr, if_true, if_false, true_and, and_true, false_and, and_false, not_false_eq_true, not_true_eq_false, gd_T, kont_i, kont_v]
      rw [← hi, if_pos (Int32.not_lt.mp (en_nlt h1))]
      simp only [s32_145, s32_147, s32_150, s32_190, s32_192, s32_193, s32_196, s32_197, s32_198, s32_201, s32_202_o13, s32_205, s32_207, s32_208, s32_209, s32_211, s32_214, s32_215, s32_216_o13, s32_219, s32_221, s32_222, s32_223_o15, s32_224, s32_225_o13, s32_228, s32_230_o15, s32_231, s32_234_o15, s32_235, s32_238, e2, hsg, k_joined _ _ _ _ h2, pk_m1, nI_pred, vp_nI hq60, cl_nI hq31, vp_nI hr60, cl_nI hr31, up2_rep, rep_rep, rep_at, nI_1, simprocAttr, if_true, if_false, true_and, and_true, false_and, and_false, not_false_eq_true, not_true_eq_false, gd_T, kont_i, kont_v]
      rw [if_neg (en_n33 h1 h2)]
theorem k_work_l_1 (d : Nat) (σ : Hs) (T : Nat → Int32) (cnt : Nat) (hcnt : σ 18 1 = nI cnt) (hc60 : cnt ≤ 60) (hco : ∀ k, k < cnt → σ 19 k = enI (T (422 + k))) (l1 : Value) (a b c e : Int32) : ∀ m i n (F : Nat → Int32) (l9 : Value), wfV (cdL T (422 + i) m) n → n + m ≤ 60 → i + m = cnt →
    ∃ F', ru (d + 1) 32 14 [.ref 13, l1, .int a, .int b, .int c, .int e, .int (nI n), .ref 18, .int (nI i), l9] [] (rep σ 15 F) = some (some (.int ((evV (nmF a b c e) (cdL T (422 + i) m) (stk F n)).headD 0)), rep σ 15 F') := by
  intro m
  induction m with
  | zero =>
    intro i n F l9 hw hn hi
    have hi31 : i < 2147483648 := by omega
    have hw1 : n = 1 := hw
    subst hw1
    refine ⟨F, ?_⟩
    have e0 : (nI 1 ≤ 0) = False := eq_false (by decide +kernel)
    have e1 : nI 1 - 1 = 0 := by decide +kernel
    simp only [s32_14]
    simp only [s32_16, s32_18_o16, s32_18_o18, s32_18_o20, s32_21, s32_241, s32_243, s32_246, s32_247_o13, s32_250, s32_252, s32_253, s32_254_o15, s32_255, s32_258, s32_259, rep_at, hcnt, le_nn (show cnt < 2147483648 by omega) hi31, e0, e1, vp_lit, simprocAttr, if_true, if_false, true_and, and_true, false_and, and_false, not_false_eq_true, not_true_eq_false, gd_T, kont_i, kont_v]
    rw [if_pos (by omega)]
    rfl
  | succ m ih =>
    intro i n F l9 hw hn hi
    have hi31 : i < 2147483648 := by omega
    have hi60 : i < 60 := by omega
    have hn60 : n < 60 := by omega
    have hn31 : n < 2147483648 := by omega
    obtain ⟨q, hq⟩ : ∃ q, q = T (422 + i) := ⟨_, rfl⟩
    have hcd : cdL T (422 + i) (m + 1) = q :: cdL T (422 + (i + 1)) m := by rw [cdL, ← hq]; rfl
    have hqc : σ 19 i = enI q := by rw [hco i (by omega), ← hq]
    rw [hcd] at hw ⊢
    simp only [s32_14]
    simp only [s32_16, s32_18_o16, s32_18_o18, s32_18_o20, s32_21, s32_24, s32_26_o16, s32_26_o18, s32_26_o20, s32_29, s32_31_o17, s32_31_o19, s32_31_o21, s32_32, s32_34, s32_36, s32_39, rep_at, hcnt, le_nn (show cnt < 2147483648 by omega) hi31, vp_nI hi60, cl_nI hi31, hqc, simprocAttr, if_true, if_false, true_and, and_true, false_and, and_false, not_false_eq_true, not_true_eq_false, gd_T, kont_i, kont_v]
    rw [if_neg (show ¬ cnt ≤ i by omega)]
    simp only [evV, stpV]
    rcases hw with ⟨h1, h2, h3, h4⟩ | ⟨h1, h2, h3, h4⟩ | ⟨h1, h2, h3, h4⟩
    · rw [en_lt h1, if_neg (Int32.not_le.mpr h1), if_pos h1]
      have e60 : (nI n < 60) = True := eq_true (by rw [show (60 : Int32) = nI 60 from rfl, lt_nn hn31 (by omega)]; exact hn60)
      by_cases h10 : q < 10000
      · rw [if_pos h10]
        obtain ⟨F', hi⟩ := ih (i + 1) (n + 1) (upd F n q) (.int q) h4 (by omega) (by omega)
        rw [stk_push] at hi
        refine ⟨F', ?_⟩
        have n0 : (q = 10000) = False := eq_false (fun h => by subst h; exact absurd h10 (by decide +kernel))
        have n1 : (q = 10001) = False := eq_false (fun h => by subst h; exact absurd h10 (by decide +kernel))
        have n2 : (q = 10002) = False := eq_false (fun h => by subst h; exact absurd h10 (by decide +kernel))
        have n3 : (q = 10003) = False := eq_false (fun h => by subst h; exact absurd h10 (by decide +kernel))
        rw [← hi]
        simp only [s32_42, s32_44, s32_46, s32_49, s32_50, s32_51, s32_53, s32_84, s32_85_o13, s32_88, s32_90, s32_91_o15, s32_92, s32_95, s32_96_o13, s32_99, s32_101, s32_102_o15, s32_103, s32_106, s32_107_o13, s32_110, s32_112, s32_114_o15, s32_115, s32_118, s32_119_o13, s32_122, s32_124, s32_126_o15, s32_127, s32_130, s32_131_o13, s32_134, s32_136, s32_138_o15, s32_139, s32_142, s32_235, s32_238, e60, n0, n1, n2, n3, vp_nI hn60, cl_nI hn31, up2_rep, rep_rep, rep_at, nI_1, simprocAttr, if_true, if_false, true_and, and_true, false_and, and_false, not_false_eq_true, not_true_eq_false, gd_T, kont_i, kont_v]
      · rw [if_neg h10]
        obtain ⟨j, hj, hcj⟩ := name_j h2 h3 h10
        have hqj : q = nI (10000 + j) := by
          rw [← nI_add, ← hcj, show nI 10000 = (10000 : Int32) from rfl, Int32.add_comm, Int32.sub_add_cancel]
        obtain ⟨F', hi⟩ := ih (i + 1) (n + 1) (upd F n (nmF a b c e j)) (.int q) h4 (by omega) (by omega)
        rw [stk_push] at hi
        refine ⟨F', ?_⟩
        rw [hcj, cl_nI (by omega), ← hi]
        have hjj : j = 0 ∨ j = 1 ∨ j = 2 ∨ j = 3 := by omega
        rcases hjj with rfl | rfl | rfl | rfl
        · rw [hqj, show nI (10000 + 0) = 10000 from rfl]
          simp only [s32_42, s32_44, s32_46, s32_49, s32_50, s32_51, s32_53, s32_84, s32_85_o13, s32_88, s32_90, s32_91_o15, s32_92, s32_95, s32_96_o13, s32_99, s32_101, s32_102_o15, s32_103, s32_106, s32_107_o13, s32_110, s32_112, s32_114_o15, s32_115, s32_118, s32_119_o13, s32_122, s32_124, s32_126_o15, s32_127, s32_130, s32_131_o13, s32_134, s32_136, s32_138_o15, s32_139, s32_142, s32_235, s32_238, e60, vp_nI hn60, cl_nI hn31, up2_rep, rep_rep, rep_at, nI_1, simprocAttr, if_true, if_false, true_and, and_true, false_and, and_false, not_false_eq_true, not_true_eq_false, gd_T, kont_i, kont_v]
          rfl
        · rw [hqj, show nI (10000 + 1) = 10001 from rfl]
          simp only [s32_42, s32_44, s32_46, s32_49, s32_50, s32_51, s32_53, s32_84, s32_85_o13, s32_88, s32_90, s32_91_o15, s32_92, s32_95, s32_96_o13, s32_99, s32_101, s32_102_o15, s32_103, s32_106, s32_107_o13, s32_110, s32_112, s32_114_o15, s32_115, s32_118, s32_119_o13, s32_122, s32_124, s32_126_o15, s32_127, s32_130, s32_131_o13, s32_134, s32_136, s32_138_o15, s32_139, s32_142, s32_235, s32_238, e60, vp_nI hn60, cl_nI hn31, up2_rep, rep_rep, rep_at, nI_1, simprocAttr, if_true, if_false, true_and, and_true, false_and, and_false, not_false_eq_true, not_true_eq_false, gd_T, kont_i, kont_v]
          rfl
        · rw [hqj, show nI (10000 + 2) = 10002 from rfl]
          simp only [s32_42, s32_44, s32_46, s32_49, s32_50, s32_51, s32_53, s32_84, s32_85_o13, s32_88, s32_90, s32_91_o15, s32_92, s32_95, s32_96_o13, s32_99, s32_101, s32_102_o15, s32_103, s32_106, s32_107_o13, s32_110, s32_112, s32_114_o15, s32_115, s32_118, s32_119_o13, s32_122, s32_124, s32_126_o15, s32_127, s32_130, s32_131_o13, s32_134, s32_136, s32_138_o15, s32_139, s32_142, s32_235, s32_238, e60, vp_nI hn60, cl_nI hn31, up2_rep, rep_rep, rep_at, nI_1, simprocAttr, if_true, if_false, true_and, and_true, false_and, and_false, not_false_eq_true, not_true_eq_false, gd_T, kont_i, kont_v]
          rfl
        · rw [hqj, show nI (10000 + 3) = 10003 from rfl]
          simp only [s32_42, s32_44, s32_46, s32_49, s32_50, s32_51, s32_53, s32_84, s32_85_o13, s32_88, s32_90, s32_91_o15, s32_92, s32_95, s32_96_o13, s32_99, s32_101, s32_102_o15, s32_103, s32_106, s32_107_o13, s32_110, s32_112, s32_114_o15, s32_115, s32_118, s32_119_o13, s32_122, s32_124, s32_126_o15, s32_127, s32_130, s32_131_o13, s32_134, s32_136, s32_138_o15, s32_139, s32_142, s32_235, s32_238, e60, vp_nI hn60, cl_nI hn31, up2_rep, rep_rep, rep_at, nI_1, simprocAttr, if_true, if_false, true_and, and_true, false_and, and_false, not_false_eq_true, not_true_eq_false, gd_T, kont_i, kont_v]
          rfl
    · subst h2
      obtain ⟨n, rfl⟩ : ∃ q, n = q + 1 := ⟨n - 1, by omega⟩
      have hq60 : n < 60 := by omega
      have hq31 : n < 2147483648 := by omega
      obtain ⟨F', hi⟩ := ih (i + 1) (n + 1) (upd F n (if F n = 0 then 1 else 0)) (.int 20033) h4 (by omega) (by omega)
      rw [stk_push] at hi
      refine ⟨F', ?_⟩
      have e1 : (1 ≤ nI (n + 1)) = True := eq_true (by rw [show (1 : Int32) = nI 1 from rfl, le_nn (by omega) hn31]; omega)
      rw [en_20010]
      simp only [stk, simprocAttr, if_true, if_false, true_and, and_true, false_and, and_false, not_false_eq_true, not_true_eq_false, gd_T, kont_i, kont_v]
      rw [← hi]
      simp only [s32_145, s32_147, s32_150, s32_153, s32_155, s32_156, s32_159, s32_160, s32_161, s32_162_o13, s32_165, s32_167, s32_168, s32_169, s32_170_o13, s32_173, s32_175, s32_176, s32_177_o15, s32_178, s32_181, s32_182, s32_185, s32_186_o15, s32_187, s32_235, s32_238, e1, nI_pred, vp_nI hq60, cl_nI hq31, up2_rep, rep_rep, rep_at, nI_1, simprocAttr, if_true, if_false, true_and, and_true, false_and, and_false, not_false_eq_true, not_true_eq_false, gd_T, kont_i, kont_v]
      by_cases h0 : F n = 0
      · simp only [h0, simprocAttr, if_true, if_false, true_and, and_true, false_and, and_false, not_false_eq_true, not_true_eq_false, gd_T, kont_i, kont_v]
      · simp only [h0, simprocAttr, if_true, if_false, true_and, and_true, false_and, and_false, not_false_eq_true, not_true_eq_false, gd_T, kont_i, kont_v]
    · obtain ⟨n, rfl⟩ : ∃ q, n = q + 2 := ⟨n - 2, by omega⟩
      have hq60 : n < 60 := by omega
      have hq31 : n < 2147483648 := by omega
      have hr60 : n + 1 < 60 := by omega
      have hr31 : n + 1 < 2147483648 := by omega
      obtain ⟨F', hi⟩ := ih (i + 1) (n + 1) (upd F n (doneI q (F n) (F (n + 1)))) (.int (enI q)) h4 (by omega) (by omega)
      rw [stk_push] at hi
      refine ⟨F', ?_⟩
      have e2 : (2 ≤ nI (n + 2)) = True := eq_true (by rw [show (2 : Int32) = nI 2 from rfl, le_nn (by omega) hn31]; omega)
      have hsg : enI q - 20000 = sgI q := by rw [en_ge h1, sub_20000]
      rw [if_neg h1, if_neg h2]
      simp only [stk, simprocAttr, if_true, if_false, true_and, and_true, false_and, and_false, not_false_eq_true, not_true_eq_false, gd_T, kont_i, kont_v]
      rw [← hi, if_pos (Int32.not_lt.mp (en_nlt h1))]
      simp only [s32_145, s32_147, s32_150, s32_190, s32_192, s32_193, s32_196, s32_197, s32_198, s32_201, s32_202_o13, s32_205, s32_207, s32_208, s32_209, s32_211, s32_214, s32_215, s32_216_o13, s32_219, s32_221, s32_222, s32_223_o15, s32_224, s32_225_o13, s32_228, s32_230_o15, s32_231, s32_234_o15, s32_235, s32_238, e2, hsg, k_joined _ _ _ _ h2, pk_m1, nI_pred, vp_nI hq60, cl_nI hq31, vp_nI hr60, cl_nI hr31, up2_rep, rep_rep, rep_at, nI_1, simprocAttr, if_true, if_false, true_and, and_true, false_and, and_false, not_false_eq_true, not_true_eq_false, gd_T, kont_i, kont_v]
      rw [if_neg (en_n33 h1 h2)]
theorem k_work_l_2 (d : Nat) (σ : Hs) (T : Nat → Int32) (cnt : Nat) (hcnt : σ 20 1 = nI cnt) (hc60 : cnt ≤ 60) (hco : ∀ k, k < cnt → σ 21 k = enI (T (484 + k))) (l1 : Value) (a b c e : Int32) : ∀ m i n (F : Nat → Int32) (l9 : Value), wfV (cdL T (484 + i) m) n → n + m ≤ 60 → i + m = cnt →
    ∃ F', ru (d + 1) 32 14 [.ref 13, l1, .int a, .int b, .int c, .int e, .int (nI n), .ref 20, .int (nI i), l9] [] (rep σ 15 F) = some (some (.int ((evV (nmF a b c e) (cdL T (484 + i) m) (stk F n)).headD 0)), rep σ 15 F') := by
  intro m
  induction m with
  | zero =>
    intro i n F l9 hw hn hi
    have hi31 : i < 2147483648 := by omega
    have hw1 : n = 1 := hw
    subst hw1
    refine ⟨F, ?_⟩
    have e0 : (nI 1 ≤ 0) = False := eq_false (by decide +kernel)
    have e1 : nI 1 - 1 = 0 := by decide +kernel
    simp only [s32_14]
    simp only [s32_16, s32_18_o16, s32_18_o18, s32_18_o20, s32_21, s32_241, s32_243, s32_246, s32_247_o13, s32_250, s32_252, s32_253, s32_254_o15, s32_255, s32_258, s32_259, rep_at, hcnt, le_nn (show cnt < 2147483648 by omega) hi31, e0, e1, vp_lit, simprocAttr, if_true, if_false, true_and, and_true, false_and, and_false, not_false_eq_true, not_true_eq_false, gd_T, kont_i, kont_v]
    rw [if_pos (by omega)]
    rfl
  | succ m ih =>
    intro i n F l9 hw hn hi
    have hi31 : i < 2147483648 := by omega
    have hi60 : i < 60 := by omega
    have hn60 : n < 60 := by omega
    have hn31 : n < 2147483648 := by omega
    obtain ⟨q, hq⟩ : ∃ q, q = T (484 + i) := ⟨_, rfl⟩
    have hcd : cdL T (484 + i) (m + 1) = q :: cdL T (484 + (i + 1)) m := by rw [cdL, ← hq]; rfl
    have hqc : σ 21 i = enI q := by rw [hco i (by omega), ← hq]
    rw [hcd] at hw ⊢
    simp only [s32_14]
    simp only [s32_16, s32_18_o16, s32_18_o18, s32_18_o20, s32_21, s32_24, s32_26_o16, s32_26_o18, s32_26_o20, s32_29, s32_31_o17, s32_31_o19, s32_31_o21, s32_32, s32_34, s32_36, s32_39, rep_at, hcnt, le_nn (show cnt < 2147483648 by omega) hi31, vp_nI hi60, cl_nI hi31, hqc, simprocAttr, if_true, if_false, true_and, and_true, false_and, and_false, not_false_eq_true, not_true_eq_false, gd_T, kont_i, kont_v]
    rw [if_neg (show ¬ cnt ≤ i by omega)]
    simp only [evV, stpV]
    rcases hw with ⟨h1, h2, h3, h4⟩ | ⟨h1, h2, h3, h4⟩ | ⟨h1, h2, h3, h4⟩
    · rw [en_lt h1, if_neg (Int32.not_le.mpr h1), if_pos h1]
      have e60 : (nI n < 60) = True := eq_true (by rw [show (60 : Int32) = nI 60 from rfl, lt_nn hn31 (by omega)]; exact hn60)
      by_cases h10 : q < 10000
      · rw [if_pos h10]
        obtain ⟨F', hi⟩ := ih (i + 1) (n + 1) (upd F n q) (.int q) h4 (by omega) (by omega)
        rw [stk_push] at hi
        refine ⟨F', ?_⟩
        have n0 : (q = 10000) = False := eq_false (fun h => by subst h; exact absurd h10 (by decide +kernel))
        have n1 : (q = 10001) = False := eq_false (fun h => by subst h; exact absurd h10 (by decide +kernel))
        have n2 : (q = 10002) = False := eq_false (fun h => by subst h; exact absurd h10 (by decide +kernel))
        have n3 : (q = 10003) = False := eq_false (fun h => by subst h; exact absurd h10 (by decide +kernel))
        rw [← hi]
        simp only [s32_42, s32_44, s32_46, s32_49, s32_50, s32_51, s32_53, s32_84, s32_85_o13, s32_88, s32_90, s32_91_o15, s32_92, s32_95, s32_96_o13, s32_99, s32_101, s32_102_o15, s32_103, s32_106, s32_107_o13, s32_110, s32_112, s32_114_o15, s32_115, s32_118, s32_119_o13, s32_122, s32_124, s32_126_o15, s32_127, s32_130, s32_131_o13, s32_134, s32_136, s32_138_o15, s32_139, s32_142, s32_235, s32_238, e60, n0, n1, n2, n3, vp_nI hn60, cl_nI hn31, up2_rep, rep_rep, rep_at, nI_1, simprocAttr, if_true, if_false, true_and, and_true, false_and, and_false, not_false_eq_true, not_true_eq_false, gd_T, kont_i, kont_v]
      · rw [if_neg h10]
        obtain ⟨j, hj, hcj⟩ := name_j h2 h3 h10
        have hqj : q = nI (10000 + j) := by
          rw [← nI_add, ← hcj, show nI 10000 = (10000 : Int32) from rfl, Int32.add_comm, Int32.sub_add_cancel]
        obtain ⟨F', hi⟩ := ih (i + 1) (n + 1) (upd F n (nmF a b c e j)) (.int q) h4 (by omega) (by omega)
        rw [stk_push] at hi
        refine ⟨F', ?_⟩
        rw [hcj, cl_nI (by omega), ← hi]
        have hjj : j = 0 ∨ j = 1 ∨ j = 2 ∨ j = 3 := by omega
        rcases hjj with rfl | rfl | rfl | rfl
        · rw [hqj, show nI (10000 + 0) = 10000 from rfl]
          simp only [s32_42, s32_44, s32_46, s32_49, s32_50, s32_51, s32_53, s32_84, s32_85_o13, s32_88, s32_90, s32_91_o15, s32_92, s32_95, s32_96_o13, s32_99, s32_101, s32_102_o15, s32_103, s32_106, s32_107_o13, s32_110, s32_112, s32_114_o15, s32_115, s32_118, s32_119_o13, s32_122, s32_124, s32_126_o15, s32_127, s32_130, s32_131_o13, s32_134, s32_136, s32_138_o15, s32_139, s32_142, s32_235, s32_238, e60, vp_nI hn60, cl_nI hn31, up2_rep, rep_rep, rep_at, nI_1, simprocAttr, if_true, if_false, true_and, and_true, false_and, and_false, not_false_eq_true, not_true_eq_false, gd_T, kont_i, kont_v]
          rfl
        · rw [hqj, show nI (10000 + 1) = 10001 from rfl]
          simp only [s32_42, s32_44, s32_46, s32_49, s32_50, s32_51, s32_53, s32_84, s32_85_o13, s32_88, s32_90, s32_91_o15, s32_92, s32_95, s32_96_o13, s32_99, s32_101, s32_102_o15, s32_103, s32_106, s32_107_o13, s32_110, s32_112, s32_114_o15, s32_115, s32_118, s32_119_o13, s32_122, s32_124, s32_126_o15, s32_127, s32_130, s32_131_o13, s32_134, s32_136, s32_138_o15, s32_139, s32_142, s32_235, s32_238, e60, vp_nI hn60, cl_nI hn31, up2_rep, rep_rep, rep_at, nI_1, simprocAttr, if_true, if_false, true_and, and_true, false_and, and_false, not_false_eq_true, not_true_eq_false, gd_T, kont_i, kont_v]
          rfl
        · rw [hqj, show nI (10000 + 2) = 10002 from rfl]
          simp only [s32_42, s32_44, s32_46, s32_49, s32_50, s32_51, s32_53, s32_84, s32_85_o13, s32_88, s32_90, s32_91_o15, s32_92, s32_95, s32_96_o13, s32_99, s32_101, s32_102_o15, s32_103, s32_106, s32_107_o13, s32_110, s32_112, s32_114_o15, s32_115, s32_118, s32_119_o13, s32_122, s32_124, s32_126_o15, s32_127, s32_130, s32_131_o13, s32_134, s32_136, s32_138_o15, s32_139, s32_142, s32_235, s32_238, e60, vp_nI hn60, cl_nI hn31, up2_rep, rep_rep, rep_at, nI_1, simprocAttr, if_true, if_false, true_and, and_true, false_and, and_false, not_false_eq_true, not_true_eq_false, gd_T, kont_i, kont_v]
          rfl
        · rw [hqj, show nI (10000 + 3) = 10003 from rfl]
          simp only [s32_42, s32_44, s32_46, s32_49, s32_50, s32_51, s32_53, s32_84, s32_85_o13, s32_88, s32_90, s32_91_o15, s32_92, s32_95, s32_96_o13, s32_99, s32_101, s32_102_o15, s32_103, s32_106, s32_107_o13, s32_110, s32_112, s32_114_o15, s32_115, s32_118, s32_119_o13, s32_122, s32_124, s32_126_o15, s32_127, s32_130, s32_131_o13, s32_134, s32_136, s32_138_o15, s32_139, s32_142, s32_235, s32_238, e60, vp_nI hn60, cl_nI hn31, up2_rep, rep_rep, rep_at, nI_1, simprocAttr, if_true, if_false, true_and, and_true, false_and, and_false, not_false_eq_true, not_true_eq_false, gd_T, kont_i, kont_v]
          rfl
    · subst h2
      obtain ⟨n, rfl⟩ : ∃ q, n = q + 1 := ⟨n - 1, by omega⟩
      have hq60 : n < 60 := by omega
      have hq31 : n < 2147483648 := by omega
      obtain ⟨F', hi⟩ := ih (i + 1) (n + 1) (upd F n (if F n = 0 then 1 else 0)) (.int 20033) h4 (by omega) (by omega)
      rw [stk_push] at hi
      refine ⟨F', ?_⟩
      have e1 : (1 ≤ nI (n + 1)) = True := eq_true (by rw [show (1 : Int32) = nI 1 from rfl, le_nn (by omega) hn31]; omega)
      rw [en_20010]
      simp only [stk, simprocAttr, if_true, if_false, true_and, and_true, false_and, and_false, not_false_eq_true, not_true_eq_false, gd_T, kont_i, kont_v]
      rw [← hi]
      simp only [s32_145, s32_147, s32_150, s32_153, s32_155, s32_156, s32_159, s32_160, s32_161, s32_162_o13, s32_165, s32_167, s32_168, s32_169, s32_170_o13, s32_173, s32_175, s32_176, s32_177_o15, s32_178, s32_181, s32_182, s32_185, s32_186_o15, s32_187, s32_235, s32_238, e1, nI_pred, vp_nI hq60, cl_nI hq31, up2_rep, rep_rep, rep_at, nI_1, simprocAttr, if_true, if_false, true_and, and_true, false_and, and_false, not_false_eq_true, not_true_eq_false, gd_T, kont_i, kont_v]
      by_cases h0 : F n = 0
      · simp only [h0, simprocAttr, if_true, if_false, true_and, and_true, false_and, and_false, not_false_eq_true, not_true_eq_false, gd_T, kont_i, kont_v]
      · simp only [h0, simprocAttr, if_true, if_false, true_and, and_true, false_and, and_false, not_false_eq_true, not_true_eq_false, gd_T, kont_i, kont_v]
    · obtain ⟨n, rfl⟩ : ∃ q, n = q + 2 := ⟨n - 2, by omega⟩
      have hq60 : n < 60 := by omega
      have hq31 : n < 2147483648 := by omega
      have hr60 : n + 1 < 60 := by omega
      have hr31 : n + 1 < 2147483648 := by omega
      obtain ⟨F', hi⟩ := ih (i + 1) (n + 1) (upd F n (doneI q (F n) (F (n + 1)))) (.int (enI q)) h4 (by omega) (by omega)
      rw [stk_push] at hi
      refine ⟨F', ?_⟩
      have e2 : (2 ≤ nI (n + 2)) = True := eq_true (by rw [show (2 : Int32) = nI 2 from rfl, le_nn (by omega) hn31]; omega)
      have hsg : enI q - 20000 = sgI q := by rw [en_ge h1, sub_20000]
      rw [if_neg h1, if_neg h2]
      simp only [stk, simprocAttr, if_true, if_false, true_and, and_true, false_and, and_false, not_false_eq_true, not_true_eq_false, gd_T, kont_i, kont_v]
      rw [← hi, if_pos (Int32.not_lt.mp (en_nlt h1))]
      simp only [s32_145, s32_147, s32_150, s32_190, s32_192, s32_193, s32_196, s32_197, s32_198, s32_201, s32_202_o13, s32_205, s32_207, s32_208, s32_209, s32_211, s32_214, s32_215, s32_216_o13, s32_219, s32_221, s32_222, s32_223_o15, s32_224, s32_225_o13, s32_228, s32_230_o15, s32_231, s32_234_o15, s32_235, s32_238, e2, hsg, k_joined _ _ _ _ h2, pk_m1, nI_pred, vp_nI hq60, cl_nI hq31, vp_nI hr60, cl_nI hr31, up2_rep, rep_rep, rep_at, nI_1, simprocAttr, if_true, if_false, true_and, and_true, false_and, and_false, not_false_eq_true, not_true_eq_false, gd_T, kont_i, kont_v]
      rw [if_neg (en_n33 h1 h2)]
