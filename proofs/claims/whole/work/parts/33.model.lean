/-! ===== the model: laws in texts ===== -/
def stk (F : Nat → Int32) : Nat → List Int32
  | 0 => []
  | n + 1 => F n :: stk F n
theorem stk_upd {F : Nat → Int32} {k : Nat} {v : Int32} : ∀ n, n ≤ k → stk (upd F k v) n = stk F n := by
  intro n
  induction n with
  | zero => intro _; rfl
  | succ n ih =>
    intro h
    rw [stk, stk, ih (by omega)]
    congr 1
    simp only [upd]
    rw [if_neg (by omega)]
theorem stk_push {F : Nat → Int32} {n : Nat} {v : Int32} : stk (upd F n v) (n + 1) = v :: stk F n := by
  rw [stk, stk_upd n (Nat.le_refl _)]
  congr 1
  simp [upd]
def doneI (op a b : Int32) : Int32 := if op = 20000 then (if a = 0 then (if b = 0 then 0 else 1) else 1) else if op = 20001 then (if a = 0 then 0 else (if b = 0 then 0 else 1)) else if op = 20002 then (if b ≤ a then 0 else 1) else if op = 20003 then (if a = b then 1 else 0) else if op = 20004 then (if a ≤ b then 0 else 1) else if op = 20005 then a + b else if op = 20006 then a - b else if op = 20007 then a * b else if op = 20008 then (if b = 0 then 0 else a / b) else (if b = 0 then 0 else a - a / b * b)
theorem m_done (d : Nat) (op a b : Int32) (σ : Hs) : callD (d + 1) 156 [.int op, .int a, .int b] σ = some (some (.int (doneI op a b)), σ) := by
  simp only [c156, s156_0, s156_1, s156_52, s156_53, s156_56, s156_57, s156_60, s156_61, s156_64, s156_65, s156_66, s156_67, s156_70, s156_71, s156_74, s156_75, s156_78, s156_79, s156_80, s156_81, s156_82, s156_85, s156_86, s156_89, s156_90, s156_91, s156_92, s156_93, s156_96, s156_97, s156_100, s156_101, s156_102, s156_103, s156_104, s156_107, s156_108, s156_111, s156_112, s156_113, s156_114, s156_115, s156_116, s156_117, s156_118, s156_119, s156_120, s156_121, s156_122, s156_123, s156_124, s156_125, s156_126, s156_129, s156_130, s156_133, s156_134, s156_135, s156_136, s156_137, s156_138, s156_141, s156_142, s156_145, s156_146, s156_147, s156_148, simprocAttr, if_true, if_false, true_and, and_true, false_and, and_false, not_false_eq_true, not_true_eq_false, gd_T, kont_i, kont_v]
  unfold doneI
  by_cases hb : b = 0
  · subst hb
    simp only [not_true_eq_false, simprocAttr, if_true, if_false, true_and, and_true, false_and, and_false, not_false_eq_true, not_true_eq_false, gd_T, kont_i, kont_v]
    repeat' split
    all_goals first | rfl | simp_all
  · rw [gd_pos hb, gd_pos hb]
    simp only [hb, simprocAttr, if_true, if_false, true_and, and_true, false_and, and_false, not_false_eq_true, not_true_eq_false, gd_T, kont_i, kont_v]
    repeat' split
    all_goals first | rfl | simp_all
def stpV (nm : Nat → Int32) (c : Int32) (s : List Int32) : List Int32 :=
  if c < 20000 then (if c < 10000 then c else nm (c - 10000).toNatClampNeg) :: s
  else if c = 20010 then (match s with
    | a :: r => (if a = 0 then 1 else 0) :: r
    | [] => [])
  else (match s with
    | b :: a :: r => doneI c a b :: r
    | _ => [])
def evV (nm : Nat → Int32) : List Int32 → List Int32 → List Int32
  | [], s => s
  | c :: cs, s => evV nm cs (stpV nm c s)
def wfV : List Int32 → Nat → Prop
  | [], n => n = 1
  | c :: cs, n => (c < 20000 ∧ 0 ≤ c ∧ c < 10004 ∧ wfV cs (n + 1)) ∨ (¬ c < 20000 ∧ c = 20010 ∧ 1 ≤ n ∧ wfV cs n) ∨ (¬ c < 20000 ∧ ¬ c = 20010 ∧ 2 ≤ n ∧ wfV cs (n - 1))
def cdL (T : Nat → Int32) (a : Nat) : Nat → List Int32
  | 0 => []
  | m + 1 => T a :: cdL T (a + 1) m
theorem name_j {c : Int32} (h2 : 0 ≤ c) (h3 : c < 10004) (h10 : ¬ c < 10000) : ∃ j : Nat, j < 4 ∧ c - 10000 = nI j := by
  obtain ⟨q, hq, rfl⟩ := nI_of2 (x := c) (M := 10004) (n := 10004) (by decide +kernel) (Int32.not_lt.mpr h2) (Int32.le_of_lt h3)
  rw [lt_nI_l (by omega)] at h3 h10
  have e1 : (10004 : Int32).toInt = 10004 := by decide +kernel
  have e2 : (10000 : Int32).toInt = 10000 := by decide +kernel
  rw [e1] at h3
  rw [e2] at h10
  refine ⟨q - 10000, by omega, ?_⟩
  rw [show (10000 : Int32) = nI 10000 from rfl, pk_sub (by omega)]
theorem evV_nm {nm nm' : Nat → Int32} (h : ∀ j, j < 4 → nm j = nm' j) : ∀ (cs : List Int32) (n : Nat) (s : List Int32), wfV cs n → evV nm cs s = evV nm' cs s := by
  intro cs
  induction cs with
  | nil => intro n s _; rfl
  | cons c cs ih =>
    intro n s hw
    have e : stpV nm c s = stpV nm' c s := by
      unfold stpV
      rcases hw with ⟨h1, h2, h3, -⟩ | ⟨h1, -⟩ | ⟨h1, -⟩
      · rw [if_pos h1, if_pos h1]
        by_cases h10 : c < 10000
        · rw [if_pos h10, if_pos h10]
        · rw [if_neg h10, if_neg h10]
          obtain ⟨j, hj, hcj⟩ := name_j h2 h3 h10
          rw [hcj, cl_nI (by omega), h j hj]
      · rw [if_neg h1, if_neg h1]
      · rw [if_neg h1, if_neg h1]
    rw [evV, evV, e]
    rcases hw with ⟨h1, h2, h3, h4⟩ | ⟨h1, h2, h3, h4⟩ | ⟨h1, h2, h3, h4⟩ <;> exact ih _ _ h4
theorem m_worked_l (d f0 cnt : Nat) (σ : Hs) (hcnt : σ 88 f0 = nI cnt) : ∀ m k n (F : Nat → Int32) (l4 : Value), wfV (cdL (σ 88) k m) n → n + m ≤ 60 → k + m = f0 + 1 + cnt → k + m ≤ 545 →
    ∃ F', ru (d + 1) 157 4 [.ref 87, .int (nI (f0 + 1)), .int (nI n), .int (nI k), l4] [] (rep σ 98 F) = some (some (.int ((evV (σ 97) (cdL (σ 88) k m) (stk F n)).headD 0)), rep σ 98 F') := by
  intro m
  induction m with
  | zero =>
    intro k n F l4 hw hn hk h545
    have h31 : k < 2147483648 := by omega
    have hf : f0 < 545 := by omega
    have hf31 : f0 < 2147483648 := by omega
    have hc31 : f0 + 1 + cnt < 2147483648 := by omega
    have hw1 : n = 1 := hw
    subst hw1
    refine ⟨F, ?_⟩
    simp only [s157_4]
    simp only [s157_5, s157_6, s157_7_o87, s157_10, s157_11, s157_12, s157_13_o88, s157_14, s157_15, s157_141, s157_142_o87, s157_145, s157_146_o98, s157_147, nI_pred, vp_nI hf, cl_nI hf31, rep_at, hcnt, nI_add, simprocAttr, if_true, if_false, true_and, and_true, false_and, and_false, not_false_eq_true, not_true_eq_false, gd_T, kont_i, kont_v]
    rw [show k = f0 + 1 + cnt by omega]
    rw [if_pos (nI_le (Nat.le_refl _) (by omega))]
    simp only [vp_lit, simprocAttr, if_true, if_false, true_and, and_true, false_and, and_false, not_false_eq_true, not_true_eq_false, gd_T, kont_i, kont_v]
    rfl
  | succ m ih =>
    intro k n F l4 hw hn hk h545
    have h31 : k < 2147483648 := by omega
    have hk545 : k < 545 := by omega
    have hf : f0 < 545 := by omega
    have hf31 : f0 < 2147483648 := by omega
    have hc31 : f0 + 1 + cnt < 2147483648 := by omega
    have hn60 : n < 60 := by omega
    have hn31 : n < 2147483648 := by omega
    have hlt : ¬ nI (f0 + 1 + cnt) ≤ nI k := nI_ge (by omega) (by omega)
    obtain ⟨c, hc⟩ : ∃ c, c = σ 88 k := ⟨_, rfl⟩
    have hcd : cdL (σ 88) k (m + 1) = c :: cdL (σ 88) (k + 1) m := by rw [cdL, ← hc]
    rw [hcd] at hw ⊢
    simp only [s157_4]
    simp only [s157_5, s157_6, s157_7_o87, s157_10, s157_11, s157_12, s157_13_o88, s157_14, s157_15, s157_18, s157_19_o87, s157_22, s157_23_o88, s157_24, s157_26, s157_28, s157_31, nI_pred, vp_nI hf, cl_nI hf31, rep_at, hcnt, nI_add, vp_nI hk545, cl_nI h31, ← hc, simprocAttr, if_true, if_false, true_and, and_true, false_and, and_false, not_false_eq_true, not_true_eq_false, gd_T, kont_i, kont_v]
    rw [if_neg hlt]
    simp only [evV, stpV]
    rcases hw with ⟨h1, h2, h3, h4⟩ | ⟨h1, h2, h3, h4⟩ | ⟨h1, h2, h3, h4⟩
    · rw [if_neg (Int32.not_le.mpr h1), if_pos h1]
      by_cases h10 : c < 10000
      · rw [if_pos h10]
        obtain ⟨F', hi⟩ := ih (k + 1) (n + 1) (upd F n c) (.int c) h4 (by omega) (by omega) (by omega)
        rw [stk_push] at hi
        refine ⟨F', ?_⟩
        rw [← hi]
        simp only [s157_34, s157_35_o87, s157_38, s157_39, s157_41, s157_44, s157_47, s157_49, s157_52, s157_53_o87, s157_56, s157_58, s157_61, s157_62_o97, s157_63_o98, s157_64, s157_67, s157_135, s157_138, vp_nI hn60, cl_nI hn31, up2_rep, rep_rep, rep_at, nI_1, simprocAttr, if_true, if_false, true_and, and_true, false_and, and_false, not_false_eq_true, not_true_eq_false, gd_T, kont_i, kont_v]
        rw [if_neg (Int32.not_le.mpr h10)]
      · rw [if_neg h10]
        obtain ⟨j, hj, hcj⟩ := name_j h2 h3 h10
        obtain ⟨F', hi⟩ := ih (k + 1) (n + 1) (upd F n (σ 97 j)) (.int c) h4 (by omega) (by omega) (by omega)
        rw [stk_push] at hi
        have hj31 : j < 2147483648 := by omega
        refine ⟨F', ?_⟩
        rw [hcj, cl_nI hj31, ← hi]
        simp only [s157_34, s157_35_o87, s157_38, s157_39, s157_41, s157_44, s157_47, s157_49, s157_52, s157_53_o87, s157_56, s157_58, s157_61, s157_62_o97, s157_63_o98, s157_64, s157_67, s157_135, s157_138, vp_nI hn60, cl_nI hn31, hcj, vp_nI hj, cl_nI hj31, up2_rep, rep_rep, rep_at, nI_1, simprocAttr, if_true, if_false, true_and, and_true, false_and, and_false, not_false_eq_true, not_true_eq_false, gd_T, kont_i, kont_v]
        rw [if_pos (Int32.not_lt.mp h10)]
    · subst h2
      obtain ⟨n, rfl⟩ : ∃ q, n = q + 1 := ⟨n - 1, by omega⟩
      have hq60 : n < 60 := by omega
      have hq31 : n < 2147483648 := by omega
      obtain ⟨F', hi⟩ := ih (k + 1) (n + 1) (upd F n (if F n = 0 then 1 else 0)) (.int 20010) h4 (by omega) (by omega) (by omega)
      rw [stk_push] at hi
      refine ⟨F', ?_⟩
      simp only [stk, simprocAttr, if_true, if_false, true_and, and_true, false_and, and_false, not_false_eq_true, not_true_eq_false, gd_T, kont_i, kont_v]
      rw [← hi]
      simp only [s157_70, s157_72, s157_75, s157_78, s157_79_o87, s157_82, s157_83, s157_84, s157_85, s157_86_o87, s157_89, s157_90, s157_91, s157_92_o98, s157_93, s157_96, s157_97, s157_100, s157_101_o98, s157_102, s157_135, s157_138, nI_pred, vp_nI hq60, cl_nI hq31, up2_rep, rep_rep, rep_at, nI_1, simprocAttr, if_true, if_false, true_and, and_true, false_and, and_false, not_false_eq_true, not_true_eq_false, gd_T, kont_i, kont_v]
      by_cases h0 : F n = 0
      · simp only [h0, simprocAttr, if_true, if_false, true_and, and_true, false_and, and_false, not_false_eq_true, not_true_eq_false, gd_T, kont_i, kont_v]
      · simp only [h0, simprocAttr, if_true, if_false, true_and, and_true, false_and, and_false, not_false_eq_true, not_true_eq_false, gd_T, kont_i, kont_v]
    · obtain ⟨n, rfl⟩ : ∃ q, n = q + 2 := ⟨n - 2, by omega⟩
      have hq60 : n < 60 := by omega
      have hq31 : n < 2147483648 := by omega
      have hr60 : n + 1 < 60 := by omega
      have hr31 : n + 1 < 2147483648 := by omega
      obtain ⟨F', hi⟩ := ih (k + 1) (n + 1) (upd F n (doneI c (F n) (F (n + 1)))) (.int c) h4 (by omega) (by omega) (by omega)
      rw [stk_push] at hi
      refine ⟨F', ?_⟩
      rw [if_neg h1, if_neg h2]
      simp only [stk, simprocAttr, if_true, if_false, true_and, and_true, false_and, and_false, not_false_eq_true, not_true_eq_false, gd_T, kont_i, kont_v]
      rw [← hi, if_pos (Int32.not_lt.mp h1)]
      simp only [s157_70, s157_72, s157_75, s157_105, s157_108, s157_109_o87, s157_112, s157_113, s157_114, s157_115, s157_117, s157_118_o87, s157_121, s157_122, s157_123, s157_124_o98, s157_125, s157_126_o87, s157_129, s157_130_o98, s157_131, s157_134_o98, s157_135, s157_138, pk_m1, nI_pred, m_done, vp_nI hq60, cl_nI hq31, vp_nI hr60, cl_nI hr31, up2_rep, rep_rep, rep_at, nI_1, simprocAttr, if_true, if_false, true_and, and_true, false_and, and_false, not_false_eq_true, not_true_eq_false, gd_T, kont_i, kont_v]
      rw [if_neg h2]
def nmF (a b c e : Int32) : Nat → Int32 := fun k => if k = 0 then a else if k = 1 then b else if k = 2 then c else e
def LWT (T : Nat → Int32) (u : Nat) : Prop := ∃ cnt, cnt ≤ 60 ∧ T (359 + 62 * u) = nI cnt ∧ (cnt = 0 ∨ wfV (cdL T (360 + 62 * u) cnt) 0)
/-- what a law answers, unheld -/
def lawT (T : Nat → Int32) (u : Nat) (a b c e : Int32) : Int32 := (evV (nmF a b c e) (cdL T (360 + 62 * u) (T (359 + 62 * u)).toNatClampNeg) []).headD 0
def givT (T : Nat → Int32) (u : Nat) (a b c e : Int32) : Int32 := if T (359 + 62 * u) ≤ 0 then (if u = 0 then a / 4 + 1 else if u = 1 then 1 else if 18 ≤ a then 90 else if 6 ≤ a then 40 else 90) else lawT T u a b c e
theorem m_given_0 (d : Nat) (a b c e : Int32) (σ : Hs) (hL : LWT (σ 88) 0) : ∃ σ', callD (d + 3) 158 [.ref 87, .int 0, .int a, .int b, .int c, .int e] σ = some (some (.int (givT (σ 88) 0 a b c e)), σ') ∧ ∀ o, o ≠ 97 → o ≠ 98 → σ' o = σ o := by
  obtain ⟨cnt, hc60, hcnt, hw⟩ := hL
  have hc31 : cnt < 2147483648 := by omega
  have hcnt' : σ 88 359 = nI cnt := hcnt
  unfold givT lawT
  simp only [hcnt', simprocAttr, if_true, if_false, true_and, and_true, false_and, and_false, not_false_eq_true, not_true_eq_false, gd_T, kont_i, kont_v]
  by_cases h0 : cnt = 0
  · subst h0
    refine ⟨rep σ 97 (upd (upd (upd (upd (σ 97) 0 a) 1 b) 2 c) 3 e), ?_, fun o h1 h2 => rep_ne h1⟩
    simp only [c158, s158_0, s158_1_o87, s158_4, s158_5, s158_6_o97, s158_7, s158_8_o87, s158_11, s158_12, s158_13_o97, s158_14, s158_15_o87, s158_18, s158_19, s158_21_o97, s158_22, s158_23_o87, s158_26, s158_27, s158_29_o97, s158_30, s158_33, s158_35, s158_36, s158_37, s158_38, s158_39, s158_40, s158_42, s158_43_o87, s158_46, s158_48, s158_49, s158_50_o88, s158_51, s158_54, s158_55, s158_57_o87, s158_60, s158_61, s158_62, s158_88, s158_89, s158_90, s158_91, s158_92, s158_93, s158_94, s158_95, s158_96, s158_97, s158_99, s158_102, s158_103, s158_105, s158_108, s158_110, s158_113, s158_115, vp_lit, up2_rep, rep_rep, rep_at, hcnt', show nI 0 = 0 from rfl, z4, not_false_eq_true, Int32.le_refl, simprocAttr, if_true, if_false, true_and, and_true, false_and, and_false, not_false_eq_true, not_true_eq_false, gd_T, kont_i, kont_v]
    try (repeat' split) <;> first | rfl | (exfalso; rename_i q1 q2; exact q1 (Int32.not_lt.mp q2)) | simp_all
  · have hw' := hw.resolve_left h0
    have hpos : ¬ nI cnt ≤ 0 := nI_nle (by omega) hc31
    obtain ⟨F', hi⟩ := m_worked_l d 359 cnt (rep σ 97 (upd (upd (upd (upd (σ 97) 0 a) 1 b) 2 c) 3 e)) (by simp only [rep_at, simprocAttr, if_true, if_false, true_and, and_true, false_and, and_false, not_false_eq_true, not_true_eq_false, gd_T, kont_i, kont_v]; exact hcnt') cnt 360 0 ((rep σ 97 (upd (upd (upd (upd (σ 97) 0 a) 1 b) 2 c) 3 e)) 98) uu (by simp only [rep_at, simprocAttr, if_true, if_false, true_and, and_true, false_and, and_false, not_false_eq_true, not_true_eq_false, gd_T, kont_i, kont_v]; exact hw') (by omega) rfl (by omega)
    refine ⟨rep (rep σ 97 (upd (upd (upd (upd (σ 97) 0 a) 1 b) 2 c) 3 e)) 98 F', ?_, fun o h1 h2 => (rep_ne h2).trans (rep_ne h1)⟩
    rw [rep_same] at hi
    simp only [rep_at, simprocAttr, if_true, if_false, true_and, and_true, false_and, and_false, not_false_eq_true, not_true_eq_false, gd_T, kont_i, kont_v] at hi
    rw [evV_nm (nm' := nmF a b c e) (by intro j hj; have : j = 0 ∨ j = 1 ∨ j = 2 ∨ j = 3 := by omega
                                        rcases this with rfl | rfl | rfl | rfl <;> simp [upd, nmF]) _ 0 _ hw'] at hi
    simp only [c158, s158_0, s158_1_o87, s158_4, s158_5, s158_6_o97, s158_7, s158_8_o87, s158_11, s158_12, s158_13_o97, s158_14, s158_15_o87, s158_18, s158_19, s158_21_o97, s158_22, s158_23_o87, s158_26, s158_27, s158_29_o97, s158_30, s158_33, s158_35, s158_36, s158_37, s158_38, s158_39, s158_40, s158_42, s158_43_o87, s158_46, s158_48, s158_49, s158_50_o88, s158_51, s158_54, s158_55, s158_57_o87, s158_60, s158_61, s158_62, s158_88, s158_89, s158_90, s158_91, s158_92, s158_93, s158_94, s158_95, s158_96, s158_97, s158_99, s158_102, s158_103, s158_105, s158_108, s158_110, s158_113, s158_115, vp_lit, up2_rep, rep_rep, rep_at, hcnt', simprocAttr, if_true, if_false, true_and, and_true, false_and, and_false, not_false_eq_true, not_true_eq_false, gd_T, kont_i, kont_v]
    rw [if_neg hpos, if_neg hpos, cl_nI hc31]
    have e360 : (360 : Int32) = nI 360 := rfl
    simp only [s157_0, s157_1, s157_2, s157_3, c157, e360, simprocAttr, if_true, if_false, true_and, and_true, false_and, and_false, not_false_eq_true, not_true_eq_false, gd_T, kont_i, kont_v]
    rw [show (0 : Int32) = nI 0 from rfl, hi, kont_i]
    simp only [s158_60]
    rfl
theorem m_given_1 (d : Nat) (a b c e : Int32) (σ : Hs) (hL : LWT (σ 88) 1) : ∃ σ', callD (d + 3) 158 [.ref 87, .int 1, .int a, .int b, .int c, .int e] σ = some (some (.int (givT (σ 88) 1 a b c e)), σ') ∧ ∀ o, o ≠ 97 → o ≠ 98 → σ' o = σ o := by
  obtain ⟨cnt, hc60, hcnt, hw⟩ := hL
  have hc31 : cnt < 2147483648 := by omega
  have hcnt' : σ 88 421 = nI cnt := hcnt
  unfold givT lawT
  simp only [hcnt', simprocAttr, if_true, if_false, true_and, and_true, false_and, and_false, not_false_eq_true, not_true_eq_false, gd_T, kont_i, kont_v]
  by_cases h0 : cnt = 0
  · subst h0
    refine ⟨rep σ 97 (upd (upd (upd (upd (σ 97) 0 a) 1 b) 2 c) 3 e), ?_, fun o h1 h2 => rep_ne h1⟩
    simp only [c158, s158_0, s158_1_o87, s158_4, s158_5, s158_6_o97, s158_7, s158_8_o87, s158_11, s158_12, s158_13_o97, s158_14, s158_15_o87, s158_18, s158_19, s158_21_o97, s158_22, s158_23_o87, s158_26, s158_27, s158_29_o97, s158_30, s158_33, s158_35, s158_36, s158_37, s158_38, s158_39, s158_40, s158_42, s158_43_o87, s158_46, s158_48, s158_49, s158_50_o88, s158_51, s158_54, s158_55, s158_57_o87, s158_60, s158_61, s158_62, s158_88, s158_89, s158_90, s158_91, s158_92, s158_93, s158_94, s158_95, s158_96, s158_97, s158_99, s158_102, s158_103, s158_105, s158_108, s158_110, s158_113, s158_115, vp_lit, up2_rep, rep_rep, rep_at, hcnt', show nI 0 = 0 from rfl, z4, not_false_eq_true, Int32.le_refl, simprocAttr, if_true, if_false, true_and, and_true, false_and, and_false, not_false_eq_true, not_true_eq_false, gd_T, kont_i, kont_v]
    try (repeat' split) <;> first | rfl | (exfalso; rename_i q1 q2; exact q1 (Int32.not_lt.mp q2)) | simp_all
  · have hw' := hw.resolve_left h0
    have hpos : ¬ nI cnt ≤ 0 := nI_nle (by omega) hc31
    obtain ⟨F', hi⟩ := m_worked_l d 421 cnt (rep σ 97 (upd (upd (upd (upd (σ 97) 0 a) 1 b) 2 c) 3 e)) (by simp only [rep_at, simprocAttr, if_true, if_false, true_and, and_true, false_and, and_false, not_false_eq_true, not_true_eq_false, gd_T, kont_i, kont_v]; exact hcnt') cnt 422 0 ((rep σ 97 (upd (upd (upd (upd (σ 97) 0 a) 1 b) 2 c) 3 e)) 98) uu (by simp only [rep_at, simprocAttr, if_true, if_false, true_and, and_true, false_and, and_false, not_false_eq_true, not_true_eq_false, gd_T, kont_i, kont_v]; exact hw') (by omega) rfl (by omega)
    refine ⟨rep (rep σ 97 (upd (upd (upd (upd (σ 97) 0 a) 1 b) 2 c) 3 e)) 98 F', ?_, fun o h1 h2 => (rep_ne h2).trans (rep_ne h1)⟩
    rw [rep_same] at hi
    simp only [rep_at, simprocAttr, if_true, if_false, true_and, and_true, false_and, and_false, not_false_eq_true, not_true_eq_false, gd_T, kont_i, kont_v] at hi
    rw [evV_nm (nm' := nmF a b c e) (by intro j hj; have : j = 0 ∨ j = 1 ∨ j = 2 ∨ j = 3 := by omega
                                        rcases this with rfl | rfl | rfl | rfl <;> simp [upd, nmF]) _ 0 _ hw'] at hi
    simp only [c158, s158_0, s158_1_o87, s158_4, s158_5, s158_6_o97, s158_7, s158_8_o87, s158_11, s158_12, s158_13_o97, s158_14, s158_15_o87, s158_18, s158_19, s158_21_o97, s158_22, s158_23_o87, s158_26, s158_27, s158_29_o97, s158_30, s158_33, s158_35, s158_36, s158_37, s158_38, s158_39, s158_40, s158_42, s158_43_o87, s158_46, s158_48, s158_49, s158_50_o88, s158_51, s158_54, s158_55, s158_57_o87, s158_60, s158_61, s158_62, s158_88, s158_89, s158_90, s158_91, s158_92, s158_93, s158_94, s158_95, s158_96, s158_97, s158_99, s158_102, s158_103, s158_105, s158_108, s158_110, s158_113, s158_115, vp_lit, up2_rep, rep_rep, rep_at, hcnt', simprocAttr, if_true, if_false, true_and, and_true, false_and, and_false, not_false_eq_true, not_true_eq_false, gd_T, kont_i, kont_v]
    rw [if_neg hpos, if_neg hpos, cl_nI hc31]
    have e360 : (422 : Int32) = nI 422 := rfl
    simp only [s157_0, s157_1, s157_2, s157_3, c157, e360, simprocAttr, if_true, if_false, true_and, and_true, false_and, and_false, not_false_eq_true, not_true_eq_false, gd_T, kont_i, kont_v]
    rw [show (0 : Int32) = nI 0 from rfl, hi, kont_i]
    simp only [s158_60]
    rfl
theorem m_given_2 (d : Nat) (a b c e : Int32) (σ : Hs) (hL : LWT (σ 88) 2) : ∃ σ', callD (d + 3) 158 [.ref 87, .int 2, .int a, .int b, .int c, .int e] σ = some (some (.int (givT (σ 88) 2 a b c e)), σ') ∧ ∀ o, o ≠ 97 → o ≠ 98 → σ' o = σ o := by
  obtain ⟨cnt, hc60, hcnt, hw⟩ := hL
  have hc31 : cnt < 2147483648 := by omega
  have hcnt' : σ 88 483 = nI cnt := hcnt
  unfold givT lawT
  simp only [hcnt', simprocAttr, if_true, if_false, true_and, and_true, false_and, and_false, not_false_eq_true, not_true_eq_false, gd_T, kont_i, kont_v]
  by_cases h0 : cnt = 0
  · subst h0
    refine ⟨rep σ 97 (upd (upd (upd (upd (σ 97) 0 a) 1 b) 2 c) 3 e), ?_, fun o h1 h2 => rep_ne h1⟩
    simp only [c158, s158_0, s158_1_o87, s158_4, s158_5, s158_6_o97, s158_7, s158_8_o87, s158_11, s158_12, s158_13_o97, s158_14, s158_15_o87, s158_18, s158_19, s158_21_o97, s158_22, s158_23_o87, s158_26, s158_27, s158_29_o97, s158_30, s158_33, s158_35, s158_36, s158_37, s158_38, s158_39, s158_40, s158_42, s158_43_o87, s158_46, s158_48, s158_49, s158_50_o88, s158_51, s158_54, s158_55, s158_57_o87, s158_60, s158_61, s158_62, s158_88, s158_89, s158_90, s158_91, s158_92, s158_93, s158_94, s158_95, s158_96, s158_97, s158_99, s158_102, s158_103, s158_105, s158_108, s158_110, s158_113, s158_115, vp_lit, up2_rep, rep_rep, rep_at, hcnt', show nI 0 = 0 from rfl, z4, not_false_eq_true, Int32.le_refl, simprocAttr, if_true, if_false, true_and, and_true, false_and, and_false, not_false_eq_true, not_true_eq_false, gd_T, kont_i, kont_v]
    try (repeat' split) <;> first | rfl | (exfalso; rename_i q1 q2; exact q1 (Int32.not_lt.mp q2)) | simp_all
  · have hw' := hw.resolve_left h0
    have hpos : ¬ nI cnt ≤ 0 := nI_nle (by omega) hc31
    obtain ⟨F', hi⟩ := m_worked_l d 483 cnt (rep σ 97 (upd (upd (upd (upd (σ 97) 0 a) 1 b) 2 c) 3 e)) (by simp only [rep_at, simprocAttr, if_true, if_false, true_and, and_true, false_and, and_false, not_false_eq_true, not_true_eq_false, gd_T, kont_i, kont_v]; exact hcnt') cnt 484 0 ((rep σ 97 (upd (upd (upd (upd (σ 97) 0 a) 1 b) 2 c) 3 e)) 98) uu (by simp only [rep_at, simprocAttr, if_true, if_false, true_and, and_true, false_and, and_false, not_false_eq_true, not_true_eq_false, gd_T, kont_i, kont_v]; exact hw') (by omega) rfl (by omega)
    refine ⟨rep (rep σ 97 (upd (upd (upd (upd (σ 97) 0 a) 1 b) 2 c) 3 e)) 98 F', ?_, fun o h1 h2 => (rep_ne h2).trans (rep_ne h1)⟩
    rw [rep_same] at hi
    simp only [rep_at, simprocAttr, if_true, if_false, true_and, and_true, false_and, and_false, not_false_eq_true, not_true_eq_false, gd_T, kont_i, kont_v] at hi
    rw [evV_nm (nm' := nmF a b c e) (by intro j hj; have : j = 0 ∨ j = 1 ∨ j = 2 ∨ j = 3 := by omega
                                        rcases this with rfl | rfl | rfl | rfl <;> simp [upd, nmF]) _ 0 _ hw'] at hi
    simp only [c158, s158_0, s158_1_o87, s158_4, s158_5, s158_6_o97, s158_7, s158_8_o87, s158_11, s158_12, s158_13_o97, s158_14, s158_15_o87, s158_18, s158_19, s158_21_o97, s158_22, s158_23_o87, s158_26, s158_27, s158_29_o97, s158_30, s158_33, s158_35, s158_36, s158_37, s158_38, s158_39, s158_40, s158_42, s158_43_o87, s158_46, s158_48, s158_49, s158_50_o88, s158_51, s158_54, s158_55, s158_57_o87, s158_60, s158_61, s158_62, s158_88, s158_89, s158_90, s158_91, s158_92, s158_93, s158_94, s158_95, s158_96, s158_97, s158_99, s158_102, s158_103, s158_105, s158_108, s158_110, s158_113, s158_115, vp_lit, up2_rep, rep_rep, rep_at, hcnt', simprocAttr, if_true, if_false, true_and, and_true, false_and, and_false, not_false_eq_true, not_true_eq_false, gd_T, kont_i, kont_v]
    rw [if_neg hpos, if_neg hpos, cl_nI hc31]
    have e360 : (484 : Int32) = nI 484 := rfl
    simp only [s157_0, s157_1, s157_2, s157_3, c157, e360, simprocAttr, if_true, if_false, true_and, and_true, false_and, and_false, not_false_eq_true, not_true_eq_false, gd_T, kont_i, kont_v]
    rw [show (0 : Int32) = nI 0 from rfl, hi, kont_i]
    simp only [s158_60]
    rfl
