/-! ===== the model: laws in texts ===== -/
def stk (F : Nat → Int32) : Nat → List Int32
  | 0 => []
  | n + 1 => F n :: stk F n
theorem stk_upd {F : Nat → Int32} {k : Nat} {v : Int32} : ∀ n, n ≤ k → stk (upd F k v) n = stk F n := by
  intro n
  induction n with
  | zero => intro _; rfl
  | succ n ih =>
    intro h
    rw [stk, stk, ih (by omega)]
    congr 1
    simp only [upd]
    rw [if_neg (by omega)]
theorem stk_push {F : Nat → Int32} {n : Nat} {v : Int32} : stk (upd F n v) (n + 1) = v :: stk F n := by
  rw [stk, stk_upd n (Nat.le_refl _)]
  congr 1
  simp [upd]
def doneI (op a b : Int32) : Int32 := if op = 20000 then (if a = 0 then (if b = 0 then 0 else 1) else 1) else if op = 20001 then (if a = 0 then 0 else (if b = 0 then 0 else 1)) else if op = 20002 then (if b ≤ a then 0 else 1) else if op = 20003 then (if a = b then 1 else 0) else if op = 20004 then (if a ≤ b then 0 else 1) else if op = 20005 then a + b else if op = 20006 then a - b else if op = 20007 then a * b else if op = 20008 then (if b = 0 then 0 else a / b) else (if b = 0 then 0 else a - a / b * b)
theorem m_done (d : Nat) (op a b : Int32) (σ : Hs) : callD (d + 1) 157 [.int op, .int a, .int b] σ = some (some (.int (doneI op a b)), σ) := by
  simp only [c157, s157_0, s157_1, s157_52, s157_53, s157_56, s157_57, s157_60, s157_61, s157_64, s157_65, s157_66, s157_67, s157_70, s157_71, s157_74, s157_75, s157_78, s157_79, s157_80, s157_81, s157_82, s157_85, s157_86, s157_89, s157_90, s157_91, s157_92, s157_93, s157_96, s157_97, s157_100, s157_101, s157_102, s157_103, s157_104, s157_107, s157_108, s157_111, s157_112, s157_113, s157_114, s157_115, s157_116, s157_117, s157_118, s157_119, s157_120, s157_121, s157_122, s157_123, s157_124, s157_125, s157_126, s157_129, s157_130, s157_133, s157_134, s157_135, s157_136, s157_137, s157_138, s157_141, s157_142, s157_145, s157_146, s157_147, s157_148, simprocAttr, if_true, if_false, true_and, and_true, false_and, and_false, not_false_eq_true, not_true_eq_false, gd_T, kont_i, kont_v]
  unfold doneI
  by_cases hb : b = 0
  · subst hb
    simp only [not_true_eq_false, simprocAttr, if_true, if_false, true_and, and_true, false_and, and_false, not_false_eq_true, not_true_eq_false, gd_T, kont_i, kont_v]
    repeat' split
    all_goals first | rfl | simp_all
  · rw [gd_pos hb, gd_pos hb]
    simp only [hb, simprocAttr, if_true, if_false, true_and, and_true, false_and, and_false, not_false_eq_true, not_true_eq_false, gd_T, kont_i, kont_v]
    repeat' split
    all_goals first | rfl | simp_all
def stpV (nm : Nat → Int32) (c : Int32) (s : List Int32) : List Int32 :=
  if c < 20000 then (if c < 10000 then c else nm (c - 10000).toNatClampNeg) :: s
  else if c = 20010 then (match s with
    | a :: r => (if a = 0 then 1 else 0) :: r
    | [] => [])
  else (match s with
    | b :: a :: r => doneI c a b :: r
    | _ => [])
def evV (nm : Nat → Int32) : List Int32 → List Int32 → List Int32
  | [], s => s
  | c :: cs, s => evV nm cs (stpV nm c s)
def wfV : List Int32 → Nat → Prop
  | [], n => n = 1
  | c :: cs, n => (c < 20000 ∧ 0 ≤ c ∧ c < 10004 ∧ wfV cs (n + 1)) ∨ (¬ c < 20000 ∧ c = 20010 ∧ 1 ≤ n ∧ wfV cs n) ∨ (¬ c < 20000 ∧ ¬ c = 20010 ∧ 2 ≤ n ∧ wfV cs (n - 1))
def cdL (T : Nat → Int32) (a : Nat) : Nat → List Int32
  | 0 => []
  | m + 1 => T a :: cdL T (a + 1) m
theorem name_j {c : Int32} (h2 : 0 ≤ c) (h3 : c < 10004) (h10 : ¬ c < 10000) : ∃ j : Nat, j < 4 ∧ c - 10000 = nI j := by
  obtain ⟨q, hq, rfl⟩ := nI_of2 (x := c) (M := 10004) (n := 10004) (by decide +kernel) (Int32.not_lt.mpr h2) (Int32.le_of_lt h3)
  rw [lt_nI_l (by omega)] at h3 h10
  have e1 : (10004 : Int32).toInt = 10004 := by decide +kernel
  have e2 : (10000 : Int32).toInt = 10000 := by decide +kernel
  rw [e1] at h3
  rw [e2] at h10
  refine ⟨q - 10000, by omega, ?_⟩
  rw [show (10000 : Int32) = nI 10000 from rfl, pk_sub (by omega)]
theorem evV_nm {nm nm' : Nat → Int32} (h : ∀ j, j < 4 → nm j = nm' j) : ∀ (cs : List Int32) (n : Nat) (s : List Int32), wfV cs n → evV nm cs s = evV nm' cs s := by
  intro cs
  induction cs with
  | nil => intro n s _; rfl
  | cons c cs ih =>
    intro n s hw
    have e : stpV nm c s = stpV nm' c s := by
      unfold stpV
      rcases hw with ⟨h1, h2, h3, -⟩ | ⟨h1, -⟩ | ⟨h1, -⟩
      · rw [if_pos h1, if_pos h1]
        by_cases h10 : c < 10000
        · rw [if_pos h10, if_pos h10]
        · rw [if_neg h10, if_neg h10]
          obtain ⟨j, hj, hcj⟩ := name_j h2 h3 h10
          rw [hcj, cl_nI (by omega), h j hj]
      · rw [if_neg h1, if_neg h1]
      · rw [if_neg h1, if_neg h1]
    rw [evV, evV, e]
    rcases hw with ⟨h1, h2, h3, h4⟩ | ⟨h1, h2, h3, h4⟩ | ⟨h1, h2, h3, h4⟩ <;> exact ih _ _ h4
theorem m_worked_l (d f0 cnt : Nat) (σ : Hs) (hcnt : σ 88 f0 = nI cnt) : ∀ m k n (F : Nat → Int32) (l4 : Value), wfV (cdL (σ 88) k m) n → n + m ≤ 60 → k + m = f0 + 1 + cnt → k + m ≤ 545 →
    ∃ F', ru (d + 1) 158 4 [.ref 87, .int (nI (f0 + 1)), .int (nI n), .int (nI k), l4] [] (rep σ 98 F) = some (some (.int ((evV (σ 97) (cdL (σ 88) k m) (stk F n)).headD 0)), rep σ 98 F') := by
  intro m
  induction m with
  | zero =>
    intro k n F l4 hw hn hk h545
    have h31 : k < 2147483648 := by omega
    have hf : f0 < 545 := by omega
    have hf31 : f0 < 2147483648 := by omega
    have hc31 : f0 + 1 + cnt < 2147483648 := by omega
    have hw1 : n = 1 := hw
    subst hw1
    refine ⟨F, ?_⟩
    simp only [s158_4]
    simp only [s158_5, s158_6, s158_7_o87, s158_10, s158_11, s158_12, s158_13_o88, s158_14, s158_15, s158_141, s158_142_o87, s158_145, s158_146_o98, s158_147, nI_pred, vp_nI hf, cl_nI hf31, rep_at, hcnt, nI_add, simprocAttr, if_true, if_false, true_and, and_true, false_and, and_false, not_false_eq_true, not_true_eq_false, gd_T, kont_i, kont_v]
    rw [show k = f0 + 1 + cnt by omega]
    rw [if_pos (nI_le (Nat.le_refl _) (by omega))]
    simp only [vp_lit, simprocAttr, if_true, if_false, true_and, and_true, false_and, and_false, not_false_eq_true, not_true_eq_false, gd_T, kont_i, kont_v]
    rfl
  | succ m ih =>
    intro k n F l4 hw hn hk h545
    have h31 : k < 2147483648 := by omega
    have hk545 : k < 545 := by omega
    have hf : f0 < 545 := by omega
    have hf31 : f0 < 2147483648 := by omega
    have hc31 : f0 + 1 + cnt < 2147483648 := by omega
    have hn60 : n < 60 := by omega
    have hn31 : n < 2147483648 := by omega
    have hlt : ¬ nI (f0 + 1 + cnt) ≤ nI k := nI_ge (by omega) (by omega)
    obtain ⟨c, hc⟩ : ∃ c, c = σ 88 k := ⟨_, rfl⟩
    have hcd : cdL (σ 88) k (m + 1) = c :: cdL (σ 88) (k + 1) m := by rw [cdL, ← hc]
    rw [hcd] at hw ⊢
    simp only [s158_4]
    simp only [s158_5, s158_6, s158_7_o87, s158_10, s158_11, s158_12, s158_13_o88, s158_14, s158_15, s158_18, s158_19_o87, s158_22, s158_23_o88, s158_24, s158_26, s158_28, s158_31, nI_pred, vp_nI hf, cl_nI hf31, rep_at, hcnt, nI_add, vp_nI hk545, cl_nI h31, ← hc, simprocAttr, if_true, if_false, true_and, and_true, false_and, and_false, not_false_eq_true, not_true_eq_false, gd_T, kont_i, kont_v]
    rw [if_neg hlt]
    simp only [evV, stpV]
    rcases hw with ⟨h1, h2, h3, h4⟩ | ⟨h1, h2, h3, h4⟩ | ⟨h1, h2, h3, h4⟩
    · rw [if_neg (Int32.not_le.mpr h1), if_pos h1]
      by_cases h10 : c < 10000
      · rw [if_pos h10]
        obtain ⟨F', hi⟩ := ih (k + 1) (n + 1) (upd F n c) (.int c) h4 (by omega) (by omega) (by omega)
        rw [stk_push] at hi
        refine ⟨F', ?_⟩
        rw [← hi]
        simp only [s158_34, s158_35_o87, s158_38, s158_39, s158_41, s158_44, s158_47, s158_49, s158_52, s158_53_o87, s158_56, s158_58, s158_61, s158_62_o97, s158_63_o98, s158_64, s158_67, s158_135, s158_138, vp_nI hn60, cl_nI hn31, up2_rep, rep_rep, rep_at, nI_1, simprocAttr, if_true, if_false, true_and, and_true, false_and, and_false, not_false_eq_true, not_true_eq_false, gd_T, kont_i, kont_v]
        rw [if_neg (Int32.not_le.mpr h10)]
      · rw [if_neg h10]
        obtain ⟨j, hj, hcj⟩ := name_j h2 h3 h10
        obtain ⟨F', hi⟩ := ih (k + 1) (n + 1) (upd F n (σ 97 j)) (.int c) h4 (by omega) (by omega) (by omega)
        rw [stk_push] at hi
        have hj31 : j < 2147483648 := by omega
        refine ⟨F', ?_⟩
        rw [hcj, cl_nI hj31, ← hi]
        simp only [s158_34, s158_35_o87, s158_38, s158_39, s158_41, s158_44, s158_47, s158_49, s158_52, s158_53_o87, s158_56, s158_58, s158_61, s158_62_o97, s158_63_o98, s158_64, s158_67, s158_135, s158_138, vp_nI hn60, cl_nI hn31, hcj, vp_nI hj, cl_nI hj31, up2_rep, rep_rep, rep_at, nI_1, simprocAttr, if_true, if_false, true_and, and_true, false_and, and_false, not_false_eq_true, not_true_eq_false, gd_T, kont_i, kont_v]
        rw [if_pos (Int32.not_lt.mp h10)]
    · subst h2
      obtain ⟨n, rfl⟩ : ∃ q, n = q + 1 := ⟨n - 1, by omega⟩
      have hq60 : n < 60 := by omega
      have hq31 : n < 2147483648 := by omega
      obtain ⟨F', hi⟩ := ih (k + 1) (n + 1) (upd F n (if F n = 0 then 1 else 0)) (.int 20010) h4 (by omega) (by omega) (by omega)
      rw [stk_push] at hi
      refine ⟨F', ?_⟩
      simp only [stk, simprocAttr, if_true, if_false, true_and, and_true, false_and, and_false, not_false_eq_true, not_true_eq_false, gd_T, kont_i, kont_v]
      rw [← hi]
      simp only [s158_70, s158_72, s158_75, s158_78, s158_79_o87, s158_82, s158_83, s158_84, s158_85, s158_86_o87, s158_89, s158_90, s158_91, s158_92_o98, s158_93, s158_96, s158_97, s158_100, s158_101_o98, s158_102, s158_135, s158_138, nI_pred, vp_nI hq60, cl_nI hq31, up2_rep, rep_rep, rep_at, nI_1, simprocAttr, if_true, if_false, true_and, and_true, false_and, and_false, not_false_eq_true, not_true_eq_false, gd_T, kont_i, kont_v]
      by_cases h0 : F n = 0
      · simp only [h0, simprocAttr, if_true, if_false, true_and, and_true, false_and, and_false, not_false_eq_true, not_true_eq_false, gd_T, kont_i, kont_v]
      · simp only [h0, simprocAttr, if_true, if_false, true_and, and_true, false_and, and_false, not_false_eq_true, not_true_eq_false, gd_T, kont_i, kont_v]
    · obtain ⟨n, rfl⟩ : ∃ q, n = q + 2 := ⟨n - 2, by omega⟩
      have hq60 : n < 60 := by omega
      have hq31 : n < 2147483648 := by omega
      have hr60 : n + 1 < 60 := by omega
      have hr31 : n + 1 < 2147483648 := by omega
      obtain ⟨F', hi⟩ := ih (k + 1) (n + 1) (upd F n (doneI c (F n) (F (n + 1)))) (.int c) h4 (by omega) (by omega) (by omega)
      rw [stk_push] at hi
      refine ⟨F', ?_⟩
      rw [if_neg h1, if_neg h2]
      simp only [stk, simprocAttr, if_true, if_false, true_and, and_true, false_and, and_false, not_false_eq_true, not_true_eq_false, gd_T, kont_i, kont_v]
      rw [← hi, if_pos (Int32.not_lt.mp h1)]
      simp only [s158_70, s158_72, s158_75, s158_105, s158_108, s158_109_o87, s158_112, s158_113, s158_114, s158_115, s158_117, s158_118_o87, s158_121, s158_122, s158_123, s158_124_o98, s158_125, s158_126_o87, s158_129, s158_130_o98, s158_131, s158_134_o98, s158_135, s158_138, pk_m1, nI_pred, m_done, vp_nI hq60, cl_nI hq31, vp_nI hr60, cl_nI hr31, up2_rep, rep_rep, rep_at, nI_1, simprocAttr, if_true, if_false, true_and, and_true, false_and, and_false, not_false_eq_true, not_true_eq_false, gd_T, kont_i, kont_v]
      rw [if_neg h2]
def nmF (a b c e : Int32) : Nat → Int32 := fun k => if k = 0 then a else if k = 1 then b else if k = 2 then c else e
def LWT (T : Nat → Int32) (u : Nat) : Prop := ∃ cnt, cnt ≤ 60 ∧ T (359 + 62 * u) = nI cnt ∧ (cnt = 0 ∨ wfV (cdL T (360 + 62 * u) cnt) 0)
/-- what a law answers, unheld -/
def lawT (T : Nat → Int32) (u : Nat) (a b c e : Int32) : Int32 := (evV (nmF a b c e) (cdL T (360 + 62 * u) (T (359 + 62 * u)).toNatClampNeg) []).headD 0
def givT (T : Nat → Int32) (u : Nat) (a b c e : Int32) : Int32 := if T (359 + 62 * u) ≤ 0 then (if u = 0 then a / 4 + 1 else if u = 1 then 1 else if 18 ≤ a then 90 else if 6 ≤ a then 40 else 90) else lawT T u a b c e
theorem m_given_0 (d : Nat) (a b c e : Int32) (σ : Hs) (hL : LWT (σ 88) 0) : ∃ σ', callD (d + 3) 159 [.ref 87, .int 0, .int a, .int b, .int c, .int e] σ = some (some (.int (givT (σ 88) 0 a b c e)), σ') ∧ ∀ o, o ≠ 97 → o ≠ 98 → σ' o = σ o := by
  obtain ⟨cnt, hc60, hcnt, hw⟩ := hL
  have hc31 : cnt < 2147483648 := by omega
  have hcnt' : σ 88 359 = nI cnt := hcnt
  unfold givT lawT
  simp only [hcnt', simprocAttr, if_true, if_false, true_and, and_true, false_and, and_false, not_false_eq_true, not_true_eq_false, gd_T, kont_i, kont_v]
  by_cases h0 : cnt = 0
  · subst h0
    refine ⟨rep σ 97 (upd (upd (upd (upd (σ 97) 0 a) 1 b) 2 c) 3 e), ?_, fun o h1 h2 => rep_ne h1⟩
    simp only [c159, s159_0, s159_1_o87, s159_4, s159_5, s159_6_o97, s159_7, s159_8_o87, s159_11, s159_12, s159_13_o97, s159_14, s159_15_o87, s159_18, s159_19, s159_21_o97, s159_22, s159_23_o87, s159_26, s159_27, s159_29_o97, s159_30, s159_33, s159_35, s159_36, s159_37, s159_38, s159_39, s159_40, s159_42, s159_43_o87, s159_46, s159_48, s159_49, s159_50_o88, s159_51, s159_54, s159_55, s159_57_o87, s159_60, s159_61, s159_62, s159_88, s159_89, s159_90, s159_91, s159_92, s159_93, s159_94, s159_95, s159_96, s159_97, s159_99, s159_102, s159_103, s159_105, s159_108, s159_110, s159_113, s159_115, vp_lit, up2_rep, rep_rep, rep_at, hcnt', show nI 0 = 0 from rfl, z4, not_false_eq_true, Int32.le_refl, simprocAttr, if_true, if_false, true_and, and_true, false_and, and_false, not_false_eq_true, not_true_eq_false, gd_T, kont_i, kont_v]
    try (repeat' split) <;> first | rfl | (exfalso; rename_i q1 q2; exact q1 (Int32.not_lt.mp q2)) | simp_all
  · have hw' := hw.resolve_left h0
    have hpos : ¬ nI cnt ≤ 0 := nI_nle (by omega) hc31
    obtain ⟨F', hi⟩ := m_worked_l d 359 cnt (rep σ 97 (upd (upd (upd (upd (σ 97) 0 a) 1 b) 2 c) 3 e)) (by simp only [rep_at, simprocAttr, if_true, if_false, true_and, and_true, false_and, and_false, not_false_eq_true, not_true_eq_false, gd_T, kont_i, kont_v]; exact hcnt') cnt 360 0 ((rep σ 97 (upd (upd (upd (upd (σ 97) 0 a) 1 b) 2 c) 3 e)) 98) uu (by simp only [rep_at, simprocAttr, if_true, if_false, true_and, and_true, false_and, and_false, not_false_eq_true, not_true_eq_false, gd_T, kont_i, kont_v]; exact hw') (by omega) rfl (by omega)
    refine ⟨rep (rep σ 97 (upd (upd (upd (upd (σ 97) 0 a) 1 b) 2 c) 3 e)) 98 F', ?_, fun o h1 h2 => (rep_ne h2).trans (rep_ne h1)⟩
    rw [rep_same] at hi
    simp only [rep_at, simprocAttr, if_true, if_false, true_and, and_true, false_and, and_false, not_false_eq_true, not_true_eq_false, gd_T, kont_i, kont_v] at hi
    rw [evV_nm (nm' := nmF a b c e) (by intro j hj; have : j = 0 ∨ j = 1 ∨ j = 2 ∨ j = 3 := by omega
                                        rcases this with rfl | rfl | rfl | rfl <;> simp [upd, nmF]) _ 0 _ hw'] at hi
    simp only [c159, s159_0, s159_1_o87, s159_4, s159_5, s159_6_o97, s159_7, s159_8_o87, s159_11, s159_12, s159_13_o97, s159_14, s159_15_o87, s159_18, s159_19, s159_21_o97, s159_22, s159_23_o87, s159_26, s159_27, s159_29_o97, s159_30, s159_33, s159_35, s159_36, s159_37, s159_38, s159_39, s159_40, s159_42, s159_43_o87, s159_46, s159_48, s159_49, s159_50_o88, s159_51, s159_54, s159_55, s159_57_o87, s159_60, s159_61, s159_62, s159_88, s159_89, s159_90, s159_91, s159_92, s159_93, s159_94, s159_95, s159_96, s159_97, s159_99, s159_102, s159_103, s159_105, s159_108, s159_110, s159_113, s159_115, vp_lit, up2_rep, rep_rep, rep_at, hcnt', simprocAttr, if_true, if_false, true_and, and_true, false_and, and_false, not_false_eq_true, not_true_eq_false, gd_T, kont_i, kont_v]
    rw [if_neg hpos, if_neg hpos, cl_nI hc31]
    have e360 : (360 : Int32) = nI 360 := rfl
    simp only [s158_0, s158_1, s158_2, s158_3, c158, e360, simprocAttr, if_true, if_false, true_and, and_true, false_and, and_false, not_false_eq_true, not_true_eq_false, gd_T, kont_i, kont_v]
    rw [show (0 : Int32) = nI 0 from rfl, hi, kont_i]
    simp only [s159_60]
    rfl
theorem m_given_1 (d : Nat) (a b c e : Int32) (σ : Hs) (hL : LWT (σ 88) 1) : ∃ σ', callD (d + 3) 159 [.ref 87, .int 1, .int a, .int b, .int c, .int e] σ = some (some (.int (givT (σ 88) 1 a b c e)), σ') ∧ ∀ o, o ≠ 97 → o ≠ 98 → σ' o = σ o := by
  obtain ⟨cnt, hc60, hcnt, hw⟩ := hL
  have hc31 : cnt < 2147483648 := by omega
  have hcnt' : σ 88 421 = nI cnt := hcnt
  unfold givT lawT
  simp only [hcnt', simprocAttr, if_true, if_false, true_and, and_true, false_and, and_false, not_false_eq_true, not_true_eq_false, gd_T, kont_i, kont_v]
  by_cases h0 : cnt = 0
  · subst h0
    refine ⟨rep σ 97 (upd (upd (upd (upd (σ 97) 0 a) 1 b) 2 c) 3 e), ?_, fun o h1 h2 => rep_ne h1⟩
    simp only [c159, s159_0, s159_1_o87, s159_4, s159_5, s159_6_o97, s159_7, s159_8_o87, s159_11, s159_12, s159_13_o97, s159_14, s159_15_o87, s159_18, s159_19, s159_21_o97, s159_22, s159_23_o87, s159_26, s159_27, s159_29_o97, s159_30, s159_33, s159_35, s159_36, s159_37, s159_38, s159_39, s159_40, s159_42, s159_43_o87, s159_46, s159_48, s159_49, s159_50_o88, s159_51, s159_54, s159_55, s159_57_o87, s159_60, s159_61, s159_62, s159_88, s159_89, s159_90, s159_91, s159_92, s159_93, s159_94, s159_95, s159_96, s159_97, s159_99, s159_102, s159_103, s159_105, s159_108, s159_110, s159_113, s159_115, vp_lit, up2_rep, rep_rep, rep_at, hcnt', show nI 0 = 0 from rfl, z4, not_false_eq_true, Int32.le_refl, simprocAttr, if_true, if_false, true_and, and_true, false_and, and_false, not_false_eq_true, not_true_eq_false, gd_T, kont_i, kont_v]
    try (repeat' split) <;> first | rfl | (exfalso; rename_i q1 q2; exact q1 (Int32.not_lt.mp q2)) | simp_all
  · have hw' := hw.resolve_left h0
    have hpos : ¬ nI cnt ≤ 0 := nI_nle (by omega) hc31
    obtain ⟨F', hi⟩ := m_worked_l d 421 cnt (rep σ 97 (upd (upd (upd (upd (σ 97) 0 a) 1 b) 2 c) 3 e)) (by simp only [rep_at, simprocAttr, if_true, if_false, true_and, and_true, false_and, and_false, not_false_eq_true, not_true_eq_false, gd_T, kont_i, kont_v]; exact hcnt') cnt 422 0 ((rep σ 97 (upd (upd (upd (upd (σ 97) 0 a) 1 b) 2 c) 3 e)) 98) uu (by simp only [rep_at, simprocAttr, if_true, if_false, true_and, and_true, false_and, and_false, not_false_eq_true, not_true_eq_false, gd_T, kont_i, kont_v]; exact hw') (by omega) rfl (by omega)
    refine ⟨rep (rep σ 97 (upd (upd (upd (upd (σ 97) 0 a) 1 b) 2 c) 3 e)) 98 F', ?_, fun o h1 h2 => (rep_ne h2).trans (rep_ne h1)⟩
    rw [rep_same] at hi
    simp only [rep_at, simprocAttr, if_true, if_false, true_and, and_true, false_and, and_false, not_false_eq_true, not_true_eq_false, gd_T, kont_i, kont_v] at hi
    rw [evV_nm (nm' := nmF a b c e) (by intro j hj; have : j = 0 ∨ j = 1 ∨ j = 2 ∨ j = 3 := by omega
                                        rcases this with rfl | rfl | rfl | rfl <;> simp [upd, nmF]) _ 0 _ hw'] at hi
    simp only [c159, s159_0, s159_1_o87, s159_4, s159_5, s159_6_o97, s159_7, s159_8_o87, s159_11, s159_12, s159_13_o97, s159_14, s159_15_o87, s159_18, s159_19, s159_21_o97, s159_22, s159_23_o87, s159_26, s159_27, s159_29_o97, s159_30, s159_33, s159_35, s159_36, s159_37, s159_38, s159_39, s159_40, s159_42, s159_43_o87, s159_46, s159_48, s159_49, s159_50_o88, s159_51, s159_54, s159_55, s159_57_o87, s159_60, s159_61, s159_62, s159_88, s159_89, s159_90, s159_91, s159_92, s159_93, s159_94, s159_95, s159_96, s159_97, s159_99, s159_102, s159_103, s159_105, s159_108, s159_110, s159_113, s159_115, vp_lit, up2_rep, rep_rep, rep_at, hcnt', simprocAttr, if_true, if_false, true_and, and_true, false_and, and_false, not_false_eq_true, not_true_eq_false, gd_T, kont_i, kont_v]
    rw [if_neg hpos, if_neg hpos, cl_nI hc31]
    have e360 : (422 : Int32) = nI 422 := rfl
    simp only [s158_0, s158_1, s158_2, s158_3, c158, e360, simprocAttr, if_true, if_false, true_and, and_true, false_and, and_false, not_false_eq_true, not_true_eq_false, gd_T, kont_i, kont_v]
    rw [show (0 : Int32) = nI 0 from rfl, hi, kont_i]
    simp only [s159_60]
    rfl
theorem m_given_2 (d : Nat) (a b c e : Int32) (σ : Hs) (hL : LWT (σ 88) 2) : ∃ σ', callD (d + 3) 159 [.ref 87, .int 2, .int a, .int b, .int c, .int e] σ = some (some (.int (givT (σ 88) 2 a b c e)), σ') ∧ ∀ o, o ≠ 97 → o ≠ 98 → σ' o = σ o := by
  obtain ⟨cnt, hc60, hcnt, hw⟩ := hL
  have hc31 : cnt < 2147483648 := by omega
  have hcnt' : σ 88 483 = nI cnt := hcnt
  unfold givT lawT
  simp only [hcnt', simprocAttr, if_true, if_false, true_and, and_true, false_and, and_false, not_false_eq_true, not_true_eq_false, gd_T, kont_i, kont_v]
  by_cases h0 : cnt = 0
  · subst h0
    refine ⟨rep σ 97 (upd (upd (upd (upd (σ 97) 0 a) 1 b) 2 c) 3 e), ?_, fun o h1 h2 => rep_ne h1⟩
    simp only [c159, s159_0, s159_1_o87, s159_4, s159_5, s159_6_o97, s159_7, s159_8_o87, s159_11, s159_12, s159_13_o97, s159_14, s159_15_o87, s159_18, s159_19, s159_21_o97, s159_22, s159_23_o87, s159_26, s159_27, s159_29_o97, s159_30, s159_33, s159_35, s159_36, s159_37, s159_38, s159_39, s159_40, s159_42, s159_43_o87, s159_46, s159_48, s159_49, s159_50_o88, s159_51, s159_54, s159_55, s159_57_o87, s159_60, s159_61, s159_62, s159_88, s159_89, s159_90, s159_91, s159_92, s159_93, s159_94, s159_95, s159_96, s159_97, s159_99, s159_102, s159_103, s159_105, s159_108, s159_110, s159_113, s159_115, vp_lit, up2_rep, rep_rep, rep_at, hcnt', show nI 0 = 0 from rfl, z4, not_false_eq_true, Int32.le_refl, simprocAttr, if_true, if_false, true_and, and_true, false_and, and_false, not_false_eq_true, not_true_eq_false, gd_T, kont_i, kont_v]
    try (repeat' split) <;> first | rfl | (exfalso; rename_i q1 q2; exact q1 (Int32.not_lt.mp q2)) | simp_all
  · have hw' := hw.resolve_left h0
    have hpos : ¬ nI cnt ≤ 0 := nI_nle (by omega) hc31
    obtain ⟨F', hi⟩ := m_worked_l d 483 cnt (rep σ 97 (upd (upd (upd (upd (σ 97) 0 a) 1 b) 2 c) 3 e)) (by simp only [rep_at, simprocAttr, if_true, if_false, true_and, and_true, false_and, and_false, not_false_eq_true, not_true_eq_false, gd_T, kont_i, kont_v]; exact hcnt') cnt 484 0 ((rep σ 97 (upd (upd (upd (upd (σ 97) 0 a) 1 b) 2 c) 3 e)) 98) uu (by simp only [rep_at, simprocAttr, if_true, if_false, true_and, and_true, false_and, and_false, not_false_eq_true, not_true_eq_false, gd_T, kont_i, kont_v]; exact hw') (by omega) rfl (by omega)
    refine ⟨rep (rep σ 97 (upd (upd (upd (upd (σ 97) 0 a) 1 b) 2 c) 3 e)) 98 F', ?_, fun o h1 h2 => (rep_ne h2).trans (rep_ne h1)⟩
    rw [rep_same] at hi
    simp only [rep_at, simprocAttr, if_true, if_false, true_and, and_true, false_and, and_false, not_false_eq_true, not_true_eq_false, gd_T, kont_i, kont_v] at hi
    rw [evV_nm (nm' := nmF a b c e) (by intro j hj; have : j = 0 ∨ j = 1 ∨ j = 2 ∨ j = 3 := by omega
                                        rcases this with rfl | rfl | rfl | rfl <;> simp [upd, nmF]) _ 0 _ hw'] at hi
    simp only [c159, s159_0, s159_1_o87, s159_4, s159_5, s159_6_o97, s159_7, s159_8_o87, s159_11, s159_12, s159_13_o97, s159_14, s159_15_o87, s159_18, s159_19, s159_21_o97, s159_22, s159_23_o87, s159_26, s159_27, s159_29_o97, s159_30, s159_33, s159_35, s159_36, s159_37, s159_38, s159_39, s159_40, s159_42, s159_43_o87, s159_46, s159_48, s159_49, s159_50_o88, s159_51, s159_54, s159_55, s159_57_o87, s159_60, s159_61, s159_62, s159_88, s159_89, s159_90, s159_91, s159_92, s159_93, s159_94, s159_95, s159_96, s159_97, s159_99, s159_102, s159_103, s159_105, s159_108, s159_110, s159_113, s159_115, vp_lit, up2_rep, rep_rep, rep_at, hcnt', simprocAttr, if_true, if_false, true_and, and_true, false_and, and_false, not_false_eq_true, not_true_eq_false, gd_T, kont_i, kont_v]
    rw [if_neg hpos, if_neg hpos, cl_nI hc31]
    have e360 : (484 : Int32) = nI 484 := rfl
    simp only [s158_0, s158_1, s158_2, s158_3, c158, e360, simprocAttr, if_true, if_false, true_and, and_true, false_and, and_false, not_false_eq_true, not_true_eq_false, gd_T, kont_i, kont_v]
    rw [show (0 : Int32) = nI 0 from rfl, hi, kont_i]
    simp only [s159_60]
    rfl
