/-! ===== the class: what a heap tells; laying; pouring on what is lit ===== -/
theorem k_isKind (d : Nat) (v : Int32) (σ : Hs) : callD (d + 1) 104 [.int v] σ = some (some (.int (b2 (0 ≤ v ∧ v < 7))), σ) := by
  simp only [c104, s104_0, s104_1, s104_4, s104_5, s104_7, s104_10, s104_11, s104_14, s104_15, isB_0, isB_1]
  by_cases h1 : v < 0
  · rw [if_pos h1, b2_F (fun h => Int32.not_le.mpr h1 h.1)]
  · rw [if_neg h1]
    by_cases h2 : 7 ≤ v
    · rw [if_pos h2, b2_F (fun h => Int32.not_lt.mpr h2 h.2)]
    · rw [if_neg h2, b2_T ⟨Int32.not_lt.mp h1, Int32.not_le.mp h2⟩]
theorem lt_le7 {v : Int32} : (v < 7) = (v ≤ 6) := by
  rw [Int32.lt_iff_toInt_lt, Int32.le_iff_toInt_le]
  have e1 : (7 : Int32).toInt = 7 := rfl
  have e2 : (6 : Int32).toInt = 6 := rfl
  rw [e1, e2]
  exact propext ⟨fun h => by omega, fun h => by omega⟩
theorem setT_of {T : Nat → Int32} {p q f : Nat} {k s w l wa li : Int32} (hf : f < 7) : ofT (setT T p k s w l wa li) q f = if q = p then (if f = 0 then 1 else if f = 1 then k else if f = 2 then s else if f = 3 then w else if f = 4 then l else if f = 5 then wa else li) else ofT T q f := by
  unfold setT
  rw [ofT_te (by omega) hf, ofT_te (by omega) hf, ofT_te (by omega) hf, ofT_te (by omega) hf, ofT_te (by omega) hf, ofT_te (by omega) hf, ofT_te (by omega) hf]
  have hf' : f = 0 ∨ f = 1 ∨ f = 2 ∨ f = 3 ∨ f = 4 ∨ f = 5 ∨ f = 6 := by omega
  by_cases c : q = p
  · subst c
    rcases hf' with rfl | rfl | rfl | rfl | rfl | rfl | rfl <;> simp
  · simp [c]
theorem setT_ne {T : Nat → Int32} {p a : Nat} {k s w l wa li : Int32} (hp : p < 30) (h : a < 14 ∨ 224 ≤ a) : setT T p k s w l wa li a = T a := by
  unfold setT teT
  simp only [upd_at]
  rw [if_neg (by omega), if_neg (by omega), if_neg (by omega), if_neg (by omega), if_neg (by omega), if_neg (by omega), if_neg (by omega)]
theorem HR.lay {b : Nat} {σ : Hs} {T : Nat → Int32} (h : HR b σ T) {p : Nat} (hp : p < 30) (k s w l wa li : Int32) : HR b (rep (rep (rep (rep (rep (rep σ (b + 1) (upd (σ (b + 1)) p k)) (b + 2) (upd (σ (b + 2)) p s)) (b + 3) (upd (σ (b + 3)) p w)) (b + 4) (upd (σ (b + 4)) p l)) (b + 5) (upd (σ (b + 5)) p wa)) (b + 6) (upd (σ (b + 6)) p li)) (setT T p k s w l wa li) := by
  obtain ⟨a1, a2, a3, a4, a5, a6, a7, a8⟩ := h
  have e : ∀ a, (a < 14 ∨ 224 ≤ a) → setT T p k s w l wa li a = T a := fun a ha => setT_ne hp ha
  refine ⟨?_, ?_, ?_, ?_, ?_, ?_, ?_, ?_⟩
  · intro q hq hi f f1 f6
    have hi' := hi
    unfold isT at hi'
    rw [setT_of (by omega)] at hi'
    rw [setT_of (by omega)]
    have hf' : f = 1 ∨ f = 2 ∨ f = 3 ∨ f = 4 ∨ f = 5 ∨ f = 6 := by omega
    by_cases c : q = p
    · subst c
      rw [if_pos rfl]
      rcases hf' with rfl | rfl | rfl | rfl | rfl | rfl <;> simp [rep_at, upd_at]
    · rw [if_neg c] at hi' ⊢
      rw [← a1 q hq hi' f f1 f6]
      rcases hf' with rfl | rfl | rfl | rfl | rfl | rfl <;> simp [rep_at, upd_at, c]
  · intro q hq hi
    have hi' := hi
    unfold isT at hi'
    rw [setT_of (by omega)] at hi'
    by_cases c : q = p
    · rw [if_pos c] at hi'
      exact absurd rfl hi'
    · rw [if_neg c] at hi'
      rw [← a2 q hq hi']
      simp [rep_at, upd_at, c]
  · intro j hj
    rw [e _ (by omega), rep_ne (by omega), rep_ne (by omega), rep_ne (by omega), rep_ne (by omega), rep_ne (by omega), rep_ne (by omega)]; exact a3 j hj
  · intro g hg
    rw [e _ (by omega), e _ (by omega), e _ (by omega), rep_ne (by omega), rep_ne (by omega), rep_ne (by omega), rep_ne (by omega), rep_ne (by omega), rep_ne (by omega), rep_ne (by omega), rep_ne (by omega), rep_ne (by omega), rep_ne (by omega), rep_ne (by omega), rep_ne (by omega), rep_ne (by omega), rep_ne (by omega), rep_ne (by omega), rep_ne (by omega), rep_ne (by omega), rep_ne (by omega)]; exact a4 g hg
  all_goals
    rw [e _ (by omega), rep_ne (by omega), rep_ne (by omega), rep_ne (by omega), rep_ne (by omega), rep_ne (by omega), rep_ne (by omega)]
    assumption
theorem hiF_lt (T : Nat → Int32) (c : Nat) : ∀ k n j, n ≤ j → j < hiF T c k n → isT T (6 * j + c) := by
  intro k
  induction k with
  | zero => intro n j h1 h2; rw [hiF] at h2; omega
  | succ k ih =>
    intro n j h1 h2
    rw [hiF] at h2
    by_cases hi : isT T (6 * n + c)
    · rw [if_pos hi] at h2
      by_cases e : j = n
      · rw [e]; exact hi
      · exact ih (n + 1) j (by omega) h2
    · rw [if_neg hi] at h2; omega
theorem hiF_at (T : Nat → Int32) (c : Nat) : ∀ k n, hiF T c k n < n + k → ¬ isT T (6 * hiF T c k n + c) := by
  intro k
  induction k with
  | zero => intro n h; rw [hiF] at h; omega
  | succ k ih =>
    intro n h
    rw [hiF] at h ⊢
    by_cases hi : isT T (6 * n + c)
    · rw [if_pos hi] at h ⊢
      exact ih (n + 1) (by omega)
    · rw [if_neg hi] at h ⊢
      exact hi
theorem WI.lay {T : Nat → Int32} (hW : WI T) {c k s w : Nat} (hc : c < 6) (hh : hiT T c < 5) (hk : k < 7) (h1 : 1 ≤ s) (hs : s < 1000) (hw : w < 1000) : WI (setT T (6 * hiT T c + c) (nI k) (nI s) (nI w) 3 0 0) := by
  refine ⟨fun q hq hi => ?_, fun q hq hi => ?_⟩
  · unfold isT at hi ⊢
    rw [setT_of (by omega)] at hi ⊢
    by_cases e1 : q = 6 * hiT T c + c
    · rw [if_pos e1, if_pos rfl]
    · rw [if_neg e1]
      by_cases e2 : q + 6 = 6 * hiT T c + c
      · have : q = 6 * (hiT T c - 1) + c := by omega
        rw [this]
        exact hiF_lt T c 5 0 (hiT T c - 1) (by omega) (show hiT T c - 1 < hiT T c by omega)
      · rw [if_neg e2] at hi
        exact hW.1 q hq hi
  · unfold isT at hi
    rw [setT_of (by omega)] at hi
    intro f f1 f6
    rw [setT_of (by omega)]
    by_cases e1 : q = 6 * hiT T c + c
    · rw [if_pos e1]
      have hf' : f = 1 ∨ f = 2 ∨ f = 3 ∨ f = 4 ∨ f = 5 ∨ f = 6 := by omega
      rcases hf' with rfl | rfl | rfl | rfl | rfl | rfl
      · exact FR_n (f := 1) (Nat.zero_le _) hk
      · exact FR_n (f := 2) h1 hs
      · exact FR_n (f := 3) (Nat.zero_le _) hw
      · exact FR_n (f := 4) (n := 3) (Nat.zero_le _) (show 3 < 10 by omega)
      · exact FR_n (f := 5) (n := 0) (Nat.zero_le _) (show 0 < 10000 by omega)
      · exact FR_n (f := 6) (n := 0) (Nat.zero_le _) (show 0 < 2 by omega)
    · rw [if_neg e1] at hi ⊢
      exact hW.2 q hq hi f f1 f6
theorem h2_layOnTop_no (d : Nat) (k c s w : Int32) (σ : Hs) (hn : ¬ told4 k c s w) : callD (d + 3) 2 [.ref 2, .int k, .int c, .int s, .int w] σ = some (some (.int (-1)), σ) := by
  simp only [c2, s2_0, s2_1, s2_4, s2_7, s2_8, s2_9, s2_10, s2_13, s2_16, s2_17, s2_18, s2_21, s2_24, s2_27, s2_29, s2_30, s2_33, s2_36, s2_39, s2_40, s2_41, s2_42, s2_43_o2, s2_46, s2_48, s2_50, s2_51, s2_54, s2_56, s2_57, s2_59, s2_61, s2_62, s2_63, s2_64, s2_66, s2_67_o2, s2_70, s2_72, s2_73_o3, s2_74, s2_75_o2, s2_78, s2_80, s2_81_o4, s2_82, s2_83_o2, s2_86, s2_88, s2_90_o5, s2_91, s2_92_o2, s2_95, s2_97, s2_98_o6, s2_99, s2_100_o2, s2_103, s2_105, s2_106_o7, s2_107, s2_108_o2, s2_111, s2_113, s2_114_o8, s2_115, s2_117, k_isKind, k_within, b2_0, lt_le7, simprocAttr, if_true, if_false, true_and, and_true, false_and, and_false, not_false_eq_true, not_true_eq_false, gd_T, kont_i, kont_v]
  by_cases h1 : 0 ≤ k ∧ k ≤ 6
  · rw [if_neg (fun q => q h1)]
    by_cases h2 : 0 ≤ c ∧ c ≤ 5
    · rw [if_neg (fun q => q h2)]
      by_cases h3 : 1 ≤ s ∧ s ≤ 999
      · rw [if_neg (fun q => q h3)]
        by_cases h4 : 0 ≤ w ∧ w ≤ 999
        · exact absurd ⟨h1, h2, h3, h4⟩ hn
        · rw [if_pos h4]
      · rw [if_pos h3]
    · rw [if_pos h2]
  · rw [if_pos h1]
theorem told_n {k c s w : Int32} (h : told4 k c s w) : ∃ k' c' s' w' : Nat, k = nI k' ∧ c = nI c' ∧ s = nI s' ∧ w = nI w' ∧ k' < 7 ∧ c' < 6 ∧ 1 ≤ s' ∧ s' < 1000 ∧ w' < 1000 := by
  obtain ⟨h1, h2, h3, h4⟩ := h
  obtain ⟨k', -, a1, rfl⟩ := within_n (a := 0) (b := 6) h1 rfl rfl (by omega) (by omega)
  obtain ⟨c', -, a2, rfl⟩ := within_n (a := 0) (b := 5) h2 rfl rfl (by omega) (by omega)
  obtain ⟨s', a3, a4, rfl⟩ := within_n (a := 1) (b := 999) h3 rfl rfl (by omega) (by omega)
  obtain ⟨w', -, a5, rfl⟩ := within_n (a := 0) (b := 999) h4 rfl rfl (by omega) (by omega)
  exact ⟨k', c', s', w', rfl, rfl, rfl, rfl, by omega, by omega, a3, by omega, by omega⟩
theorem h2_layOnTop (d : Nat) (k s w : Int32) (c : Nat) (hc : c < 6) (σ : Hs) (T : Nat → Int32) (h : HR 2 σ T) (hP : HP T) (ht : told4 k (nI c) s w) (c5 : hiT T c < 5) : ∃ σ', callD (d + 3) 2 [.ref 2, .int k, .int (nI c), .int s, .int w] σ = some (some (.int (nI (6 * hiT T c + c))), σ') ∧ HR 2 σ' (setT T (6 * hiT T c + c) k s w 3 0 0) ∧ ∀ o, (o < 3 ∨ 8 < o) → σ' o = σ o := by
  have hle := hiT_le T c
  have h31 : hiT T c < 2147483648 := by omega
  have hh : callD (d + 2) 4 [.ref 2, .int (nI c)] σ = _ := h2_heightOf d c hc σ T h hP
  obtain ⟨h1, h2, h3, h4⟩ := ht
  have u1 : (0 ≤ k ∧ k ≤ 6) = True := eq_true h1
  have u2 : (0 ≤ nI c ∧ nI c ≤ 5) = True := eq_true h2
  have u3 : (1 ≤ s ∧ s ≤ 999) = True := eq_true h3
  have u4 : (0 ≤ w ∧ w ≤ 999) = True := eq_true h4
  have p30 : 6 * hiT T c + c < 30 := by omega
  have p31 : 6 * hiT T c + c < 2147483648 := by omega
  refine ⟨_, ?_, h.lay p30 k s w 3 0 0, fun o ho => ?_⟩
  · simp only [c2, s2_0, s2_1, s2_4, s2_7, s2_8, s2_9, s2_10, s2_13, s2_16, s2_17, s2_18, s2_21, s2_24, s2_27, s2_29, s2_30, s2_33, s2_36, s2_39, s2_40, s2_41, s2_42, s2_43_o2, s2_46, s2_48, s2_50, s2_51, s2_54, s2_56, s2_57, s2_59, s2_61, s2_62, s2_63, s2_64, s2_66, s2_67_o2, s2_70, s2_72, s2_73_o3, s2_74, s2_75_o2, s2_78, s2_80, s2_81_o4, s2_82, s2_83_o2, s2_86, s2_88, s2_90_o5, s2_91, s2_92_o2, s2_95, s2_97, s2_98_o6, s2_99, s2_100_o2, s2_103, s2_105, s2_106_o7, s2_107, s2_108_o2, s2_111, s2_113, s2_114_o8, s2_115, s2_117, k_isKind, k_within, b2_0, lt_le7, u1, u2, u3, u4, hh, lt_nI_l h31, lt_nI_r h31, le_nI_l h31, le_nI_r h31, idx6, vp_nI p30, cl_nI p31, up2_rep, rep_at, nar0, simprocAttr, if_true, if_false, true_and, and_true, false_and, and_false, not_false_eq_true, not_true_eq_false, gd_T, kont_i, kont_v]
    first
      | rw [if_pos (by omega)]
      | rw [if_neg (by omega)]
  · rw [rep_ne (by omega), rep_ne (by omega), rep_ne (by omega), rep_ne (by omega), rep_ne (by omega), rep_ne (by omega)]
theorem h2_layOnTop_full (d : Nat) (k s w : Int32) (c : Nat) (hc : c < 6) (σ : Hs) (T : Nat → Int32) (h : HR 2 σ T) (hP : HP T) (ht : told4 k (nI c) s w) (c5 : ¬ hiT T c < 5) : callD (d + 3) 2 [.ref 2, .int k, .int (nI c), .int s, .int w] σ = some (some (.int (-4)), σ) := by
  have hle := hiT_le T c
  have h31 : hiT T c < 2147483648 := by omega
  have hh : callD (d + 2) 4 [.ref 2, .int (nI c)] σ = _ := h2_heightOf d c hc σ T h hP
  obtain ⟨h1, h2, h3, h4⟩ := ht
  have u1 : (0 ≤ k ∧ k ≤ 6) = True := eq_true h1
  have u2 : (0 ≤ nI c ∧ nI c ≤ 5) = True := eq_true h2
  have u3 : (1 ≤ s ∧ s ≤ 999) = True := eq_true h3
  have u4 : (0 ≤ w ∧ w ≤ 999) = True := eq_true h4
  simp only [c2, s2_0, s2_1, s2_4, s2_7, s2_8, s2_9, s2_10, s2_13, s2_16, s2_17, s2_18, s2_21, s2_24, s2_27, s2_29, s2_30, s2_33, s2_36, s2_39, s2_40, s2_41, s2_42, s2_43_o2, s2_46, s2_48, s2_50, s2_51, s2_54, s2_56, s2_57, s2_59, s2_61, s2_62, s2_63, s2_64, s2_66, s2_67_o2, s2_70, s2_72, s2_73_o3, s2_74, s2_75_o2, s2_78, s2_80, s2_81_o4, s2_82, s2_83_o2, s2_86, s2_88, s2_90_o5, s2_91, s2_92_o2, s2_95, s2_97, s2_98_o6, s2_99, s2_100_o2, s2_103, s2_105, s2_106_o7, s2_107, s2_108_o2, s2_111, s2_113, s2_114_o8, s2_115, s2_117, k_isKind, k_within, b2_0, lt_le7, u1, u2, u3, u4, hh, lt_nI_l h31, lt_nI_r h31, le_nI_l h31, le_nI_r h31, simprocAttr, if_true, if_false, true_and, and_true, false_and, and_false, not_false_eq_true, not_true_eq_false, gd_T, kont_i, kont_v]
  first
    | rw [if_pos (by omega)]
    | rw [if_neg (by omega)]
theorem h2_canBeLit (d p : Nat) (hp : p < 30) (σ : Hs) (T : Nat → Int32) (h : HR 2 σ T) (hW : WI T) (hi : isT T p) : callD (d + 1) 8 [.ref 2, .int (nI p)] σ = some (some (.int (b2 (¬ litT T p ∧ ofT T p 3 ≤ T 7 ∧ ¬ ofT T p 1 = 6))), σ) := by
  have p31 : p < 2147483648 := by omega
  have g1 : σ 3 p = ofT T p 1 := h.f hp hi 1 (by omega) (by omega)
  have g3 : σ 5 p = ofT T p 3 := h.f hp hi 3 (by omega) (by omega)
  have g6 : σ 8 p = ofT T p 6 := h.f hp hi 6 (by omega) (by omega)
  have s3 : σ 9 3 = T 7 := h.2.2.1 3 (by omega)
  simp only [c8, s8_0, s8_1_o2, s8_4, s8_5_o8, s8_6, s8_9, s8_10_o2, s8_13, s8_14_o5, s8_15, s8_16_o2, s8_19, s8_20_o9, s8_21, s8_24, s8_25_o2, s8_28, s8_29_o3, s8_30, s8_32, s8_35, s8_36, s8_39, s8_40, vp_nI hp, cl_nI p31, vp_lit, g1, g3, g6, s3, isB_0, isB_1, simprocAttr, if_true, if_false, true_and, and_true, false_and, and_false, not_false_eq_true, not_true_eq_false, gd_T, kont_i, kont_v]
  rcases hW.B p hp hi with c | c
  · have nl : ¬ litT T p := by unfold litT; rw [c]; decide
    rw [if_pos c]
    by_cases c2 : T 7 < ofT T p 3
    · rw [if_pos c2, b2_F (fun q => Int32.not_le.mpr c2 q.2.1)]
    · rw [if_neg c2]
      by_cases c3 : ofT T p 1 = 6
      · rw [if_pos c3, b2_F (fun q => q.2.2 c3)]
      · rw [if_neg c3, b2_T ⟨nl, Int32.not_lt.mp c2, c3⟩]
  · have n0 : ¬ ofT T p 6 = 0 := by rw [c]; decide
    rw [if_neg n0, b2_F (fun q => q.1 c)]
/-- what an armful tells -/
noncomputable def atI (T : Nat → Int32) (p w : Nat) : Int32 := if w < 6 then ofT T p (1 + w) else if w = 6 then drT T p else if w = 7 then heatF (ofT T p 1).toNatClampNeg else catF (ofT T p 1).toNatClampNeg
theorem h2_armfulTells (d p w : Nat) (hp : p < 30) (hw : w < 9) (σ : Hs) (T : Nat → Int32) (h : HR 2 σ T) (hW : WI T) (hi : isT T p) : callD (d + 2) 25 [.ref 2, .int (nI p), .int (nI w)] σ = some (some (.int (atI T p w)), σ) := by
  have p31 : p < 2147483648 := by omega
  obtain ⟨k, ek, lk⟩ := hW.n hp hi 1 (by omega) (by omega)
  have lk : k < 7 := lk
  have k31 : k < 2147483648 := by omega
  have g1 : σ 3 p = ofT T p 1 := h.f hp hi 1 (by omega) (by omega)
  have g2 : σ 4 p = ofT T p 2 := h.f hp hi 2 (by omega) (by omega)
  have g3 : σ 5 p = ofT T p 3 := h.f hp hi 3 (by omega) (by omega)
  have g4 : σ 6 p = ofT T p 4 := h.f hp hi 4 (by omega) (by omega)
  have g5 : σ 7 p = ofT T p 5 := h.f hp hi 5 (by omega) (by omega)
  have g6 : σ 8 p = ofT T p 6 := h.f hp hi 6 (by omega) (by omega)
  have hd : callD (d + 1) 12 [.ref 2, .int (nI p)] σ = some (some (.int (drT T p)), σ) := h2_draughtOf d p hp σ T h hW.P hW.1 hi
  have hw' : w = 0 ∨ w = 1 ∨ w = 2 ∨ w = 3 ∨ w = 4 ∨ w = 5 ∨ w = 6 ∨ w = 7 ∨ w = 8 := by omega
  rcases hw' with rfl | rfl | rfl | rfl | rfl | rfl | rfl | rfl | rfl
  · simp only [c25, s25_0, s25_1, s25_48, s25_49_o2, s25_52, s25_53_o3, s25_54, s25_55, s25_56_o2, s25_59, s25_60_o4, s25_61, s25_62, s25_63_o2, s25_66, s25_67_o5, s25_68, s25_69, s25_70_o2, s25_73, s25_74_o6, s25_75, s25_76, s25_77_o2, s25_80, s25_81_o7, s25_82, s25_83, s25_84_o2, s25_87, s25_88_o8, s25_89, s25_92, s25_93, s25_96, s25_97, s25_98, s25_99, s25_100_o2, s25_103, s25_104, s25_107, s25_108_o2, s25_111, s25_112_o3, s25_113_o105, s25_114, s25_115, s25_118, s25_119_o2, s25_122, s25_123_o3, s25_124_o106, s25_125, n_0, vp_nI hp, cl_nI p31, g1, simprocAttr, if_true, if_false, true_and, and_true, false_and, and_false, not_false_eq_true, not_true_eq_false, gd_T, kont_i, kont_v]; rfl
  · simp only [c25, s25_0, s25_1, s25_48, s25_49_o2, s25_52, s25_53_o3, s25_54, s25_55, s25_56_o2, s25_59, s25_60_o4, s25_61, s25_62, s25_63_o2, s25_66, s25_67_o5, s25_68, s25_69, s25_70_o2, s25_73, s25_74_o6, s25_75, s25_76, s25_77_o2, s25_80, s25_81_o7, s25_82, s25_83, s25_84_o2, s25_87, s25_88_o8, s25_89, s25_92, s25_93, s25_96, s25_97, s25_98, s25_99, s25_100_o2, s25_103, s25_104, s25_107, s25_108_o2, s25_111, s25_112_o3, s25_113_o105, s25_114, s25_115, s25_118, s25_119_o2, s25_122, s25_123_o3, s25_124_o106, s25_125, n_1, vp_nI hp, cl_nI p31, g2, simprocAttr, if_true, if_false, true_and, and_true, false_and, and_false, not_false_eq_true, not_true_eq_false, gd_T, kont_i, kont_v]; rfl
  · simp only [c25, s25_0, s25_1, s25_48, s25_49_o2, s25_52, s25_53_o3, s25_54, s25_55, s25_56_o2, s25_59, s25_60_o4, s25_61, s25_62, s25_63_o2, s25_66, s25_67_o5, s25_68, s25_69, s25_70_o2, s25_73, s25_74_o6, s25_75, s25_76, s25_77_o2, s25_80, s25_81_o7, s25_82, s25_83, s25_84_o2, s25_87, s25_88_o8, s25_89, s25_92, s25_93, s25_96, s25_97, s25_98, s25_99, s25_100_o2, s25_103, s25_104, s25_107, s25_108_o2, s25_111, s25_112_o3, s25_113_o105, s25_114, s25_115, s25_118, s25_119_o2, s25_122, s25_123_o3, s25_124_o106, s25_125, n_2, vp_nI hp, cl_nI p31, g3, simprocAttr, if_true, if_false, true_and, and_true, false_and, and_false, not_false_eq_true, not_true_eq_false, gd_T, kont_i, kont_v]; rfl
  · simp only [c25, s25_0, s25_1, s25_48, s25_49_o2, s25_52, s25_53_o3, s25_54, s25_55, s25_56_o2, s25_59, s25_60_o4, s25_61, s25_62, s25_63_o2, s25_66, s25_67_o5, s25_68, s25_69, s25_70_o2, s25_73, s25_74_o6, s25_75, s25_76, s25_77_o2, s25_80, s25_81_o7, s25_82, s25_83, s25_84_o2, s25_87, s25_88_o8, s25_89, s25_92, s25_93, s25_96, s25_97, s25_98, s25_99, s25_100_o2, s25_103, s25_104, s25_107, s25_108_o2, s25_111, s25_112_o3, s25_113_o105, s25_114, s25_115, s25_118, s25_119_o2, s25_122, s25_123_o3, s25_124_o106, s25_125, n_3, vp_nI hp, cl_nI p31, g4, simprocAttr, if_true, if_false, true_and, and_true, false_and, and_false, not_false_eq_true, not_true_eq_false, gd_T, kont_i, kont_v]; rfl
  · simp only [c25, s25_0, s25_1, s25_48, s25_49_o2, s25_52, s25_53_o3, s25_54, s25_55, s25_56_o2, s25_59, s25_60_o4, s25_61, s25_62, s25_63_o2, s25_66, s25_67_o5, s25_68, s25_69, s25_70_o2, s25_73, s25_74_o6, s25_75, s25_76, s25_77_o2, s25_80, s25_81_o7, s25_82, s25_83, s25_84_o2, s25_87, s25_88_o8, s25_89, s25_92, s25_93, s25_96, s25_97, s25_98, s25_99, s25_100_o2, s25_103, s25_104, s25_107, s25_108_o2, s25_111, s25_112_o3, s25_113_o105, s25_114, s25_115, s25_118, s25_119_o2, s25_122, s25_123_o3, s25_124_o106, s25_125, n_4, vp_nI hp, cl_nI p31, g5, simprocAttr, if_true, if_false, true_and, and_true, false_and, and_false, not_false_eq_true, not_true_eq_false, gd_T, kont_i, kont_v]; rfl
  · simp only [c25, s25_0, s25_1, s25_48, s25_49_o2, s25_52, s25_53_o3, s25_54, s25_55, s25_56_o2, s25_59, s25_60_o4, s25_61, s25_62, s25_63_o2, s25_66, s25_67_o5, s25_68, s25_69, s25_70_o2, s25_73, s25_74_o6, s25_75, s25_76, s25_77_o2, s25_80, s25_81_o7, s25_82, s25_83, s25_84_o2, s25_87, s25_88_o8, s25_89, s25_92, s25_93, s25_96, s25_97, s25_98, s25_99, s25_100_o2, s25_103, s25_104, s25_107, s25_108_o2, s25_111, s25_112_o3, s25_113_o105, s25_114, s25_115, s25_118, s25_119_o2, s25_122, s25_123_o3, s25_124_o106, s25_125, n_5, vp_nI hp, cl_nI p31, g6, simprocAttr, if_true, if_false, true_and, and_true, false_and, and_false, not_false_eq_true, not_true_eq_false, gd_T, kont_i, kont_v]
    have e : atI T p 5 = ofT T p 6 := rfl
    rw [e]
    rcases hW.B p hp hi with c | c
    · rw [c, if_pos rfl]
    · rw [c, if_neg (by decide)]
  · simp only [c25, s25_0, s25_1, s25_48, s25_49_o2, s25_52, s25_53_o3, s25_54, s25_55, s25_56_o2, s25_59, s25_60_o4, s25_61, s25_62, s25_63_o2, s25_66, s25_67_o5, s25_68, s25_69, s25_70_o2, s25_73, s25_74_o6, s25_75, s25_76, s25_77_o2, s25_80, s25_81_o7, s25_82, s25_83, s25_84_o2, s25_87, s25_88_o8, s25_89, s25_92, s25_93, s25_96, s25_97, s25_98, s25_99, s25_100_o2, s25_103, s25_104, s25_107, s25_108_o2, s25_111, s25_112_o3, s25_113_o105, s25_114, s25_115, s25_118, s25_119_o2, s25_122, s25_123_o3, s25_124_o106, s25_125, n_6, hd, simprocAttr, if_true, if_false, true_and, and_true, false_and, and_false, not_false_eq_true, not_true_eq_false, gd_T, kont_i, kont_v]; rfl
  · simp only [c25, s25_0, s25_1, s25_48, s25_49_o2, s25_52, s25_53_o3, s25_54, s25_55, s25_56_o2, s25_59, s25_60_o4, s25_61, s25_62, s25_63_o2, s25_66, s25_67_o5, s25_68, s25_69, s25_70_o2, s25_73, s25_74_o6, s25_75, s25_76, s25_77_o2, s25_80, s25_81_o7, s25_82, s25_83, s25_84_o2, s25_87, s25_88_o8, s25_89, s25_92, s25_93, s25_96, s25_97, s25_98, s25_99, s25_100_o2, s25_103, s25_104, s25_107, s25_108_o2, s25_111, s25_112_o3, s25_113_o105, s25_114, s25_115, s25_118, s25_119_o2, s25_122, s25_123_o3, s25_124_o106, s25_125, n_7, vp_nI hp, cl_nI p31, g1, ek, vp_nI lk, cl_nI k31, heat_l lk, simprocAttr, if_true, if_false, true_and, and_true, false_and, and_false, not_false_eq_true, not_true_eq_false, gd_T, kont_i, kont_v]
    unfold atI
    rw [ek, cl_nI k31]
    rfl
  · simp only [c25, s25_0, s25_1, s25_48, s25_49_o2, s25_52, s25_53_o3, s25_54, s25_55, s25_56_o2, s25_59, s25_60_o4, s25_61, s25_62, s25_63_o2, s25_66, s25_67_o5, s25_68, s25_69, s25_70_o2, s25_73, s25_74_o6, s25_75, s25_76, s25_77_o2, s25_80, s25_81_o7, s25_82, s25_83, s25_84_o2, s25_87, s25_88_o8, s25_89, s25_92, s25_93, s25_96, s25_97, s25_98, s25_99, s25_100_o2, s25_103, s25_104, s25_107, s25_108_o2, s25_111, s25_112_o3, s25_113_o105, s25_114, s25_115, s25_118, s25_119_o2, s25_122, s25_123_o3, s25_124_o106, s25_125, n_8, vp_nI hp, cl_nI p31, g1, ek, vp_nI lk, cl_nI k31, cat_n lk, simprocAttr, if_true, if_false, true_and, and_true, false_and, and_false, not_false_eq_true, not_true_eq_false, gd_T, kont_i, kont_v]
    unfold atI
    rw [ek, cl_nI k31]
    rfl
def hgN (T : Nat → Int32) : Nat → Int32
  | 0 => 0
  | c + 1 => jmax (hgN T c) (nI (hiT T c))
/-- what a heap tells -/
def htI (T : Nat → Int32) (w : Nat) : Int32 := if w = 0 then sumU T 2 30 else if w = 1 then sumU T 6 30 else if w = 2 then sumU T 5 30 else if w = 3 then T 10 else if w = 4 then T 11 else if w = 5 then T 12 else if w = 6 then hgN T 6 else sumU T 3 30
theorem h2_highest_l (d : Nat) (σ : Hs) (T : Nat → Int32) (h : HR 2 σ T) (hP : HP T) : ∀ k n, n + k = 6 → ru (d + 2) 29 4 [.ref 2, .int (hgN T n), .int (nI n)] [] σ = some (some (.int (hgN T 6)), σ) := by
  intro k
  induction k with
  | zero =>
    intro n hn
    obtain rfl : n = 6 := by omega
    simp only [s29_4]
    simp only [c29, s29_0, s29_1, s29_2, s29_3, s29_5, s29_7, s29_10, s29_11, s29_12, s29_13_o2, s29_13_o59, s29_16, s29_19, s29_20, s29_23, s29_26, s29_27, n_6, Int32.le_refl, simprocAttr, if_true, if_false, true_and, and_true, false_and, and_false, not_false_eq_true, not_true_eq_false, gd_T, kont_i, kont_v]
  | succ k ih =>
    intro n hn
    have h31 : n < 2147483648 := by omega
    have hi := ih (n + 1) (by omega)
    rw [hgN] at hi
    have hh : callD (d + 2) 4 [.ref 2, .int (nI n)] σ = _ := h2_heightOf d n (by omega) σ T h hP
    simp only [s29_4]
    simp only [c29, s29_0, s29_1, s29_2, s29_3, s29_5, s29_7, s29_10, s29_11, s29_12, s29_13_o2, s29_13_o59, s29_16, s29_19, s29_20, s29_23, s29_26, s29_27, le_nI_r h31, hh, nI_1, hi, simprocAttr, if_true, if_false, true_and, and_true, false_and, and_false, not_false_eq_true, not_true_eq_false, gd_T, kont_i, kont_v]
    rw [if_neg (by omega)]
theorem h2_highest (d : Nat) (σ : Hs) (T : Nat → Int32) (h : HR 2 σ T) (hP : HP T) : callD (d + 3) 29 [.ref 2] σ = some (some (.int (hgN T 6)), σ) := by
  have hl := h2_highest_l d σ T h hP 6 0 rfl
  simp only [s29_0, s29_1, s29_2, s29_3, c29]
  exact hl
theorem h2_heapTells (d w : Nat) (hw : w < 8) (σ : Hs) (T : Nat → Int32) (h : HR 2 σ T) (hW : WI T) : callD (d + 4) 27 [.ref 2, .int (nI w)] σ = some (some (.int (htI T w)), σ) := by
  have hP := hW.P
  have x0 : callD (d + 3) 28 [.ref 2, .ref 4] σ = _ := h2_sumOf2 (d + 1) σ T h hP
  have x1 : callD (d + 3) 7 [.ref 2] σ = _ := h2_howManyLit (d + 1) σ T h hP hW.B
  have x2 : callD (d + 3) 28 [.ref 2, .ref 7] σ = _ := h2_sumOf5 (d + 1) σ T h hP
  have x7 : callD (d + 3) 28 [.ref 2, .ref 5] σ = _ := h2_sumOf3 (d + 1) σ T h hP
  have x6 : callD (d + 3) 29 [.ref 2] σ = _ := h2_highest d σ T h hP
  have x3 : σ 2 10 = T 10 := h.2.2.2.2.1
  have x4 : σ 2 11 = T 11 := h.2.2.2.2.2.1
  have x5 : σ 2 12 = T 12 := h.2.2.2.2.2.2.1
  have hw' : w = 0 ∨ w = 1 ∨ w = 2 ∨ w = 3 ∨ w = 4 ∨ w = 5 ∨ w = 6 ∨ w = 7 := by omega
  rcases hw' with rfl | rfl | rfl | rfl | rfl | rfl | rfl | rfl
  · simp only [c27, s27_0, s27_1, s27_44, s27_45, s27_46_o2, s27_46_o59, s27_49_o2, s27_49_o59, s27_52, s27_53, s27_54_o2, s27_54_o59, s27_57, s27_58, s27_59, s27_60_o2, s27_60_o59, s27_63_o2, s27_63_o59, s27_66, s27_67, s27_68_o2, s27_68_o59, s27_71, s27_72, s27_73_o2, s27_73_o59, s27_76, s27_77, s27_78_o2, s27_78_o59, s27_81, s27_82, s27_83_o2, s27_83_o59, s27_86, s27_87, s27_88, s27_89_o2, s27_89_o59, s27_92_o2, s27_92_o59, s27_95, htI, n_0, x0, simprocAttr, if_true, if_false, true_and, and_true, false_and, and_false, not_false_eq_true, not_true_eq_false, gd_T, kont_i, kont_v]
  · simp only [c27, s27_0, s27_1, s27_44, s27_45, s27_46_o2, s27_46_o59, s27_49_o2, s27_49_o59, s27_52, s27_53, s27_54_o2, s27_54_o59, s27_57, s27_58, s27_59, s27_60_o2, s27_60_o59, s27_63_o2, s27_63_o59, s27_66, s27_67, s27_68_o2, s27_68_o59, s27_71, s27_72, s27_73_o2, s27_73_o59, s27_76, s27_77, s27_78_o2, s27_78_o59, s27_81, s27_82, s27_83_o2, s27_83_o59, s27_86, s27_87, s27_88, s27_89_o2, s27_89_o59, s27_92_o2, s27_92_o59, s27_95, htI, n_1, x1, simprocAttr, if_true, if_false, true_and, and_true, false_and, and_false, not_false_eq_true, not_true_eq_false, gd_T, kont_i, kont_v]
  · simp only [c27, s27_0, s27_1, s27_44, s27_45, s27_46_o2, s27_46_o59, s27_49_o2, s27_49_o59, s27_52, s27_53, s27_54_o2, s27_54_o59, s27_57, s27_58, s27_59, s27_60_o2, s27_60_o59, s27_63_o2, s27_63_o59, s27_66, s27_67, s27_68_o2, s27_68_o59, s27_71, s27_72, s27_73_o2, s27_73_o59, s27_76, s27_77, s27_78_o2, s27_78_o59, s27_81, s27_82, s27_83_o2, s27_83_o59, s27_86, s27_87, s27_88, s27_89_o2, s27_89_o59, s27_92_o2, s27_92_o59, s27_95, htI, n_2, x2, simprocAttr, if_true, if_false, true_and, and_true, false_and, and_false, not_false_eq_true, not_true_eq_false, gd_T, kont_i, kont_v]
  · simp only [c27, s27_0, s27_1, s27_44, s27_45, s27_46_o2, s27_46_o59, s27_49_o2, s27_49_o59, s27_52, s27_53, s27_54_o2, s27_54_o59, s27_57, s27_58, s27_59, s27_60_o2, s27_60_o59, s27_63_o2, s27_63_o59, s27_66, s27_67, s27_68_o2, s27_68_o59, s27_71, s27_72, s27_73_o2, s27_73_o59, s27_76, s27_77, s27_78_o2, s27_78_o59, s27_81, s27_82, s27_83_o2, s27_83_o59, s27_86, s27_87, s27_88, s27_89_o2, s27_89_o59, s27_92_o2, s27_92_o59, s27_95, htI, n_3, x3, simprocAttr, if_true, if_false, true_and, and_true, false_and, and_false, not_false_eq_true, not_true_eq_false, gd_T, kont_i, kont_v]
  · simp only [c27, s27_0, s27_1, s27_44, s27_45, s27_46_o2, s27_46_o59, s27_49_o2, s27_49_o59, s27_52, s27_53, s27_54_o2, s27_54_o59, s27_57, s27_58, s27_59, s27_60_o2, s27_60_o59, s27_63_o2, s27_63_o59, s27_66, s27_67, s27_68_o2, s27_68_o59, s27_71, s27_72, s27_73_o2, s27_73_o59, s27_76, s27_77, s27_78_o2, s27_78_o59, s27_81, s27_82, s27_83_o2, s27_83_o59, s27_86, s27_87, s27_88, s27_89_o2, s27_89_o59, s27_92_o2, s27_92_o59, s27_95, htI, n_4, x4, simprocAttr, if_true, if_false, true_and, and_true, false_and, and_false, not_false_eq_true, not_true_eq_false, gd_T, kont_i, kont_v]
  · simp only [c27, s27_0, s27_1, s27_44, s27_45, s27_46_o2, s27_46_o59, s27_49_o2, s27_49_o59, s27_52, s27_53, s27_54_o2, s27_54_o59, s27_57, s27_58, s27_59, s27_60_o2, s27_60_o59, s27_63_o2, s27_63_o59, s27_66, s27_67, s27_68_o2, s27_68_o59, s27_71, s27_72, s27_73_o2, s27_73_o59, s27_76, s27_77, s27_78_o2, s27_78_o59, s27_81, s27_82, s27_83_o2, s27_83_o59, s27_86, s27_87, s27_88, s27_89_o2, s27_89_o59, s27_92_o2, s27_92_o59, s27_95, htI, n_5, x5, simprocAttr, if_true, if_false, true_and, and_true, false_and, and_false, not_false_eq_true, not_true_eq_false, gd_T, kont_i, kont_v]
  · simp only [c27, s27_0, s27_1, s27_44, s27_45, s27_46_o2, s27_46_o59, s27_49_o2, s27_49_o59, s27_52, s27_53, s27_54_o2, s27_54_o59, s27_57, s27_58, s27_59, s27_60_o2, s27_60_o59, s27_63_o2, s27_63_o59, s27_66, s27_67, s27_68_o2, s27_68_o59, s27_71, s27_72, s27_73_o2, s27_73_o59, s27_76, s27_77, s27_78_o2, s27_78_o59, s27_81, s27_82, s27_83_o2, s27_83_o59, s27_86, s27_87, s27_88, s27_89_o2, s27_89_o59, s27_92_o2, s27_92_o59, s27_95, htI, n_6, x6, simprocAttr, if_true, if_false, true_and, and_true, false_and, and_false, not_false_eq_true, not_true_eq_false, gd_T, kont_i, kont_v]
  · simp only [c27, s27_0, s27_1, s27_44, s27_45, s27_46_o2, s27_46_o59, s27_49_o2, s27_49_o59, s27_52, s27_53, s27_54_o2, s27_54_o59, s27_57, s27_58, s27_59, s27_60_o2, s27_60_o59, s27_63_o2, s27_63_o59, s27_66, s27_67, s27_68_o2, s27_68_o59, s27_71, s27_72, s27_73_o2, s27_73_o59, s27_76, s27_77, s27_78_o2, s27_78_o59, s27_81, s27_82, s27_83_o2, s27_83_o59, s27_86, s27_87, s27_88, s27_89_o2, s27_89_o59, s27_92_o2, s27_92_o59, s27_95, htI, n_7, x7, simprocAttr, if_true, if_false, true_and, and_true, false_and, and_false, not_false_eq_true, not_true_eq_false, gd_T, kont_i, kont_v]
theorem h2_gardenTells (d g w : Nat) (hg : g < 9) (hw : w < 3) (σ : Hs) (T : Nat → Int32) (h : HR 2 σ T) : callD (d + 1) 26 [.ref 2, .int (nI g), .int (nI w)] σ = some (some (.int (T (224 + 3 * g + w))), σ) := by
  have g31 : g < 2147483648 := by omega
  have x8 : σ 10 g = T (224 + 3 * g + 2) := by rw [show 224 + 3 * g + 2 = 226 + 3 * g by omega]; exact (h.2.2.2.1 g hg).1
  have x9 : σ 11 g = T (224 + 3 * g + 0) := (h.2.2.2.1 g hg).2.1
  have x10 : σ 12 g = T (224 + 3 * g + 1) := by rw [show 224 + 3 * g + 1 = 225 + 3 * g by omega]; exact (h.2.2.2.1 g hg).2.2
  have hw' : w = 0 ∨ w = 1 ∨ w = 2 := by omega
  rcases hw' with rfl | rfl | rfl
  · simp only [c26, s26_0, s26_1, s26_28, s26_29_o2, s26_29_o59, s26_32, s26_33_o11, s26_33_o68, s26_34, s26_35, s26_36_o2, s26_36_o59, s26_39, s26_40_o12, s26_40_o69, s26_41, s26_42, s26_43_o2, s26_43_o59, s26_46, s26_47_o10, s26_47_o67, s26_48, n_0, vp_nI hg, cl_nI g31, x9, simprocAttr, if_true, if_false, true_and, and_true, false_and, and_false, not_false_eq_true, not_true_eq_false, gd_T, kont_i, kont_v]
  · simp only [c26, s26_0, s26_1, s26_28, s26_29_o2, s26_29_o59, s26_32, s26_33_o11, s26_33_o68, s26_34, s26_35, s26_36_o2, s26_36_o59, s26_39, s26_40_o12, s26_40_o69, s26_41, s26_42, s26_43_o2, s26_43_o59, s26_46, s26_47_o10, s26_47_o67, s26_48, n_1, vp_nI hg, cl_nI g31, x10, simprocAttr, if_true, if_false, true_and, and_true, false_and, and_false, not_false_eq_true, not_true_eq_false, gd_T, kont_i, kont_v]
  · simp only [c26, s26_0, s26_1, s26_28, s26_29_o2, s26_29_o59, s26_32, s26_33_o11, s26_33_o68, s26_34, s26_35, s26_36_o2, s26_36_o59, s26_39, s26_40_o12, s26_40_o69, s26_41, s26_42, s26_43_o2, s26_43_o59, s26_46, s26_47_o10, s26_47_o67, s26_48, n_2, vp_nI hg, cl_nI g31, x8, simprocAttr, if_true, if_false, true_and, and_true, false_and, and_false, not_false_eq_true, not_true_eq_false, gd_T, kont_i, kont_v]
theorem h59_highest_l (d : Nat) (σ : Hs) (T : Nat → Int32) (h : HR 59 σ T) (hP : HP T) : ∀ k n, n + k = 6 → ru (d + 2) 29 4 [.ref 59, .int (hgN T n), .int (nI n)] [] σ = some (some (.int (hgN T 6)), σ) := by
  intro k
  induction k with
  | zero =>
    intro n hn
    obtain rfl : n = 6 := by omega
    simp only [s29_4]
    simp only [c29, s29_0, s29_1, s29_2, s29_3, s29_5, s29_7, s29_10, s29_11, s29_12, s29_13_o2, s29_13_o59, s29_16, s29_19, s29_20, s29_23, s29_26, s29_27, n_6, Int32.le_refl, simprocAttr, if_true, if_false, true_and, and_true, false_and, and_false, not_false_eq_true, not_true_eq_false, gd_T, kont_i, kont_v]
  | succ k ih =>
    intro n hn
    have h31 : n < 2147483648 := by omega
    have hi := ih (n + 1) (by omega)
    rw [hgN] at hi
    have hh : callD (d + 2) 4 [.ref 59, .int (nI n)] σ = _ := h59_heightOf d n (by omega) σ T h hP
    simp only [s29_4]
    simp only [c29, s29_0, s29_1, s29_2, s29_3, s29_5, s29_7, s29_10, s29_11, s29_12, s29_13_o2, s29_13_o59, s29_16, s29_19, s29_20, s29_23, s29_26, s29_27, le_nI_r h31, hh, nI_1, hi, simprocAttr, if_true, if_false, true_and, and_true, false_and, and_false, not_false_eq_true, not_true_eq_false, gd_T, kont_i, kont_v]
    rw [if_neg (by omega)]
theorem h59_highest (d : Nat) (σ : Hs) (T : Nat → Int32) (h : HR 59 σ T) (hP : HP T) : callD (d + 3) 29 [.ref 59] σ = some (some (.int (hgN T 6)), σ) := by
  have hl := h59_highest_l d σ T h hP 6 0 rfl
  simp only [s29_0, s29_1, s29_2, s29_3, c29]
  exact hl
theorem h59_heapTells (d w : Nat) (hw : w < 8) (σ : Hs) (T : Nat → Int32) (h : HR 59 σ T) (hW : WI T) : callD (d + 4) 27 [.ref 59, .int (nI w)] σ = some (some (.int (htI T w)), σ) := by
  have hP := hW.P
  have x0 : callD (d + 3) 28 [.ref 59, .ref 61] σ = _ := h59_sumOf2 (d + 1) σ T h hP
  have x1 : callD (d + 3) 7 [.ref 59] σ = _ := h59_howManyLit (d + 1) σ T h hP hW.B
  have x2 : callD (d + 3) 28 [.ref 59, .ref 64] σ = _ := h59_sumOf5 (d + 1) σ T h hP
  have x7 : callD (d + 3) 28 [.ref 59, .ref 62] σ = _ := h59_sumOf3 (d + 1) σ T h hP
  have x6 : callD (d + 3) 29 [.ref 59] σ = _ := h59_highest d σ T h hP
  have x3 : σ 59 10 = T 10 := h.2.2.2.2.1
  have x4 : σ 59 11 = T 11 := h.2.2.2.2.2.1
  have x5 : σ 59 12 = T 12 := h.2.2.2.2.2.2.1
  have hw' : w = 0 ∨ w = 1 ∨ w = 2 ∨ w = 3 ∨ w = 4 ∨ w = 5 ∨ w = 6 ∨ w = 7 := by omega
  rcases hw' with rfl | rfl | rfl | rfl | rfl | rfl | rfl | rfl
  · simp only [c27, s27_0, s27_1, s27_44, s27_45, s27_46_o2, s27_46_o59, s27_49_o2, s27_49_o59, s27_52, s27_53, s27_54_o2, s27_54_o59, s27_57, s27_58, s27_59, s27_60_o2, s27_60_o59, s27_63_o2, s27_63_o59, s27_66, s27_67, s27_68_o2, s27_68_o59, s27_71, s27_72, s27_73_o2, s27_73_o59, s27_76, s27_77, s27_78_o2, s27_78_o59, s27_81, s27_82, s27_83_o2, s27_83_o59, s27_86, s27_87, s27_88, s27_89_o2, s27_89_o59, s27_92_o2, s27_92_o59, s27_95, htI, n_0, x0, simprocAttr, if_true, if_false, true_and, and_true, false_and, and_false, not_false_eq_true, not_true_eq_false, gd_T, kont_i, kont_v]
  · simp only [c27, s27_0, s27_1, s27_44, s27_45, s27_46_o2, s27_46_o59, s27_49_o2, s27_49_o59, s27_52, s27_53, s27_54_o2, s27_54_o59, s27_57, s27_58, s27_59, s27_60_o2, s27_60_o59, s27_63_o2, s27_63_o59, s27_66, s27_67, s27_68_o2, s27_68_o59, s27_71, s27_72, s27_73_o2, s27_73_o59, s27_76, s27_77, s27_78_o2, s27_78_o59, s27_81, s27_82, s27_83_o2, s27_83_o59, s27_86, s27_87, s27_88, s27_89_o2, s27_89_o59, s27_92_o2, s27_92_o59, s27_95, htI, n_1, x1, simprocAttr, if_true, if_false, true_and, and_true, false_and, and_false, not_false_eq_true, not_true_eq_false, gd_T, kont_i, kont_v]
  · simp only [c27, s27_0, s27_1, s27_44, s27_45, s27_46_o2, s27_46_o59, s27_49_o2, s27_49_o59, s27_52, s27_53, s27_54_o2, s27_54_o59, s27_57, s27_58, s27_59, s27_60_o2, s27_60_o59, s27_63_o2, s27_63_o59, s27_66, s27_67, s27_68_o2, s27_68_o59, s27_71, s27_72, s27_73_o2, s27_73_o59, s27_76, s27_77, s27_78_o2, s27_78_o59, s27_81, s27_82, s27_83_o2, s27_83_o59, s27_86, s27_87, s27_88, s27_89_o2, s27_89_o59, s27_92_o2, s27_92_o59, s27_95, htI, n_2, x2, simprocAttr, if_true, if_false, true_and, and_true, false_and, and_false, not_false_eq_true, not_true_eq_false, gd_T, kont_i, kont_v]
  · simp only [c27, s27_0, s27_1, s27_44, s27_45, s27_46_o2, s27_46_o59, s27_49_o2, s27_49_o59, s27_52, s27_53, s27_54_o2, s27_54_o59, s27_57, s27_58, s27_59, s27_60_o2, s27_60_o59, s27_63_o2, s27_63_o59, s27_66, s27_67, s27_68_o2, s27_68_o59, s27_71, s27_72, s27_73_o2, s27_73_o59, s27_76, s27_77, s27_78_o2, s27_78_o59, s27_81, s27_82, s27_83_o2, s27_83_o59, s27_86, s27_87, s27_88, s27_89_o2, s27_89_o59, s27_92_o2, s27_92_o59, s27_95, htI, n_3, x3, simprocAttr, if_true, if_false, true_and, and_true, false_and, and_false, not_false_eq_true, not_true_eq_false, gd_T, kont_i, kont_v]
  · simp only [c27, s27_0, s27_1, s27_44, s27_45, s27_46_o2, s27_46_o59, s27_49_o2, s27_49_o59, s27_52, s27_53, s27_54_o2, s27_54_o59, s27_57, s27_58, s27_59, s27_60_o2, s27_60_o59, s27_63_o2, s27_63_o59, s27_66, s27_67, s27_68_o2, s27_68_o59, s27_71, s27_72, s27_73_o2, s27_73_o59, s27_76, s27_77, s27_78_o2, s27_78_o59, s27_81, s27_82, s27_83_o2, s27_83_o59, s27_86, s27_87, s27_88, s27_89_o2, s27_89_o59, s27_92_o2, s27_92_o59, s27_95, htI, n_4, x4, simprocAttr, if_true, if_false, true_and, and_true, false_and, and_false, not_false_eq_true, not_true_eq_false, gd_T, kont_i, kont_v]
  · simp only [c27, s27_0, s27_1, s27_44, s27_45, s27_46_o2, s27_46_o59, s27_49_o2, s27_49_o59, s27_52, s27_53, s27_54_o2, s27_54_o59, s27_57, s27_58, s27_59, s27_60_o2, s27_60_o59, s27_63_o2, s27_63_o59, s27_66, s27_67, s27_68_o2, s27_68_o59, s27_71, s27_72, s27_73_o2, s27_73_o59, s27_76, s27_77, s27_78_o2, s27_78_o59, s27_81, s27_82, s27_83_o2, s27_83_o59, s27_86, s27_87, s27_88, s27_89_o2, s27_89_o59, s27_92_o2, s27_92_o59, s27_95, htI, n_5, x5, simprocAttr, if_true, if_false, true_and, and_true, false_and, and_false, not_false_eq_true, not_true_eq_false, gd_T, kont_i, kont_v]
  · simp only [c27, s27_0, s27_1, s27_44, s27_45, s27_46_o2, s27_46_o59, s27_49_o2, s27_49_o59, s27_52, s27_53, s27_54_o2, s27_54_o59, s27_57, s27_58, s27_59, s27_60_o2, s27_60_o59, s27_63_o2, s27_63_o59, s27_66, s27_67, s27_68_o2, s27_68_o59, s27_71, s27_72, s27_73_o2, s27_73_o59, s27_76, s27_77, s27_78_o2, s27_78_o59, s27_81, s27_82, s27_83_o2, s27_83_o59, s27_86, s27_87, s27_88, s27_89_o2, s27_89_o59, s27_92_o2, s27_92_o59, s27_95, htI, n_6, x6, simprocAttr, if_true, if_false, true_and, and_true, false_and, and_false, not_false_eq_true, not_true_eq_false, gd_T, kont_i, kont_v]
  · simp only [c27, s27_0, s27_1, s27_44, s27_45, s27_46_o2, s27_46_o59, s27_49_o2, s27_49_o59, s27_52, s27_53, s27_54_o2, s27_54_o59, s27_57, s27_58, s27_59, s27_60_o2, s27_60_o59, s27_63_o2, s27_63_o59, s27_66, s27_67, s27_68_o2, s27_68_o59, s27_71, s27_72, s27_73_o2, s27_73_o59, s27_76, s27_77, s27_78_o2, s27_78_o59, s27_81, s27_82, s27_83_o2, s27_83_o59, s27_86, s27_87, s27_88, s27_89_o2, s27_89_o59, s27_92_o2, s27_92_o59, s27_95, htI, n_7, x7, simprocAttr, if_true, if_false, true_and, and_true, false_and, and_false, not_false_eq_true, not_true_eq_false, gd_T, kont_i, kont_v]
theorem h59_gardenTells (d g w : Nat) (hg : g < 9) (hw : w < 3) (σ : Hs) (T : Nat → Int32) (h : HR 59 σ T) : callD (d + 1) 26 [.ref 59, .int (nI g), .int (nI w)] σ = some (some (.int (T (224 + 3 * g + w))), σ) := by
  have g31 : g < 2147483648 := by omega
  have x8 : σ 67 g = T (224 + 3 * g + 2) := by rw [show 224 + 3 * g + 2 = 226 + 3 * g by omega]; exact (h.2.2.2.1 g hg).1
  have x9 : σ 68 g = T (224 + 3 * g + 0) := (h.2.2.2.1 g hg).2.1
  have x10 : σ 69 g = T (224 + 3 * g + 1) := by rw [show 224 + 3 * g + 1 = 225 + 3 * g by omega]; exact (h.2.2.2.1 g hg).2.2
  have hw' : w = 0 ∨ w = 1 ∨ w = 2 := by omega
  rcases hw' with rfl | rfl | rfl
  · simp only [c26, s26_0, s26_1, s26_28, s26_29_o2, s26_29_o59, s26_32, s26_33_o11, s26_33_o68, s26_34, s26_35, s26_36_o2, s26_36_o59, s26_39, s26_40_o12, s26_40_o69, s26_41, s26_42, s26_43_o2, s26_43_o59, s26_46, s26_47_o10, s26_47_o67, s26_48, n_0, vp_nI hg, cl_nI g31, x9, simprocAttr, if_true, if_false, true_and, and_true, false_and, and_false, not_false_eq_true, not_true_eq_false, gd_T, kont_i, kont_v]
  · simp only [c26, s26_0, s26_1, s26_28, s26_29_o2, s26_29_o59, s26_32, s26_33_o11, s26_33_o68, s26_34, s26_35, s26_36_o2, s26_36_o59, s26_39, s26_40_o12, s26_40_o69, s26_41, s26_42, s26_43_o2, s26_43_o59, s26_46, s26_47_o10, s26_47_o67, s26_48, n_1, vp_nI hg, cl_nI g31, x10, simprocAttr, if_true, if_false, true_and, and_true, false_and, and_false, not_false_eq_true, not_true_eq_false, gd_T, kont_i, kont_v]
  · simp only [c26, s26_0, s26_1, s26_28, s26_29_o2, s26_29_o59, s26_32, s26_33_o11, s26_33_o68, s26_34, s26_35, s26_36_o2, s26_36_o59, s26_39, s26_40_o12, s26_40_o69, s26_41, s26_42, s26_43_o2, s26_43_o59, s26_46, s26_47_o10, s26_47_o67, s26_48, n_2, vp_nI hg, cl_nI g31, x8, simprocAttr, if_true, if_false, true_and, and_true, false_and, and_false, not_false_eq_true, not_true_eq_false, gd_T, kont_i, kont_v]
