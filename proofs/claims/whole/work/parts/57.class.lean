/-! ===== the class: laws at work; a place burns ===== -/
theorem cr14_0 : cr 14 0 = 16 := by decide +kernel
theorem cr43_0 : cr 43 0 = 45 := by decide +kernel
theorem cr14_1 : cr 14 1 = 18 := by decide +kernel
theorem cr43_1 : cr 43 1 = 47 := by decide +kernel
theorem cr14_2 : cr 14 2 = 20 := by decide +kernel
theorem cr43_2 : cr 43 2 = 49 := by decide +kernel
theorem cr76_0 : cr 76 0 = 77 := by decide +kernel
theorem cr76_1 : cr 76 1 = 79 := by decide +kernel
theorem cr76_2 : cr 76 2 = 81 := by decide +kernel
theorem cr76_3 : cr 76 3 = 83 := by decide +kernel
def LRu (u : Nat) (σ : Hs) (T : Nat → Int32) : Prop := σ (16 + 2 * u) 1 = T (359 + 62 * u) ∧ ∀ cnt, cnt ≤ 60 → T (359 + 62 * u) = nI cnt → ∀ k, k < cnt → σ (17 + 2 * u) k = enI (T (360 + 62 * u + k))
def LR (σ : Hs) (T : Nat → Int32) : Prop := LRu 0 σ T ∧ LRu 1 σ T ∧ LRu 2 σ T
theorem k_has_0 (d : Nat) (σ : Hs) (T : Nat → Int32) (h : LRu 0 σ T) : callD (d + 1) 30 [.ref 13, .int 0] σ = some (some (.int (b2 (0 < T 359))), σ) := by
  have e : σ 16 1 = T 359 := h.1
  simp only [c30, s30_0, s30_1_o13, s30_4, s30_5_o14, s30_6_o16, s30_6_o18, s30_6_o20, s30_9, s30_12, s30_13, s30_16, s30_17, vp_lit, cr14_0, e, isB_0, isB_1, simprocAttr, if_true, if_false, true_and, and_true, false_and, and_false, not_false_eq_true, not_true_eq_false, gd_T, kont_i, kont_v]
  by_cases c : 0 < T 359
  · rw [if_neg (Int32.not_le.mpr c), b2_T c]
  · rw [if_pos (Int32.not_lt.mp c), b2_F c]
theorem k_work_0 (d : Nat) (a b c e : Int32) (σ : Hs) (T : Nat → Int32) (h : LRu 0 σ T) (hL : LWT T 0) (hp : 0 < T 359) : ∃ σ', callD (d + 2) 32 [.ref 13, .int 0, .int a, .int b, .int c, .int e] σ = some (some (.int (lawT T 0 a b c e)), σ') ∧ ∀ o, o ≠ 15 → σ' o = σ o := by
  obtain ⟨cnt, hc60, hcnt, hw⟩ := hL
  have hcnt' : T 359 = nI cnt := hcnt
  have hs : σ 16 1 = nI cnt := h.1.trans hcnt
  have hw' : wfV (cdL T 360 cnt) 0 := hw.resolve_left (fun c0 => by
    subst c0
    rw [hcnt'] at hp
    exact absurd hp (by decide))
  obtain ⟨F', hi⟩ := k_work_l_0 d σ T cnt hs hc60 (h.2 cnt hc60 hcnt) (.int 0) a b c e cnt 0 0 (σ 15) uu hw' (by omega) (by omega)
  rw [rep_same] at hi
  refine ⟨rep σ 15 F', ?_, fun o ho => rep_ne ho⟩
  unfold lawT
  simp only [hcnt', cl_nI (show cnt < 2147483648 by omega), simprocAttr, if_true, if_false, true_and, and_true, false_and, and_false, not_false_eq_true, not_true_eq_false, gd_T, kont_i, kont_v]
  simp only [s32_0, s32_1, s32_3, s32_4_o13, s32_7, s32_8_o14, s32_9, s32_11, s32_12, c32, vp_lit, cr14_0, simprocAttr, if_true, if_false, true_and, and_true, false_and, and_false, not_false_eq_true, not_true_eq_false, gd_T, kont_i, kont_v]
  exact hi
theorem k_has_1 (d : Nat) (σ : Hs) (T : Nat → Int32) (h : LRu 1 σ T) : callD (d + 1) 30 [.ref 13, .int 1] σ = some (some (.int (b2 (0 < T 421))), σ) := by
  have e : σ 18 1 = T 421 := h.1
  simp only [c30, s30_0, s30_1_o13, s30_4, s30_5_o14, s30_6_o16, s30_6_o18, s30_6_o20, s30_9, s30_12, s30_13, s30_16, s30_17, vp_lit, cr14_1, e, isB_0, isB_1, simprocAttr, if_true, if_false, true_and, and_true, false_and, and_false, not_false_eq_true, not_true_eq_false, gd_T, kont_i, kont_v]
  by_cases c : 0 < T 421
  · rw [if_neg (Int32.not_le.mpr c), b2_T c]
  · rw [if_pos (Int32.not_lt.mp c), b2_F c]
theorem k_work_1 (d : Nat) (a b c e : Int32) (σ : Hs) (T : Nat → Int32) (h : LRu 1 σ T) (hL : LWT T 1) (hp : 0 < T 421) : ∃ σ', callD (d + 2) 32 [.ref 13, .int 1, .int a, .int b, .int c, .int e] σ = some (some (.int (lawT T 1 a b c e)), σ') ∧ ∀ o, o ≠ 15 → σ' o = σ o := by
  obtain ⟨cnt, hc60, hcnt, hw⟩ := hL
  have hcnt' : T 421 = nI cnt := hcnt
  have hs : σ 18 1 = nI cnt := h.1.trans hcnt
  have hw' : wfV (cdL T 422 cnt) 0 := hw.resolve_left (fun c0 => by
    subst c0
    rw [hcnt'] at hp
    exact absurd hp (by decide))
  obtain ⟨F', hi⟩ := k_work_l_1 d σ T cnt hs hc60 (h.2 cnt hc60 hcnt) (.int 1) a b c e cnt 0 0 (σ 15) uu hw' (by omega) (by omega)
  rw [rep_same] at hi
  refine ⟨rep σ 15 F', ?_, fun o ho => rep_ne ho⟩
  unfold lawT
  simp only [hcnt', cl_nI (show cnt < 2147483648 by omega), simprocAttr, if_true, if_false, true_and, and_true, false_and, and_false, not_false_eq_true, not_true_eq_false, gd_T, kont_i, kont_v]
  simp only [s32_0, s32_1, s32_3, s32_4_o13, s32_7, s32_8_o14, s32_9, s32_11, s32_12, c32, vp_lit, cr14_1, simprocAttr, if_true, if_false, true_and, and_true, false_and, and_false, not_false_eq_true, not_true_eq_false, gd_T, kont_i, kont_v]
  exact hi
theorem k_has_2 (d : Nat) (σ : Hs) (T : Nat → Int32) (h : LRu 2 σ T) : callD (d + 1) 30 [.ref 13, .int 2] σ = some (some (.int (b2 (0 < T 483))), σ) := by
  have e : σ 20 1 = T 483 := h.1
  simp only [c30, s30_0, s30_1_o13, s30_4, s30_5_o14, s30_6_o16, s30_6_o18, s30_6_o20, s30_9, s30_12, s30_13, s30_16, s30_17, vp_lit, cr14_2, e, isB_0, isB_1, simprocAttr, if_true, if_false, true_and, and_true, false_and, and_false, not_false_eq_true, not_true_eq_false, gd_T, kont_i, kont_v]
  by_cases c : 0 < T 483
  · rw [if_neg (Int32.not_le.mpr c), b2_T c]
  · rw [if_pos (Int32.not_lt.mp c), b2_F c]
theorem k_work_2 (d : Nat) (a b c e : Int32) (σ : Hs) (T : Nat → Int32) (h : LRu 2 σ T) (hL : LWT T 2) (hp : 0 < T 483) : ∃ σ', callD (d + 2) 32 [.ref 13, .int 2, .int a, .int b, .int c, .int e] σ = some (some (.int (lawT T 2 a b c e)), σ') ∧ ∀ o, o ≠ 15 → σ' o = σ o := by
  obtain ⟨cnt, hc60, hcnt, hw⟩ := hL
  have hcnt' : T 483 = nI cnt := hcnt
  have hs : σ 20 1 = nI cnt := h.1.trans hcnt
  have hw' : wfV (cdL T 484 cnt) 0 := hw.resolve_left (fun c0 => by
    subst c0
    rw [hcnt'] at hp
    exact absurd hp (by decide))
  obtain ⟨F', hi⟩ := k_work_l_2 d σ T cnt hs hc60 (h.2 cnt hc60 hcnt) (.int 2) a b c e cnt 0 0 (σ 15) uu hw' (by omega) (by omega)
  rw [rep_same] at hi
  refine ⟨rep σ 15 F', ?_, fun o ho => rep_ne ho⟩
  unfold lawT
  simp only [hcnt', cl_nI (show cnt < 2147483648 by omega), simprocAttr, if_true, if_false, true_and, and_true, false_and, and_false, not_false_eq_true, not_true_eq_false, gd_T, kont_i, kont_v]
  simp only [s32_0, s32_1, s32_3, s32_4_o13, s32_7, s32_8_o14, s32_9, s32_11, s32_12, c32, vp_lit, cr14_2, simprocAttr, if_true, if_false, true_and, and_true, false_and, and_false, not_false_eq_true, not_true_eq_false, gd_T, kont_i, kont_v]
  exact hi
/-- what lies of a told amount -/
theorem hel_1 (x : Int32) {s : Nat} (h1 : 1 ≤ s) (hs : s < 2147483648) : ∃ h, 1 ≤ h ∧ h ≤ s ∧ jmax 1 (jmin x (nI s)) = nI h := by
  unfold jmin
  by_cases c : nI s < x
  · rw [if_pos c]
    exact ⟨s, h1, Nat.le_refl _, by rw [show (1 : Int32) = nI 1 from rfl, jmax_n (by omega) hs, Nat.max_eq_right h1]⟩
  · rw [if_neg c]
    unfold jmax
    by_cases c2 : 1 < x
    · rw [if_pos c2]
      have hx : ¬ x < 0 := fun q => Int32.lt_irrefl (Int32.lt_trans (Int32.lt_trans q (by decide : (0 : Int32) < 1)) c2)
      obtain ⟨j, hj, rfl⟩ := nI_of hx
      rw [show (1 : Int32) = nI 1 from rfl, lt_nn (by omega) hj] at c2
      rw [lt_nn hs hj] at c
      exact ⟨j, by omega, by omega, rfl⟩
    · rw [if_neg c2]
      exact ⟨1, Nat.le_refl _, h1, rfl⟩
def bN (k h s : Nat) : Nat := if k = 1 then min (2 * h) s else if k = 3 then min (6 * h) s else if k = 4 then h / 2 else if k = 5 then h / 2 else if k = 6 then 0 else h
theorem bN_le {k h s : Nat} (hh : h ≤ s) : bN k h s ≤ s := by
  unfold bN
  repeat' split
  all_goals omega
/-- what burns, of a told amount -/
def toT (T : Nat → Int32) (p : Nat) (x : Int32) : Int32 := jmax 1 (jmin x (ofT T p 2))
theorem bOf_n {T : Nat → Int32} {p k s : Nat} (ek : ofT T p 1 = nI k) (es : ofT T p 2 = nI s) (lk : k < 7) (l1 : 1 ≤ s) (ls : s < 1000) : ∃ h, 1 ≤ h ∧ h ≤ s ∧ jmax 1 (jmin (givT T 0 (drT T p) (nI s) (ofT T p 3) (ofT T p 5)) (nI s)) = nI h ∧ bOfT T p = nI (bN k h s) := by
  obtain ⟨h, h1, h2, h3⟩ := hel_1 (givT T 0 (drT T p) (nI s) (ofT T p 3) (ofT T p 5)) l1 (by omega)
  refine ⟨h, h1, h2, h3, ?_⟩
  unfold bOfT
  simp only []
  rw [ek, es]
  have e : heldI (givT T 0 (drT T p) (nI s) (ofT T p 3) (ofT T p 5)) 1 (nI s) = nI h := by
    unfold heldI
    rw [jmin_c]; exact h3
  rw [e]
  have m2 : (2 : Int32) * nI h = nI (2 * h) := pk_mul 2 h
  have m6 : (6 : Int32) * nI h = nI (6 * h) := pk_mul 6 h
  have d2 : nI h / 2 = nI (h / 2) := pk_div (d := 2) (by omega) (by decide) (by decide)
  have hd : ∀ a, a < 10000 → heldI (nI a) 0 (nI s) = nI (min a s) := by
    intro a ha
    unfold heldI
    rw [jmin_c, jmin_n (by omega) (by omega), show (0 : Int32) = nI 0 from rfl, jmax_n (by omega) (by omega), Nat.max_eq_right (by omega)]
  rw [m2, m6, d2, hd _ (by omega), hd _ (by omega)]
  unfold bN
  have hk : k = 0 ∨ k = 1 ∨ k = 2 ∨ k = 3 ∨ k = 4 ∨ k = 5 ∨ k = 6 := by omega
  rcases hk with rfl | rfl | rfl | rfl | rfl | rfl | rfl <;> rfl
theorem k_burnsAsKind (d k h s : Nat) (lk : k < 7) (h1 : 1 ≤ h) (h2 : h ≤ s) (ls : s < 1000) (σ : Hs) : ∃ v, callD (d + 1) 16 [.int (nI k), .int (nI h)] σ = some (some (.int v), σ) ∧ jmin v (nI s) = nI (bN k h s) := by
  have m2 : (2 : Int32) * nI h = nI (2 * h) := pk_mul 2 h
  have m6 : (6 : Int32) * nI h = nI (6 * h) := pk_mul 6 h
  have d2 : nI h / 2 = nI (h / 2) := pk_div (d := 2) (by omega) (by decide) (by decide)
  have hk : k = 0 ∨ k = 1 ∨ k = 2 ∨ k = 3 ∨ k = 4 ∨ k = 5 ∨ k = 6 := by omega
  have jm : ∀ a, a < 10000 → jmin (nI a) (nI s) = nI (min a s) := fun a ha => jmin_n (by omega) (by omega)
  rcases hk with rfl | rfl | rfl | rfl | rfl | rfl | rfl
  · refine ⟨nI h, ?_, ?_⟩
    · simp only [c16, s16_0, s16_1, s16_40, s16_41, s16_42, s16_43, s16_44, s16_46, s16_47, s16_48, s16_49, s16_50, s16_51, s16_52, s16_53, s16_54, s16_55, s16_56, n_0, simprocAttr, if_true, if_false, true_and, and_true, false_and, and_false, not_false_eq_true, not_true_eq_false, gd_T, kont_i, kont_v]
    · rw [jm _ (by omega), Nat.min_eq_left (by omega)]; rfl
  · refine ⟨nI (2 * h), ?_, ?_⟩
    · simp only [c16, s16_0, s16_1, s16_40, s16_41, s16_42, s16_43, s16_44, s16_46, s16_47, s16_48, s16_49, s16_50, s16_51, s16_52, s16_53, s16_54, s16_55, s16_56, n_1, m2, simprocAttr, if_true, if_false, true_and, and_true, false_and, and_false, not_false_eq_true, not_true_eq_false, gd_T, kont_i, kont_v]
    · rw [jm _ (by omega)]; rfl
  · refine ⟨nI h, ?_, ?_⟩
    · simp only [c16, s16_0, s16_1, s16_40, s16_41, s16_42, s16_43, s16_44, s16_46, s16_47, s16_48, s16_49, s16_50, s16_51, s16_52, s16_53, s16_54, s16_55, s16_56, n_2, simprocAttr, if_true, if_false, true_and, and_true, false_and, and_false, not_false_eq_true, not_true_eq_false, gd_T, kont_i, kont_v]
    · rw [jm _ (by omega), Nat.min_eq_left (by omega)]; rfl
  · refine ⟨nI (6 * h), ?_, ?_⟩
    · simp only [c16, s16_0, s16_1, s16_40, s16_41, s16_42, s16_43, s16_44, s16_46, s16_47, s16_48, s16_49, s16_50, s16_51, s16_52, s16_53, s16_54, s16_55, s16_56, n_3, m6, simprocAttr, if_true, if_false, true_and, and_true, false_and, and_false, not_false_eq_true, not_true_eq_false, gd_T, kont_i, kont_v]
    · rw [jm _ (by omega)]; rfl
  · refine ⟨nI (h / 2), ?_, ?_⟩
    · simp only [c16, s16_0, s16_1, s16_40, s16_41, s16_42, s16_43, s16_44, s16_46, s16_47, s16_48, s16_49, s16_50, s16_51, s16_52, s16_53, s16_54, s16_55, s16_56, n_4, z2, d2, not_false_eq_true, simprocAttr, if_true, if_false, true_and, and_true, false_and, and_false, not_false_eq_true, not_true_eq_false, gd_T, kont_i, kont_v]
    · rw [jm _ (by omega), Nat.min_eq_left (by omega)]; rfl
  · refine ⟨nI (h / 2), ?_, ?_⟩
    · simp only [c16, s16_0, s16_1, s16_40, s16_41, s16_42, s16_43, s16_44, s16_46, s16_47, s16_48, s16_49, s16_50, s16_51, s16_52, s16_53, s16_54, s16_55, s16_56, n_5, z2, d2, not_false_eq_true, simprocAttr, if_true, if_false, true_and, and_true, false_and, and_false, not_false_eq_true, not_true_eq_false, gd_T, kont_i, kont_v]
    · rw [jm _ (by omega), Nat.min_eq_left (by omega)]; rfl
  · refine ⟨nI 0, ?_, ?_⟩
    · simp only [c16, s16_0, s16_1, s16_40, s16_41, s16_42, s16_43, s16_44, s16_46, s16_47, s16_48, s16_49, s16_50, s16_51, s16_52, s16_53, s16_54, s16_55, s16_56, n_6, n_0, simprocAttr, if_true, if_false, true_and, and_true, false_and, and_false, not_false_eq_true, not_true_eq_false, gd_T, kont_i, kont_v]
    · rw [jm _ (by omega), Nat.min_eq_left (by omega)]; rfl
/-- what is held -/
def CA (v : Int32) : Prop := ∃ n, n ≤ 1999999999 ∧ v = nI n
theorem more_n {n k : Nat} (hn : n ≤ 1999999999) (hk : k ≤ 100000000) : moreI (nI n) (nI k) = nI (min (n + k) 1999999999) := by
  unfold moreI jminL
  have e : (nI n).toInt64 + (nI k).toInt64 = lN (n + k) := by
    rw [nI_l (by omega), nI_l (by omega)]
    exact lN_add n k
  rw [e, show (1999999999 : Int64) = lN 1999999999 from rfl]
  by_cases c : n + k < 1999999999
  · rw [if_pos ((pk_lLT (by omega) (by omega)).mpr c), lN_i, Nat.min_eq_left (by omega)]
  · rw [if_neg (fun q => c ((pk_lLT (by omega) (by omega)).mp q)), lN_i, Nat.min_eq_right (by omega)]
theorem more_j {v : Int32} {k : Nat} (hv : CA v) (hk : k ≤ 100000000) : jmin (v + nI k) 1999999999 = moreI v (nI k) := by
  obtain ⟨n, hn, rfl⟩ := hv
  rw [more_n hn hk, nI_add, show (1999999999 : Int32) = nI 1999999999 from rfl, jmin_n (by omega) (by omega)]
theorem more_c {v : Int32} {k : Nat} (hv : CA v) (hk : k ≤ 100000000) : CA (moreI v (nI k)) := by
  obtain ⟨n, hn, rfl⟩ := hv
  rw [more_n hn hk]
  exact ⟨_, Nat.min_le_right _ _, rfl⟩
theorem more_0 {v : Int32} (hv : CA v) : moreI v 0 = v := by
  obtain ⟨n, hn, rfl⟩ := hv
  have e := more_n (n := n) (k := 0) hn (by omega)
  rw [show (0 : Int32) = nI 0 from rfl, e, Nat.min_eq_left (by omega)]
  rfl
theorem HR.up {b : Nat} {σ : Hs} {T : Nat → Int32} (h : HR b σ T) {k a : Nat} (hk : (k = 10 ∧ a = 10) ∨ (k = 11 ∧ a = 11) ∨ (k = 12 ∧ a = 12) ∨ (k = 13 ∧ a = 0)) (v : Int32) : HR b (rep σ b (upd (σ b) k v)) (upd T a v) := by
  have e : ∀ p f, p < 30 → f < 7 → ofT (upd T a v) p f = ofT T p f := by
    intro p f hp hf
    simp only [ofT, upd]
    rw [if_neg (by omega)]
  obtain ⟨a1, a2, a3, a4, a5, a6, a7, a8⟩ := h
  refine ⟨?_, ?_, ?_, ?_, ?_, ?_, ?_, ?_⟩
  · intro p hp hi f f1 f6
    unfold isT at hi
    rw [e p 0 hp (by omega)] at hi
    rw [rep_ne (by omega), e p f hp (by omega)]
    exact a1 p hp hi f f1 f6
  · intro p hp hi
    unfold isT at hi
    rw [e p 0 hp (by omega)] at hi
    rw [rep_ne (by omega)]
    exact a2 p hp hi
  · intro j hj
    rw [rep_ne (by omega), upd_at, if_neg (by omega)]; exact a3 j hj
  · intro g hg
    rw [rep_ne (by omega), rep_ne (by omega), rep_ne (by omega), upd_at, upd_at, upd_at, if_neg (by omega), if_neg (by omega), if_neg (by omega)]; exact a4 g hg
  all_goals
    rw [rep_self, upd_at, upd_at]
    rcases hk with ⟨rfl, rfl⟩ | ⟨rfl, rfl⟩ | ⟨rfl, rfl⟩ | ⟨rfl, rfl⟩ <;> first | rfl | assumption
