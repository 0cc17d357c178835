/-! ===== the class: warmth goes over ===== -/
def gvT (T : Nat → Int32) (p x : Nat) : Nat → Int32 := if isT T x then waT (waT T p (-(ofT T p 5 / 8))) x (ofT T p 5 / 8) else T
theorem glS_some {T : Nat → Int32} {p s x : Nat} (h : besN p s = some x) : glS T p s = gvT T p x := by
  unfold glS gvT
  rw [h]
theorem glS_none {T : Nat → Int32} {p s : Nat} (h : besN p s = none) : glS T p s = T := by
  unfold glS
  rw [h]
theorem besN_ne {p s x : Nat} (h : besN p s = some x) : x ≠ p := by
  unfold besN at h
  split at h
  · split at h
    · cases h; omega
    · cases h
  · split at h
    · split at h
      · cases h; omega
      · cases h
    · split at h
      · split at h
        · cases h; omega
        · cases h
      · split at h
        · cases h; omega
        · cases h
theorem wa_n {T : Nat → Int32} {p h : Nat} {v : Int32} (e : heldI (ofT T p 5 + v) 0 9999 = nI h) : waT T p v = teT T p 5 (nI h) := by
  unfold waT
  rw [e]
theorem gvT_on {T : Nat → Int32} (hW : WI T) {p x : Nat} (hp : p < 30) (hx : x < 30) (hi : isT T p) (hj : isT T x) (hne : x ≠ p) : ∃ h k : Nat, ofT T p 5 = nI h ∧ ofT T x 5 = nI k ∧ h < 10000 ∧ k < 10000 ∧ gvT T p x = teT (teT T x 5 (nI (min (k + h / 8) 9999))) p 5 (nI (h - h / 8)) := by
  obtain ⟨h, eh, lh⟩ := hW.n hp hi 5 (by omega) (by omega)
  obtain ⟨k, ek, lk⟩ := hW.n hx hj 5 (by omega) (by omega)
  have lh' : h < 10000 := lh
  have lk' : k < 10000 := lk
  refine ⟨h, k, eh, ek, lh', lk', ?_⟩
  have e8 : nI h / 8 = nI (h / 8) := pk_div (d := 8) (by omega) (by decide) (by decide)
  unfold gvT
  rw [if_pos hj, eh, e8]
  have e1 : waT T p (-(nI (h / 8))) = teT T p 5 (nI (h - h / 8)) := wa_n (by rw [eh, ← Int32.sub_eq_add_neg]; exact hel_s lh' (by omega))
  rw [e1]
  have e2 : ofT (teT T p 5 (nI (h - h / 8))) x 5 = nI k := by rw [ofT_te (by omega) (by omega), if_neg (fun c => hne c.1)]; exact ek
  have e3 : waT (teT T p 5 (nI (h - h / 8))) x (nI (h / 8)) = teT (teT T p 5 (nI (h - h / 8))) x 5 (nI (min (k + h / 8) 9999)) := wa_n (by rw [e2, nI_add]; exact hel_n (by omega))
  rw [e3]
  exact teT_c (by omega) (by omega) (fun c => hne c.1.symm)
theorem gvT_is {T : Nat → Int32} {p x q : Nat} : isT (gvT T p x) q = isT T q := by
  unfold gvT waT
  by_cases h : isT T x
  · rw [if_pos h, isT_te (by omega) (by omega), isT_te (by omega) (by omega)]
  · rw [if_neg h]
theorem glS_is {T : Nat → Int32} {p s q : Nat} : isT (glS T p s) q = isT T q := by
  cases h : besN p s with
  | none => rw [glS_none h]
  | some x => rw [glS_some h, gvT_is]
theorem WI.gv {T : Nat → Int32} (hW : WI T) {p x : Nat} (hp : p < 30) (hx : x < 30) (hi : isT T p) (hne : x ≠ p) : WI (gvT T p x) := by
  by_cases hj : isT T x
  · obtain ⟨h, k, -, -, lh, lk, e⟩ := gvT_on hW hp hx hi hj hne
    rw [e]
    exact (hW.te (f := 5) (by omega) (by omega) ⟨_, rfl, Nat.zero_le _, show _ < 10000 by omega⟩).te (f := 5) (by omega) (by omega) ⟨_, rfl, Nat.zero_le _, show _ < 10000 by omega⟩
  · unfold gvT
    rw [if_neg hj]
    exact hW
theorem WI.gs {T : Nat → Int32} (hW : WI T) {p : Nat} (hp : p < 30) (hi : isT T p) (s : Nat) : WI (glS T p s) := by
  cases h : besN p s with
  | none => rw [glS_none h]; exact hW
  | some x => rw [glS_some h]; exact hW.gv hp (besN_lt hp h) hi (besN_ne h)
theorem glF_is {T : Nat → Int32} {p q : Nat} : ∀ s, isT (glF T p s) q = isT T q
  | 0 => rfl
  | s + 1 => glS_is.trans (glF_is s)
theorem WI.gf {T : Nat → Int32} (hW : WI T) {p : Nat} (hp : p < 30) (hi : isT T p) : ∀ s, WI (glF T p s)
  | 0 => hW
  | s + 1 => (WI.gf hW hp hi s).gs hp (by rw [glF_is]; exact hi) s
theorem h2_giveWarm (d p x : Nat) (hp : p < 30) (hx : x < 30) (hne : x ≠ p) (σ : Hs) (T : Nat → Int32) (h : HR 2 σ T) (hW : WI T) (hi : isT T p) : ∃ σ', callD (d + 1) 18 [.ref 2, .int (nI p), .int (nI x)] σ = some (none, σ') ∧ HR 2 σ' (gvT T p x) ∧ ∀ o, o ≠ 7 → σ' o = σ o := by
  have p31 : p < 2147483648 := by omega
  have x31 : x < 2147483648 := by omega
  have ex : (σ 4 x ≤ 0) = ¬ isT T x := h.le hW.P hx
  by_cases hj : isT T x
  · obtain ⟨u, k, eu, ek, lu, lk, e⟩ := gvT_on hW hp hx hi hj hne
    have g5 : σ 7 p = nI u := (h.f hp hi 5 (by omega) (by omega)).trans eu
    have k5 : σ 7 x = nI k := (h.f hx hj 5 (by omega) (by omega)).trans ek
    have r1 := h.te hx hj 5 (by omega) (by omega) (nI (min (k + u / 8) 9999))
    have r2 := r1.te hp (by rw [isT_te (by omega) (by omega)]; exact hi) 5 (by omega) (by omega) (nI (u - u / 8))
    rw [← e] at r2
    refine ⟨_, ?_, r2, ?_⟩
    · have e8 : nI u / 8 = nI (u / 8) := pk_div (d := 8) (by omega) (by decide) (by decide)
      have e9 : jmin (nI (k + u / 8)) 9999 = nI (min (k + u / 8) 9999) := jmin_n (b := 9999) (by omega) (by decide)
      have es : nI u - nI (u / 8) = nI (u - u / 8) := pk_sub (by omega)
      have hpx : (p = x) = False := eq_false (fun q => hne q.symm)
      simp only [c18, s18_0, s18_1_o2, s18_1_o59, s18_4, s18_5_o4, s18_5_o61, s18_6, s18_9, s18_10_o2, s18_10_o59, s18_13, s18_14_o7, s18_14_o64, s18_15, s18_17, s18_18, s18_19, s18_20_o2, s18_20_o59, s18_23, s18_24, s18_25_o2, s18_25_o59, s18_28, s18_29_o7, s18_29_o64, s18_30, s18_31, s18_32, s18_35, s18_38_o7, s18_38_o64, s18_39, s18_40_o2, s18_40_o59, s18_43, s18_44, s18_45_o7, s18_45_o64, s18_46, s18_47, s18_48_o7, s18_48_o64, s18_49, vp_nI hp, cl_nI p31, vp_nI hx, cl_nI x31, ex, g5, k5, z8, e8, nI_add, e9, up2_rep, rep_at, upd_at, hpx, es, simprocAttr, if_true, if_false, true_and, and_true, false_and, and_false, not_false_eq_true, not_true_eq_false, gd_T, kont_i, kont_v]
      rw [if_neg (fun q => q hj)]
    · intro o o1
      rw [rep_ne o1, rep_ne o1]
  · refine ⟨σ, ?_, ?_, fun _ _ => rfl⟩
    · simp only [c18, s18_0, s18_1_o2, s18_1_o59, s18_4, s18_5_o4, s18_5_o61, s18_6, s18_9, s18_10_o2, s18_10_o59, s18_13, s18_14_o7, s18_14_o64, s18_15, s18_17, s18_18, s18_19, s18_20_o2, s18_20_o59, s18_23, s18_24, s18_25_o2, s18_25_o59, s18_28, s18_29_o7, s18_29_o64, s18_30, s18_31, s18_32, s18_35, s18_38_o7, s18_38_o64, s18_39, s18_40_o2, s18_40_o59, s18_43, s18_44, s18_45_o7, s18_45_o64, s18_46, s18_47, s18_48_o7, s18_48_o64, s18_49, vp_nI hx, cl_nI x31, ex, simprocAttr, if_true, if_false, true_and, and_true, false_and, and_false, not_false_eq_true, not_true_eq_false, gd_T, kont_i, kont_v]
      rw [if_pos hj]
    · unfold gvT
      rw [if_neg hj]
      exact h
theorem h2_wn0 (d p : Nat) (hp : p < 30) (σ : Hs) (T : Nat → Int32) (h : HR 2 σ T) (hW : WI T) (hi : isT T p) : ∃ σ', ru (d + 1) 17 5 [.ref 2, .int (nI p), .int (nI (p % 6))] [] σ = ru (d + 1) 17 17 [.ref 2, .int (nI p), .int (nI (p % 6))] [] σ' ∧ HR 2 σ' (glS T p 0) ∧ ∀ o, o ≠ 7 → σ' o = σ o := by
  have p31 : p < 2147483648 := by omega
  have pm31 : p % 6 < 2147483648 := by omega
  have p631 : p + 6 < 2147483648 := by omega
  have e6 : nI p + 6 = nI (p + 6) := nI_add p 6
  cases hb : besN p 0 with
  | none =>
    rw [glS_none hb]
    refine ⟨σ, ?_, h, fun _ _ => rfl⟩
    generalize hR : ru (d + 1) 17 17 [.ref 2, .int (nI p), .int (nI (p % 6))] [] σ = R
    simp only [besN, simprocAttr, if_true, if_false, true_and, and_true, false_and, and_false, not_false_eq_true, not_true_eq_false, gd_T, kont_i, kont_v] at hb
    simp only [s17_5, s17_6, s17_9, s17_10, s17_11, s17_12, s17_13, s17_14_o2, s17_14_o59, e6, le_nI_l pm31, le_nI_r pm31, le_nI_r p631, le_nI_r p31, lt_nI_l pm31, lt_nI_r p31, lt_nI_l p31, simprocAttr, if_true, if_false, true_and, and_true, false_and, and_false, not_false_eq_true, not_true_eq_false, gd_T, kont_i, kont_v]
    first
      | rw [if_pos (by split at hb <;> first | omega | cases hb)]
        exact hR
      | rw [if_neg (by split at hb <;> first | omega | cases hb)]
        exact hR
  | some x =>
    rw [glS_some hb]
    have hx := besN_lt hp hb
    have hne := besN_ne hb
    obtain ⟨σ', e', r', f'⟩ := h2_giveWarm d p x hp hx hne σ T h hW hi
    refine ⟨σ', ?_, r', f'⟩
    generalize hR : ru (d + 1) 17 17 [.ref 2, .int (nI p), .int (nI (p % 6))] [] σ' = R
    simp only [besN, simprocAttr, if_true, if_false, true_and, and_true, false_and, and_false, not_false_eq_true, not_true_eq_false, gd_T, kont_i, kont_v] at hb
    have em : 1 ≤ p → nI p - 1 = nI (p - 1) := fun q => by rw [show (1 : Int32) = nI 1 from rfl, pk_sub q]
    have em6 : 6 ≤ p → nI p - 6 = nI (p - 6) := fun q => by rw [show (6 : Int32) = nI 6 from rfl, pk_sub q]
    simp only [s17_5, s17_6, s17_9, s17_10, s17_11, s17_12, s17_13, s17_14_o2, s17_14_o59, e6, le_nI_l pm31, le_nI_r pm31, le_nI_r p631, le_nI_r p31, lt_nI_l pm31, lt_nI_r p31, lt_nI_l p31, simprocAttr, if_true, if_false, true_and, and_true, false_and, and_false, not_false_eq_true, not_true_eq_false, gd_T, kont_i, kont_v]
    split at hb
    · rename_i c
      have hb := Option.some.inj hb
      subst hb
      first
        | rw [if_neg (by omega), em (by omega)]
          simp only [e', kont_v, s17_5, s17_6, s17_9, s17_10, s17_11, s17_12, s17_13, s17_14_o2, s17_14_o59]
          exact hR
        | rw [if_neg (by omega), em6 (by omega)]
          simp only [e', kont_v, s17_5, s17_6, s17_9, s17_10, s17_11, s17_12, s17_13, s17_14_o2, s17_14_o59]
          exact hR
        | rw [if_neg (by omega)]
          simp only [nI_1, e6, e', kont_v, s17_5, s17_6, s17_9, s17_10, s17_11, s17_12, s17_13, s17_14_o2, s17_14_o59]
          exact hR
    · cases hb
theorem h2_wn1 (d p : Nat) (hp : p < 30) (σ : Hs) (T : Nat → Int32) (h : HR 2 σ T) (hW : WI T) (hi : isT T p) : ∃ σ', ru (d + 1) 17 17 [.ref 2, .int (nI p), .int (nI (p % 6))] [] σ = ru (d + 1) 17 30 [.ref 2, .int (nI p), .int (nI (p % 6))] [] σ' ∧ HR 2 σ' (glS T p 1) ∧ ∀ o, o ≠ 7 → σ' o = σ o := by
  have p31 : p < 2147483648 := by omega
  have pm31 : p % 6 < 2147483648 := by omega
  have p631 : p + 6 < 2147483648 := by omega
  have e6 : nI p + 6 = nI (p + 6) := nI_add p 6
  cases hb : besN p 1 with
  | none =>
    rw [glS_none hb]
    refine ⟨σ, ?_, h, fun _ _ => rfl⟩
    generalize hR : ru (d + 1) 17 30 [.ref 2, .int (nI p), .int (nI (p % 6))] [] σ = R
    simp only [besN, simprocAttr, if_true, if_false, true_and, and_true, false_and, and_false, not_false_eq_true, not_true_eq_false, gd_T, kont_i, kont_v] at hb
    simp only [s17_17, s17_18, s17_19, s17_22, s17_23, s17_24, s17_25, s17_26, s17_27_o2, s17_27_o59, e6, le_nI_l pm31, le_nI_r pm31, le_nI_r p631, le_nI_r p31, lt_nI_l pm31, lt_nI_r p31, lt_nI_l p31, simprocAttr, if_true, if_false, true_and, and_true, false_and, and_false, not_false_eq_true, not_true_eq_false, gd_T, kont_i, kont_v]
    first
      | rw [if_pos (by split at hb <;> first | omega | cases hb)]
        exact hR
      | rw [if_neg (by split at hb <;> first | omega | cases hb)]
        exact hR
  | some x =>
    rw [glS_some hb]
    have hx := besN_lt hp hb
    have hne := besN_ne hb
    obtain ⟨σ', e', r', f'⟩ := h2_giveWarm d p x hp hx hne σ T h hW hi
    refine ⟨σ', ?_, r', f'⟩
    generalize hR : ru (d + 1) 17 30 [.ref 2, .int (nI p), .int (nI (p % 6))] [] σ' = R
    simp only [besN, simprocAttr, if_true, if_false, true_and, and_true, false_and, and_false, not_false_eq_true, not_true_eq_false, gd_T, kont_i, kont_v] at hb
    have em : 1 ≤ p → nI p - 1 = nI (p - 1) := fun q => by rw [show (1 : Int32) = nI 1 from rfl, pk_sub q]
    have em6 : 6 ≤ p → nI p - 6 = nI (p - 6) := fun q => by rw [show (6 : Int32) = nI 6 from rfl, pk_sub q]
    simp only [s17_17, s17_18, s17_19, s17_22, s17_23, s17_24, s17_25, s17_26, s17_27_o2, s17_27_o59, e6, le_nI_l pm31, le_nI_r pm31, le_nI_r p631, le_nI_r p31, lt_nI_l pm31, lt_nI_r p31, lt_nI_l p31, simprocAttr, if_true, if_false, true_and, and_true, false_and, and_false, not_false_eq_true, not_true_eq_false, gd_T, kont_i, kont_v]
    split at hb
    · rename_i c
      have hb := Option.some.inj hb
      subst hb
      first
        | rw [if_neg (by omega), em (by omega)]
          simp only [e', kont_v, s17_17, s17_18, s17_19, s17_22, s17_23, s17_24, s17_25, s17_26, s17_27_o2, s17_27_o59]
          exact hR
        | rw [if_neg (by omega), em6 (by omega)]
          simp only [e', kont_v, s17_17, s17_18, s17_19, s17_22, s17_23, s17_24, s17_25, s17_26, s17_27_o2, s17_27_o59]
          exact hR
        | rw [if_neg (by omega)]
          simp only [nI_1, e6, e', kont_v, s17_17, s17_18, s17_19, s17_22, s17_23, s17_24, s17_25, s17_26, s17_27_o2, s17_27_o59]
          exact hR
    · cases hb
theorem h2_wn2 (d p : Nat) (hp : p < 30) (σ : Hs) (T : Nat → Int32) (h : HR 2 σ T) (hW : WI T) (hi : isT T p) : ∃ σ', ru (d + 1) 17 30 [.ref 2, .int (nI p), .int (nI (p % 6))] [] σ = ru (d + 1) 17 48 [.ref 2, .int (nI p), .int (nI (p % 6))] [] σ' ∧ HR 2 σ' (glS T p 2) ∧ ∀ o, o ≠ 7 → σ' o = σ o := by
  have p31 : p < 2147483648 := by omega
  have pm31 : p % 6 < 2147483648 := by omega
  have p631 : p + 6 < 2147483648 := by omega
  have e6 : nI p + 6 = nI (p + 6) := nI_add p 6
  cases hb : besN p 2 with
  | none =>
    rw [glS_none hb]
    refine ⟨σ, ?_, h, fun _ _ => rfl⟩
    generalize hR : ru (d + 1) 17 48 [.ref 2, .int (nI p), .int (nI (p % 6))] [] σ = R
    simp only [besN, simprocAttr, if_true, if_false, true_and, and_true, false_and, and_false, not_false_eq_true, not_true_eq_false, gd_T, kont_i, kont_v] at hb
    simp only [s17_30, s17_31, s17_33, s17_34, s17_36, s17_39, s17_40, s17_41, s17_42, s17_44, s17_45_o2, s17_45_o59, e6, le_nI_l pm31, le_nI_r pm31, le_nI_r p631, le_nI_r p31, lt_nI_l pm31, lt_nI_r p31, lt_nI_l p31, simprocAttr, if_true, if_false, true_and, and_true, false_and, and_false, not_false_eq_true, not_true_eq_false, gd_T, kont_i, kont_v]
    first
      | rw [if_pos (by split at hb <;> first | omega | cases hb)]
        exact hR
      | rw [if_neg (by split at hb <;> first | omega | cases hb)]
        exact hR
  | some x =>
    rw [glS_some hb]
    have hx := besN_lt hp hb
    have hne := besN_ne hb
    obtain ⟨σ', e', r', f'⟩ := h2_giveWarm d p x hp hx hne σ T h hW hi
    refine ⟨σ', ?_, r', f'⟩
    generalize hR : ru (d + 1) 17 48 [.ref 2, .int (nI p), .int (nI (p % 6))] [] σ' = R
    simp only [besN, simprocAttr, if_true, if_false, true_and, and_true, false_and, and_false, not_false_eq_true, not_true_eq_false, gd_T, kont_i, kont_v] at hb
    have em : 1 ≤ p → nI p - 1 = nI (p - 1) := fun q => by rw [show (1 : Int32) = nI 1 from rfl, pk_sub q]
    have em6 : 6 ≤ p → nI p - 6 = nI (p - 6) := fun q => by rw [show (6 : Int32) = nI 6 from rfl, pk_sub q]
    simp only [s17_30, s17_31, s17_33, s17_34, s17_36, s17_39, s17_40, s17_41, s17_42, s17_44, s17_45_o2, s17_45_o59, e6, le_nI_l pm31, le_nI_r pm31, le_nI_r p631, le_nI_r p31, lt_nI_l pm31, lt_nI_r p31, lt_nI_l p31, simprocAttr, if_true, if_false, true_and, and_true, false_and, and_false, not_false_eq_true, not_true_eq_false, gd_T, kont_i, kont_v]
    split at hb
    · rename_i c
      have hb := Option.some.inj hb
      subst hb
      first
        | rw [if_neg (by omega), em (by omega)]
          simp only [e', kont_v, s17_30, s17_31, s17_33, s17_34, s17_36, s17_39, s17_40, s17_41, s17_42, s17_44, s17_45_o2, s17_45_o59]
          exact hR
        | rw [if_neg (by omega), em6 (by omega)]
          simp only [e', kont_v, s17_30, s17_31, s17_33, s17_34, s17_36, s17_39, s17_40, s17_41, s17_42, s17_44, s17_45_o2, s17_45_o59]
          exact hR
        | rw [if_neg (by omega)]
          simp only [nI_1, e6, e', kont_v, s17_30, s17_31, s17_33, s17_34, s17_36, s17_39, s17_40, s17_41, s17_42, s17_44, s17_45_o2, s17_45_o59]
          exact hR
    · cases hb
theorem h2_wn3 (d p : Nat) (hp : p < 30) (σ : Hs) (T : Nat → Int32) (h : HR 2 σ T) (hW : WI T) (hi : isT T p) : ∃ σ', ru (d + 1) 17 48 [.ref 2, .int (nI p), .int (nI (p % 6))] [] σ = ru (d + 1) 17 63 [.ref 2, .int (nI p), .int (nI (p % 6))] [] σ' ∧ HR 2 σ' (glS T p 3) ∧ ∀ o, o ≠ 7 → σ' o = σ o := by
  have p31 : p < 2147483648 := by omega
  have pm31 : p % 6 < 2147483648 := by omega
  have p631 : p + 6 < 2147483648 := by omega
  have e6 : nI p + 6 = nI (p + 6) := nI_add p 6
  cases hb : besN p 3 with
  | none =>
    rw [glS_none hb]
    refine ⟨σ, ?_, h, fun _ _ => rfl⟩
    generalize hR : ru (d + 1) 17 63 [.ref 2, .int (nI p), .int (nI (p % 6))] [] σ = R
    simp only [besN, simprocAttr, if_true, if_false, true_and, and_true, false_and, and_false, not_false_eq_true, not_true_eq_false, gd_T, kont_i, kont_v] at hb
    simp only [s17_48, s17_49, s17_51, s17_54, s17_55, s17_56, s17_57, s17_59, s17_60_o2, s17_60_o59, e6, le_nI_l pm31, le_nI_r pm31, le_nI_r p631, le_nI_r p31, lt_nI_l pm31, lt_nI_r p31, lt_nI_l p31, simprocAttr, if_true, if_false, true_and, and_true, false_and, and_false, not_false_eq_true, not_true_eq_false, gd_T, kont_i, kont_v]
    first
      | rw [if_pos (by split at hb <;> first | omega | cases hb)]
        exact hR
      | rw [if_neg (by split at hb <;> first | omega | cases hb)]
        exact hR
  | some x =>
    rw [glS_some hb]
    have hx := besN_lt hp hb
    have hne := besN_ne hb
    obtain ⟨σ', e', r', f'⟩ := h2_giveWarm d p x hp hx hne σ T h hW hi
    refine ⟨σ', ?_, r', f'⟩
    generalize hR : ru (d + 1) 17 63 [.ref 2, .int (nI p), .int (nI (p % 6))] [] σ' = R
    simp only [besN, simprocAttr, if_true, if_false, true_and, and_true, false_and, and_false, not_false_eq_true, not_true_eq_false, gd_T, kont_i, kont_v] at hb
    have em : 1 ≤ p → nI p - 1 = nI (p - 1) := fun q => by rw [show (1 : Int32) = nI 1 from rfl, pk_sub q]
    have em6 : 6 ≤ p → nI p - 6 = nI (p - 6) := fun q => by rw [show (6 : Int32) = nI 6 from rfl, pk_sub q]
    simp only [s17_48, s17_49, s17_51, s17_54, s17_55, s17_56, s17_57, s17_59, s17_60_o2, s17_60_o59, e6, le_nI_l pm31, le_nI_r pm31, le_nI_r p631, le_nI_r p31, lt_nI_l pm31, lt_nI_r p31, lt_nI_l p31, simprocAttr, if_true, if_false, true_and, and_true, false_and, and_false, not_false_eq_true, not_true_eq_false, gd_T, kont_i, kont_v]
    split at hb
    · rename_i c
      have hb := Option.some.inj hb
      subst hb
      first
        | rw [if_neg (by omega), em (by omega)]
          simp only [e', kont_v, s17_48, s17_49, s17_51, s17_54, s17_55, s17_56, s17_57, s17_59, s17_60_o2, s17_60_o59]
          exact hR
        | rw [if_neg (by omega), em6 (by omega)]
          simp only [e', kont_v, s17_48, s17_49, s17_51, s17_54, s17_55, s17_56, s17_57, s17_59, s17_60_o2, s17_60_o59]
          exact hR
        | rw [if_neg (by omega)]
          simp only [nI_1, e6, e', kont_v, s17_48, s17_49, s17_51, s17_54, s17_55, s17_56, s17_57, s17_59, s17_60_o2, s17_60_o59]
          exact hR
    · cases hb
theorem h2_warmNeighbours (d p : Nat) (hp : p < 30) (σ : Hs) (T : Nat → Int32) (h : HR 2 σ T) (hW : WI T) (hi : isT T p) : ∃ σ', callD (d + 2) 17 [.ref 2, .int (nI p)] σ = some (none, σ') ∧ HR 2 σ' (glF T p 4) ∧ ∀ o, o ≠ 7 → σ' o = σ o := by
  have p31 : p < 2147483648 := by omega
  obtain ⟨σ1, e1, r1, f1⟩ := h2_wn0 d p hp σ T h hW hi
  have i1 : isT (glF T p 1) p := by rw [glF_is]; exact hi
  have i2 : isT (glF T p 2) p := by rw [glF_is]; exact hi
  have i3 : isT (glF T p 3) p := by rw [glF_is]; exact hi
  obtain ⟨σ2, e2, r2, f2⟩ := h2_wn1 d p hp σ1 (glF T p 1) r1 (hW.gf hp hi 1) i1
  obtain ⟨σ3, e3, r3, f3⟩ := h2_wn2 d p hp σ2 (glF T p 2) r2 (hW.gf hp hi 2) i2
  obtain ⟨σ4, e4, r4, f4⟩ := h2_wn3 d p hp σ3 (glF T p 3) r3 (hW.gf hp hi 3) i3
  refine ⟨σ4, ?_, r4, fun o ho => (f4 o ho).trans ((f3 o ho).trans ((f2 o ho).trans (f1 o ho)))⟩
  simp only [s17_0, s17_1, s17_3, s17_4, c17, z6, rem6 p31, not_false_eq_true, simprocAttr, if_true, if_false, true_and, and_true, false_and, and_false, not_false_eq_true, not_true_eq_false, gd_T, kont_i, kont_v]
  rw [e1, e2, e3, e4]
  simp only [s17_63]
theorem h59_giveWarm (d p x : Nat) (hp : p < 30) (hx : x < 30) (hne : x ≠ p) (σ : Hs) (T : Nat → Int32) (h : HR 59 σ T) (hW : WI T) (hi : isT T p) : ∃ σ', callD (d + 1) 18 [.ref 59, .int (nI p), .int (nI x)] σ = some (none, σ') ∧ HR 59 σ' (gvT T p x) ∧ ∀ o, o ≠ 64 → σ' o = σ o := by
  have p31 : p < 2147483648 := by omega
  have x31 : x < 2147483648 := by omega
  have ex : (σ 61 x ≤ 0) = ¬ isT T x := h.le hW.P hx
  by_cases hj : isT T x
  · obtain ⟨u, k, eu, ek, lu, lk, e⟩ := gvT_on hW hp hx hi hj hne
    have g5 : σ 64 p = nI u := (h.f hp hi 5 (by omega) (by omega)).trans eu
    have k5 : σ 64 x = nI k := (h.f hx hj 5 (by omega) (by omega)).trans ek
    have r1 := h.te hx hj 5 (by omega) (by omega) (nI (min (k + u / 8) 9999))
    have r2 := r1.te hp (by rw [isT_te (by omega) (by omega)]; exact hi) 5 (by omega) (by omega) (nI (u - u / 8))
    rw [← e] at r2
    refine ⟨_, ?_, r2, ?_⟩
    · have e8 : nI u / 8 = nI (u / 8) := pk_div (d := 8) (by omega) (by decide) (by decide)
      have e9 : jmin (nI (k + u / 8)) 9999 = nI (min (k + u / 8) 9999) := jmin_n (b := 9999) (by omega) (by decide)
      have es : nI u - nI (u / 8) = nI (u - u / 8) := pk_sub (by omega)
      have hpx : (p = x) = False := eq_false (fun q => hne q.symm)
      simp only [c18, s18_0, s18_1_o2, s18_1_o59, s18_4, s18_5_o4, s18_5_o61, s18_6, s18_9, s18_10_o2, s18_10_o59, s18_13, s18_14_o7, s18_14_o64, s18_15, s18_17, s18_18, s18_19, s18_20_o2, s18_20_o59, s18_23, s18_24, s18_25_o2, s18_25_o59, s18_28, s18_29_o7, s18_29_o64, s18_30, s18_31, s18_32, s18_35, s18_38_o7, s18_38_o64, s18_39, s18_40_o2, s18_40_o59, s18_43, s18_44, s18_45_o7, s18_45_o64, s18_46, s18_47, s18_48_o7, s18_48_o64, s18_49, vp_nI hp, cl_nI p31, vp_nI hx, cl_nI x31, ex, g5, k5, z8, e8, nI_add, e9, up2_rep, rep_at, upd_at, hpx, es, simprocAttr, if_true, if_false, true_and, and_true, false_and, and_false, not_false_eq_true, not_true_eq_false, gd_T, kont_i, kont_v]
      rw [if_neg (fun q => q hj)]
    · intro o o1
      rw [rep_ne o1, rep_ne o1]
  · refine ⟨σ, ?_, ?_, fun _ _ => rfl⟩
    · simp only [c18, s18_0, s18_1_o2, s18_1_o59, s18_4, s18_5_o4, s18_5_o61, s18_6, s18_9, s18_10_o2, s18_10_o59, s18_13, s18_14_o7, s18_14_o64, s18_15, s18_17, s18_18, s18_19, s18_20_o2, s18_20_o59, s18_23, s18_24, s18_25_o2, s18_25_o59, s18_28, s18_29_o7, s18_29_o64, s18_30, s18_31, s18_32, s18_35, s18_38_o7, s18_38_o64, s18_39, s18_40_o2, s18_40_o59, s18_43, s18_44, s18_45_o7, s18_45_o64, s18_46, s18_47, s18_48_o7, s18_48_o64, s18_49, vp_nI hx, cl_nI x31, ex, simprocAttr, if_true, if_false, true_and, and_true, false_and, and_false, not_false_eq_true, not_true_eq_false, gd_T, kont_i, kont_v]
      rw [if_pos hj]
    · unfold gvT
      rw [if_neg hj]
      exact h
theorem h59_wn0 (d p : Nat) (hp : p < 30) (σ : Hs) (T : Nat → Int32) (h : HR 59 σ T) (hW : WI T) (hi : isT T p) : ∃ σ', ru (d + 1) 17 5 [.ref 59, .int (nI p), .int (nI (p % 6))] [] σ = ru (d + 1) 17 17 [.ref 59, .int (nI p), .int (nI (p % 6))] [] σ' ∧ HR 59 σ' (glS T p 0) ∧ ∀ o, o ≠ 64 → σ' o = σ o := by
  have p31 : p < 2147483648 := by omega
  have pm31 : p % 6 < 2147483648 := by omega
  have p631 : p + 6 < 2147483648 := by omega
  have e6 : nI p + 6 = nI (p + 6) := nI_add p 6
  cases hb : besN p 0 with
  | none =>
    rw [glS_none hb]
    refine ⟨σ, ?_, h, fun _ _ => rfl⟩
    generalize hR : ru (d + 1) 17 17 [.ref 59, .int (nI p), .int (nI (p % 6))] [] σ = R
    simp only [besN, simprocAttr, if_true, if_false, true_and, and_true, false_and, and_false, not_false_eq_true, not_true_eq_false, gd_T, kont_i, kont_v] at hb
    simp only [s17_5, s17_6, s17_9, s17_10, s17_11, s17_12, s17_13, s17_14_o2, s17_14_o59, e6, le_nI_l pm31, le_nI_r pm31, le_nI_r p631, le_nI_r p31, lt_nI_l pm31, lt_nI_r p31, lt_nI_l p31, simprocAttr, if_true, if_false, true_and, and_true, false_and, and_false, not_false_eq_true, not_true_eq_false, gd_T, kont_i, kont_v]
    first
      | rw [if_pos (by split at hb <;> first | omega | cases hb)]
        exact hR
      | rw [if_neg (by split at hb <;> first | omega | cases hb)]
        exact hR
  | some x =>
    rw [glS_some hb]
    have hx := besN_lt hp hb
    have hne := besN_ne hb
    obtain ⟨σ', e', r', f'⟩ := h59_giveWarm d p x hp hx hne σ T h hW hi
    refine ⟨σ', ?_, r', f'⟩
    generalize hR : ru (d + 1) 17 17 [.ref 59, .int (nI p), .int (nI (p % 6))] [] σ' = R
    simp only [besN, simprocAttr, if_true, if_false, true_and, and_true, false_and, and_false, not_false_eq_true, not_true_eq_false, gd_T, kont_i, kont_v] at hb
    have em : 1 ≤ p → nI p - 1 = nI (p - 1) := fun q => by rw [show (1 : Int32) = nI 1 from rfl, pk_sub q]
    have em6 : 6 ≤ p → nI p - 6 = nI (p - 6) := fun q => by rw [show (6 : Int32) = nI 6 from rfl, pk_sub q]
    simp only [s17_5, s17_6, s17_9, s17_10, s17_11, s17_12, s17_13, s17_14_o2, s17_14_o59, e6, le_nI_l pm31, le_nI_r pm31, le_nI_r p631, le_nI_r p31, lt_nI_l pm31, lt_nI_r p31, lt_nI_l p31, simprocAttr, if_true, if_false, true_and, and_true, false_and, and_false, not_false_eq_true, not_true_eq_false, gd_T, kont_i, kont_v]
    split at hb
    · rename_i c
      have hb := Option.some.inj hb
      subst hb
      first
        | rw [if_neg (by omega), em (by omega)]
          simp only [e', kont_v, s17_5, s17_6, s17_9, s17_10, s17_11, s17_12, s17_13, s17_14_o2, s17_14_o59]
          exact hR
        | rw [if_neg (by omega), em6 (by omega)]
          simp only [e', kont_v, s17_5, s17_6, s17_9, s17_10, s17_11, s17_12, s17_13, s17_14_o2, s17_14_o59]
          exact hR
        | rw [if_neg (by omega)]
          simp only [nI_1, e6, e', kont_v, s17_5, s17_6, s17_9, s17_10, s17_11, s17_12, s17_13, s17_14_o2, s17_14_o59]
          exact hR
    · cases hb
theorem h59_wn1 (d p : Nat) (hp : p < 30) (σ : Hs) (T : Nat → Int32) (h : HR 59 σ T) (hW : WI T) (hi : isT T p) : ∃ σ', ru (d + 1) 17 17 [.ref 59, .int (nI p), .int (nI (p % 6))] [] σ = ru (d + 1) 17 30 [.ref 59, .int (nI p), .int (nI (p % 6))] [] σ' ∧ HR 59 σ' (glS T p 1) ∧ ∀ o, o ≠ 64 → σ' o = σ o := by
  have p31 : p < 2147483648 := by omega
  have pm31 : p % 6 < 2147483648 := by omega
  have p631 : p + 6 < 2147483648 := by omega
  have e6 : nI p + 6 = nI (p + 6) := nI_add p 6
  cases hb : besN p 1 with
  | none =>
    rw [glS_none hb]
    refine ⟨σ, ?_, h, fun _ _ => rfl⟩
    generalize hR : ru (d + 1) 17 30 [.ref 59, .int (nI p), .int (nI (p % 6))] [] σ = R
    simp only [besN, simprocAttr, if_true, if_false, true_and, and_true, false_and, and_false, not_false_eq_true, not_true_eq_false, gd_T, kont_i, kont_v] at hb
    simp only [s17_17, s17_18, s17_19, s17_22, s17_23, s17_24, s17_25, s17_26, s17_27_o2, s17_27_o59, e6, le_nI_l pm31, le_nI_r pm31, le_nI_r p631, le_nI_r p31, lt_nI_l pm31, lt_nI_r p31, lt_nI_l p31, simprocAttr, if_true, if_false, true_and, and_true, false_and, and_false, not_false_eq_true, not_true_eq_false, gd_T, kont_i, kont_v]
    first
      | rw [if_pos (by split at hb <;> first | omega | cases hb)]
        exact hR
      | rw [if_neg (by split at hb <;> first | omega | cases hb)]
        exact hR
  | some x =>
    rw [glS_some hb]
    have hx := besN_lt hp hb
    have hne := besN_ne hb
    obtain ⟨σ', e', r', f'⟩ := h59_giveWarm d p x hp hx hne σ T h hW hi
    refine ⟨σ', ?_, r', f'⟩
    generalize hR : ru (d + 1) 17 30 [.ref 59, .int (nI p), .int (nI (p % 6))] [] σ' = R
    simp only [besN, simprocAttr, if_true, if_false, true_and, and_true, false_and, and_false, not_false_eq_true, not_true_eq_false, gd_T, kont_i, kont_v] at hb
    have em : 1 ≤ p → nI p - 1 = nI (p - 1) := fun q => by rw [show (1 : Int32) = nI 1 from rfl, pk_sub q]
    have em6 : 6 ≤ p → nI p - 6 = nI (p - 6) := fun q => by rw [show (6 : Int32) = nI 6 from rfl, pk_sub q]
    simp only [s17_17, s17_18, s17_19, s17_22, s17_23, s17_24, s17_25, s17_26, s17_27_o2, s17_27_o59, e6, le_nI_l pm31, le_nI_r pm31, le_nI_r p631, le_nI_r p31, lt_nI_l pm31, lt_nI_r p31, lt_nI_l p31, simprocAttr, if_true, if_false, true_and, and_true, false_and, and_false, not_false_eq_true, not_true_eq_false, gd_T, kont_i, kont_v]
    split at hb
    · rename_i c
      have hb := Option.some.inj hb
      subst hb
      first
        | rw [if_neg (by omega), em (by omega)]
          simp only [e', kont_v, s17_17, s17_18, s17_19, s17_22, s17_23, s17_24, s17_25, s17_26, s17_27_o2, s17_27_o59]
          exact hR
        | rw [if_neg (by omega), em6 (by omega)]
          simp only [e', kont_v, s17_17, s17_18, s17_19, s17_22, s17_23, s17_24, s17_25, s17_26, s17_27_o2, s17_27_o59]
          exact hR
        | rw [if_neg (by omega)]
          simp only [nI_1, e6, e', kont_v, s17_17, s17_18, s17_19, s17_22, s17_23, s17_24, s17_25, s17_26, s17_27_o2, s17_27_o59]
          exact hR
    · cases hb
theorem h59_wn2 (d p : Nat) (hp : p < 30) (σ : Hs) (T : Nat → Int32) (h : HR 59 σ T) (hW : WI T) (hi : isT T p) : ∃ σ', ru (d + 1) 17 30 [.ref 59, .int (nI p), .int (nI (p % 6))] [] σ = ru (d + 1) 17 48 [.ref 59, .int (nI p), .int (nI (p % 6))] [] σ' ∧ HR 59 σ' (glS T p 2) ∧ ∀ o, o ≠ 64 → σ' o = σ o := by
  have p31 : p < 2147483648 := by omega
  have pm31 : p % 6 < 2147483648 := by omega
  have p631 : p + 6 < 2147483648 := by omega
  have e6 : nI p + 6 = nI (p + 6) := nI_add p 6
  cases hb : besN p 2 with
  | none =>
    rw [glS_none hb]
    refine ⟨σ, ?_, h, fun _ _ => rfl⟩
    generalize hR : ru (d + 1) 17 48 [.ref 59, .int (nI p), .int (nI (p % 6))] [] σ = R
    simp only [besN, simprocAttr, if_true, if_false, true_and, and_true, false_and, and_false, not_false_eq_true, not_true_eq_false, gd_T, kont_i, kont_v] at hb
    simp only [s17_30, s17_31, s17_33, s17_34, s17_36, s17_39, s17_40, s17_41, s17_42, s17_44, s17_45_o2, s17_45_o59, e6, le_nI_l pm31, le_nI_r pm31, le_nI_r p631, le_nI_r p31, lt_nI_l pm31, lt_nI_r p31, lt_nI_l p31, simprocAttr, if_true, if_false, true_and, and_true, false_and, and_false, not_false_eq_true, not_true_eq_false, gd_T, kont_i, kont_v]
    first
      | rw [if_pos (by split at hb <;> first | omega | cases hb)]
        exact hR
      | rw [if_neg (by split at hb <;> first | omega | cases hb)]
        exact hR
  | some x =>
    rw [glS_some hb]
    have hx := besN_lt hp hb
    have hne := besN_ne hb
    obtain ⟨σ', e', r', f'⟩ := h59_giveWarm d p x hp hx hne σ T h hW hi
    refine ⟨σ', ?_, r', f'⟩
    generalize hR : ru (d + 1) 17 48 [.ref 59, .int (nI p), .int (nI (p % 6))] [] σ' = R
    simp only [besN, simprocAttr, if_true, if_false, true_and, and_true, false_and, and_false, not_false_eq_true, not_true_eq_false, gd_T, kont_i, kont_v] at hb
    have em : 1 ≤ p → nI p - 1 = nI (p - 1) := fun q => by rw [show (1 : Int32) = nI 1 from rfl, pk_sub q]
    have em6 : 6 ≤ p → nI p - 6 = nI (p - 6) := fun q => by rw [show (6 : Int32) = nI 6 from rfl, pk_sub q]
    simp only [s17_30, s17_31, s17_33, s17_34, s17_36, s17_39, s17_40, s17_41, s17_42, s17_44, s17_45_o2, s17_45_o59, e6, le_nI_l pm31, le_nI_r pm31, le_nI_r p631, le_nI_r p31, lt_nI_l pm31, lt_nI_r p31, lt_nI_l p31, simprocAttr, if_true, if_false, true_and, and_true, false_and, and_false, not_false_eq_true, not_true_eq_false, gd_T, kont_i, kont_v]
    split at hb
    · rename_i c
      have hb := Option.some.inj hb
      subst hb
      first
        | rw [if_neg (by omega), em (by omega)]
          simp only [e', kont_v, s17_30, s17_31, s17_33, s17_34, s17_36, s17_39, s17_40, s17_41, s17_42, s17_44, s17_45_o2, s17_45_o59]
          exact hR
        | rw [if_neg (by omega), em6 (by omega)]
          simp only [e', kont_v, s17_30, s17_31, s17_33, s17_34, s17_36, s17_39, s17_40, s17_41, s17_42, s17_44, s17_45_o2, s17_45_o59]
          exact hR
        | rw [if_neg (by omega)]
          simp only [nI_1, e6, e', kont_v, s17_30, s17_31, s17_33, s17_34, s17_36, s17_39, s17_40, s17_41, s17_42, s17_44, s17_45_o2, s17_45_o59]
          exact hR
    · cases hb
theorem h59_wn3 (d p : Nat) (hp : p < 30) (σ : Hs) (T : Nat → Int32) (h : HR 59 σ T) (hW : WI T) (hi : isT T p) : ∃ σ', ru (d + 1) 17 48 [.ref 59, .int (nI p), .int (nI (p % 6))] [] σ = ru (d + 1) 17 63 [.ref 59, .int (nI p), .int (nI (p % 6))] [] σ' ∧ HR 59 σ' (glS T p 3) ∧ ∀ o, o ≠ 64 → σ' o = σ o := by
  have p31 : p < 2147483648 := by omega
  have pm31 : p % 6 < 2147483648 := by omega
  have p631 : p + 6 < 2147483648 := by omega
  have e6 : nI p + 6 = nI (p + 6) := nI_add p 6
  cases hb : besN p 3 with
  | none =>
    rw [glS_none hb]
    refine ⟨σ, ?_, h, fun _ _ => rfl⟩
    generalize hR : ru (d + 1) 17 63 [.ref 59, .int (nI p), .int (nI (p % 6))] [] σ = R
    simp only [besN, simprocAttr, if_true, if_false, true_and, and_true, false_and, and_false, not_false_eq_true, not_true_eq_false, gd_T, kont_i, kont_v] at hb
    simp only [s17_48, s17_49, s17_51, s17_54, s17_55, s17_56, s17_57, s17_59, s17_60_o2, s17_60_o59, e6, le_nI_l pm31, le_nI_r pm31, le_nI_r p631, le_nI_r p31, lt_nI_l pm31, lt_nI_r p31, lt_nI_l p31, simprocAttr, if_true, if_false, true_and, and_true, false_and, and_false, not_false_eq_true, not_true_eq_false, gd_T, kont_i, kont_v]
    first
      | rw [if_pos (by split at hb <;> first | omega | cases hb)]
        exact hR
      | rw [if_neg (by split at hb <;> first | omega | cases hb)]
        exact hR
  | some x =>
    rw [glS_some hb]
    have hx := besN_lt hp hb
    have hne := besN_ne hb
    obtain ⟨σ', e', r', f'⟩ := h59_giveWarm d p x hp hx hne σ T h hW hi
    refine ⟨σ', ?_, r', f'⟩
    generalize hR : ru (d + 1) 17 63 [.ref 59, .int (nI p), .int (nI (p % 6))] [] σ' = R
    simp only [besN, simprocAttr, if_true, if_false, true_and, and_true, false_and, and_false, not_false_eq_true, not_true_eq_false, gd_T, kont_i, kont_v] at hb
    have em : 1 ≤ p → nI p - 1 = nI (p - 1) := fun q => by rw [show (1 : Int32) = nI 1 from rfl, pk_sub q]
    have em6 : 6 ≤ p → nI p - 6 = nI (p - 6) := fun q => by rw [show (6 : Int32) = nI 6 from rfl, pk_sub q]
    simp only [s17_48, s17_49, s17_51, s17_54, s17_55, s17_56, s17_57, s17_59, s17_60_o2, s17_60_o59, e6, le_nI_l pm31, le_nI_r pm31, le_nI_r p631, le_nI_r p31, lt_nI_l pm31, lt_nI_r p31, lt_nI_l p31, simprocAttr, if_true, if_false, true_and, and_true, false_and, and_false, not_false_eq_true, not_true_eq_false, gd_T, kont_i, kont_v]
    split at hb
    · rename_i c
      have hb := Option.some.inj hb
      subst hb
      first
        | rw [if_neg (by omega), em (by omega)]
          simp only [e', kont_v, s17_48, s17_49, s17_51, s17_54, s17_55, s17_56, s17_57, s17_59, s17_60_o2, s17_60_o59]
          exact hR
        | rw [if_neg (by omega), em6 (by omega)]
          simp only [e', kont_v, s17_48, s17_49, s17_51, s17_54, s17_55, s17_56, s17_57, s17_59, s17_60_o2, s17_60_o59]
          exact hR
        | rw [if_neg (by omega)]
          simp only [nI_1, e6, e', kont_v, s17_48, s17_49, s17_51, s17_54, s17_55, s17_56, s17_57, s17_59, s17_60_o2, s17_60_o59]
          exact hR
    · cases hb
theorem h59_warmNeighbours (d p : Nat) (hp : p < 30) (σ : Hs) (T : Nat → Int32) (h : HR 59 σ T) (hW : WI T) (hi : isT T p) : ∃ σ', callD (d + 2) 17 [.ref 59, .int (nI p)] σ = some (none, σ') ∧ HR 59 σ' (glF T p 4) ∧ ∀ o, o ≠ 64 → σ' o = σ o := by
  have p31 : p < 2147483648 := by omega
  obtain ⟨σ1, e1, r1, f1⟩ := h59_wn0 d p hp σ T h hW hi
  have i1 : isT (glF T p 1) p := by rw [glF_is]; exact hi
  have i2 : isT (glF T p 2) p := by rw [glF_is]; exact hi
  have i3 : isT (glF T p 3) p := by rw [glF_is]; exact hi
  obtain ⟨σ2, e2, r2, f2⟩ := h59_wn1 d p hp σ1 (glF T p 1) r1 (hW.gf hp hi 1) i1
  obtain ⟨σ3, e3, r3, f3⟩ := h59_wn2 d p hp σ2 (glF T p 2) r2 (hW.gf hp hi 2) i2
  obtain ⟨σ4, e4, r4, f4⟩ := h59_wn3 d p hp σ3 (glF T p 3) r3 (hW.gf hp hi 3) i3
  refine ⟨σ4, ?_, r4, fun o ho => (f4 o ho).trans ((f3 o ho).trans ((f2 o ho).trans (f1 o ho)))⟩
  simp only [s17_0, s17_1, s17_3, s17_4, c17, z6, rem6 p31, not_false_eq_true, simprocAttr, if_true, if_false, true_and, and_true, false_and, and_false, not_false_eq_true, not_true_eq_false, gd_T, kont_i, kont_v]
  rw [e1, e2, e3, e4]
  simp only [s17_63]
