/-! ===== the class: drying, catching, cooling ===== -/
theorem waT_s {T : Nat → Int32} {p w k : Nat} (e : ofT T p 5 = nI w) (lw : w < 10000) (lk : k < 1073741824) : waT T p (-(nI k)) = teT T p 5 (nI (w - k)) := wa_n (by rw [e, ← Int32.sub_eq_add_neg]; exact hel_s lw lk)
theorem ofT_tn {T : Nat → Int32} {p f g : Nat} {v : Int32} (h : f ≠ g) (hf : f < 7) (hg : g < 7) : ofT (teT T p f v) p g = ofT T p g := by
  rw [ofT_te hf hg, if_neg (fun c => h c.2.symm)]
theorem ofT_ts {T : Nat → Int32} {p f : Nat} {v : Int32} (hf : f < 7) : ofT (teT T p f v) p f = v := by
  rw [ofT_te hf hf, if_pos ⟨rfl, rfl⟩]
theorem coT_y {T : Nat → Int32} (hW : WI T) {p w t k : Nat} (hp : p < 30) (hi : isT T p) (ew : ofT T p 5 = nI w) (et : ofT T p 3 = nI t) (ek : ofT T p 1 = nI k) (lw : w < 10000) (lt : t < 1000) (lk : k < 7) {T1 T2 : Nat → Int32} (hT1 : teT T p 3 (nI (t - w / 20)) = T1) (hT2 : T2 = if T 7 < nI (t - w / 20) then T1 else if nI w < catF k then T1 else teT T1 p 6 1) :
    coT T p = if nI (w - (w / 10 + 1)) < 5 then teT (teT T2 p 5 (nI (w - (w / 10 + 1)))) p 6 0 else if nI (t - w / 20) ≤ 700 then teT T2 p 5 (nI (w - (w / 10 + 1))) else teT (teT T2 p 5 (nI (w - (w / 10 + 1)))) p 6 0 := by
  have e20 : nI w / 20 = nI (w / 20) := pk_div (d := 20) (by omega) (by decide) (by decide)
  have e10 : nI w / 10 = nI (w / 10) := pk_div (d := 10) (by omega) (by decide) (by decide)
  have e0 : jmax 0 (nI t - nI w / 20) = nI (t - w / 20) := by rw [e20, jmax_c]; exact jmax_0 (by omega) (by omega)
  unfold coT
  simp only []
  rw [ew, et, e0, e10, nI_1, hT1]
  have f1 : ofT T1 p 1 = nI k := by rw [← hT1, ofT_tn (by omega) (by omega) (by omega)]; exact ek
  have f3 : ofT T1 p 3 = nI (t - w / 20) := by rw [← hT1, ofT_ts (by omega)]
  have f5 : ofT T1 p 5 = nI w := by rw [← hT1, ofT_tn (by omega) (by omega) (by omega)]; exact ew
  have f6 : ofT T1 p 6 = ofT T p 6 := by rw [← hT1, ofT_tn (by omega) (by omega) (by omega)]
  have f7 : T1 7 = T 7 := by rw [← hT1, teT_lo (by omega)]
  rw [f1, cl_nI (by omega), f3, f7]
  have g2 : (if litT T1 p then T1 else if T 7 < nI (t - w / 20) then T1 else if nI w < catF k then T1 else teT T1 p 6 1) = T2 := by
    rw [hT2]
    by_cases hl : litT T1 p
    · rw [if_pos hl]
      split
      · rfl
      · split
        · rfl
        · exact (teT_same hl).symm
    · rw [if_neg hl]
  rw [g2]
  have w5 : ofT T2 p 5 = nI w := by
    rw [hT2]
    split
    · exact f5
    · split
      · exact f5
      · rw [ofT_tn (by omega) (by omega) (by omega)]; exact f5
  have w3 : ofT T2 p 3 = nI (t - w / 20) := by
    rw [hT2]
    split
    · exact f3
    · split
      · exact f3
      · rw [ofT_tn (by omega) (by omega) (by omega)]; exact f3
  have w6 : ofT T2 p 6 = 0 ∨ ofT T2 p 6 = 1 := by
    have hb := hW.B p hp hi
    rw [← f6] at hb
    rw [hT2]
    split
    · exact hb
    · split
      · exact hb
      · rw [ofT_ts (by omega)]; exact Or.inr rfl
  rw [waT_s w5 lw (by omega)]
  have k5 : ofT (teT T2 p 5 (nI (w - (w / 10 + 1)))) p 5 = nI (w - (w / 10 + 1)) := ofT_ts (by omega)
  have k3 : ofT (teT T2 p 5 (nI (w - (w / 10 + 1)))) p 3 = nI (t - w / 20) := by rw [ofT_tn (by omega) (by omega) (by omega)]; exact w3
  have k6 : ofT (teT T2 p 5 (nI (w - (w / 10 + 1)))) p 6 = ofT T2 p 6 := ofT_tn (by omega) (by omega) (by omega)
  rw [k5, k3]
  by_cases hl : litT (teT T2 p 5 (nI (w - (w / 10 + 1)))) p
  · rw [if_pos hl]
  · rw [if_neg hl]
    have h0 : ofT (teT T2 p 5 (nI (w - (w / 10 + 1)))) p 6 = 0 := by
      rw [k6]
      exact w6.resolve_right (fun c => hl (k6.trans c))
    rw [teT_same h0]
    split
    · rfl
    · split <;> rfl
theorem coT_is {T : Nat → Int32} {p q : Nat} : isT (coT T p) q = isT T q :=
  coT_cases T p (fun X => isT X q = isT T q) (fun _ _ _ h2 h7 h => (isT_te (by omega) (by omega)).trans h) rfl
theorem cat_n {k : Nat} (h : k < 7) : (([60, 30, 120, 6, 120, 90, 10000] : List Int32).getD k 0) = catF k := rfl
theorem FR_n {f n : Nat} (h1 : loF f ≤ n) (h2 : n < hiG f) : FR f (nI n) := ⟨n, rfl, h1, h2⟩
theorem WI.co {T : Nat → Int32} (hW : WI T) {p : Nat} (hp : p < 30) (hi : isT T p) : WI (coT T p) := by
  obtain ⟨w, ew, lw⟩ := hW.n hp hi 5 (by omega) (by omega)
  obtain ⟨t, et, lt⟩ := hW.n hp hi 3 (by omega) (by omega)
  obtain ⟨k, ek, lk⟩ := hW.n hp hi 1 (by omega) (by omega)
  have lw : w < 10000 := lw
  have lt : t < 1000 := lt
  have lk : k < 7 := lk
  rw [coT_y hW hp hi ew et ek lw lt lk rfl rfl]
  have w1 : WI (teT T p 3 (nI (t - w / 20))) := hW.te (by omega) (by omega) (FR_n (Nat.zero_le _) (show _ < 1000 by omega))
  have w2 : WI (if T 7 < nI (t - w / 20) then teT T p 3 (nI (t - w / 20)) else if nI w < catF k then teT T p 3 (nI (t - w / 20)) else teT (teT T p 3 (nI (t - w / 20))) p 6 1) := by
    split
    · exact w1
    · split
      · exact w1
      · exact w1.te (by omega) (by omega) (FR_n (n := 1) (Nat.zero_le _) (show 1 < 2 by omega))
  have w3 := w2.te (p := p) (f := 5) (v := nI (w - (w / 10 + 1))) (by omega) (by omega) (FR_n (Nat.zero_le _) (show _ < 10000 by omega))
  have w4 := w3.te (p := p) (f := 6) (v := 0) (by omega) (by omega) (FR_n (n := 0) (Nat.zero_le _) (show 0 < 2 by omega))
  split
  · exact w4
  · split
    · exact w3
    · exact w4
theorem h2_dryAndCool (d p : Nat) (hp : p < 30) (σ : Hs) (T : Nat → Int32) (h : HR 2 σ T) (hW : WI T) (hi : isT T p) : ∃ σ', callD (d + 1) 19 [.ref 2, .int (nI p)] σ = some (none, σ') ∧ HR 2 σ' (coT T p) ∧ ∀ o, o ≠ 5 → o ≠ 7 → o ≠ 8 → σ' o = σ o := by
  have p31 : p < 2147483648 := by omega
  obtain ⟨w, ew, lw⟩ := hW.n hp hi 5 (by omega) (by omega)
  obtain ⟨t, et, lt⟩ := hW.n hp hi 3 (by omega) (by omega)
  obtain ⟨k, ek, lk⟩ := hW.n hp hi 1 (by omega) (by omega)
  have lw : w < 10000 := lw
  have lt : t < 1000 := lt
  have lk : k < 7 := lk
  have k31 : k < 2147483648 := by omega
  have g5 : σ 7 p = nI w := (h.f hp hi 5 (by omega) (by omega)).trans ew
  have g3 : σ 5 p = nI t := (h.f hp hi 3 (by omega) (by omega)).trans et
  have g1 : σ 3 p = nI k := (h.f hp hi 1 (by omega) (by omega)).trans ek
  have s3 : σ 9 3 = T 7 := h.2.2.1 3 (by omega)
  have e20 : nI w / 20 = nI (w / 20) := pk_div (d := 20) (by omega) (by decide) (by decide)
  have e10 : nI w / 10 = nI (w / 10) := pk_div (d := 10) (by omega) (by decide) (by decide)
  have e0 : jmax (nI t - nI (w / 20)) 0 = nI (t - w / 20) := jmax_0 (by omega) (by omega)
  have e1 : jmax (nI w - nI (w / 10) - 1) 0 = nI (w - (w / 10 + 1)) := by
    rw [show nI w - nI (w / 10) - 1 = nI w - nI (w / 10 + 1) by rw [← nI_1]; exact (Int32.sub_sub (nI w) (nI (w / 10)) 1)]
    exact jmax_0 (by omega) (by omega)
  generalize hT1 : teT T p 3 (nI (t - w / 20)) = T1
  generalize hT2 : (if T 7 < nI (t - w / 20) then T1 else if nI w < catF k then T1 else teT T1 p 6 1) = T2
  rw [coT_y hW hp hi ew et ek lw lt lk hT1 hT2.symm]
  have r1 : HR 2 _ T1 := hT1 ▸ h.te hp hi 3 (by omega) (by omega) (nI (t - w / 20))
  have i1 : isT T1 p := by rw [← hT1, isT_te (by omega) (by omega)]; exact hi
  have i2 : isT T2 p := by
    rw [← hT2]
    split
    · exact i1
    · split
      · exact i1
      · rw [isT_te (by omega) (by omega)]; exact i1
  have s1 : ∃ σ1, callD (d + 1) 19 [.ref 2, .int (nI p)] σ = ru d 19 61 [.ref 2, .int (nI p), .int (nI w), .int (nI (t - w / 20))] [] σ1 ∧ HR 2 σ1 T2 ∧ ∀ o, o ≠ 5 → o ≠ 7 → o ≠ 8 → σ1 o = σ o := by
    rw [← hT2]
    by_cases c2 : T 7 < nI (t - w / 20)
    · rw [if_pos c2]
      refine ⟨_, ?_, r1, fun o o1 o2 o3 => rep_ne o1⟩
      simp only [c19, s19_0, s19_1_o2, s19_1_o59, s19_4, s19_5_o7, s19_5_o64, s19_6, s19_7, s19_8_o2, s19_8_o59, s19_11, s19_12_o5, s19_12_o62, s19_13, s19_14, s19_16, s19_17, s19_18, s19_19, s19_22, s19_23, s19_24_o2, s19_24_o59, s19_27, s19_28, s19_29_o5, s19_29_o62, s19_30, s19_31, s19_32_o2, s19_32_o59, s19_35, s19_36_o9, s19_36_o66, s19_37, s19_40, s19_41, s19_44, s19_45_o2, s19_45_o59, s19_48, s19_49_o3, s19_49_o60, s19_50_o106, s19_51, s19_54, s19_55_o2, s19_55_o59, s19_58, s19_59, s19_60_o8, s19_60_o65, vp_lit, vp_nI hp, cl_nI p31, up2_rep, rep_at, g5, g3, s3, z20, e20, e0, c2, simprocAttr, if_true, if_false, true_and, and_true, false_and, and_false, not_false_eq_true, not_true_eq_false, gd_T, kont_i, kont_v]
    · rw [if_neg c2]
      by_cases c3 : nI w < catF k
      · rw [if_pos c3]
        refine ⟨_, ?_, r1, fun o o1 o2 o3 => rep_ne o1⟩
        simp only [c19, s19_0, s19_1_o2, s19_1_o59, s19_4, s19_5_o7, s19_5_o64, s19_6, s19_7, s19_8_o2, s19_8_o59, s19_11, s19_12_o5, s19_12_o62, s19_13, s19_14, s19_16, s19_17, s19_18, s19_19, s19_22, s19_23, s19_24_o2, s19_24_o59, s19_27, s19_28, s19_29_o5, s19_29_o62, s19_30, s19_31, s19_32_o2, s19_32_o59, s19_35, s19_36_o9, s19_36_o66, s19_37, s19_40, s19_41, s19_44, s19_45_o2, s19_45_o59, s19_48, s19_49_o3, s19_49_o60, s19_50_o106, s19_51, s19_54, s19_55_o2, s19_55_o59, s19_58, s19_59, s19_60_o8, s19_60_o65, vp_lit, vp_nI hp, cl_nI p31, vp_nI lk, cl_nI k31, cat_n lk, up2_rep, rep_at, g1, g5, g3, s3, z20, e20, e0, c2, c3, simprocAttr, if_true, if_false, true_and, and_true, false_and, and_false, not_false_eq_true, not_true_eq_false, gd_T, kont_i, kont_v]
      · rw [if_neg c3]
        refine ⟨_, ?_, r1.te hp i1 6 (by omega) (by omega) 1, fun o o1 o2 o3 => (rep_ne o3).trans (rep_ne o1)⟩
        simp only [c19, s19_0, s19_1_o2, s19_1_o59, s19_4, s19_5_o7, s19_5_o64, s19_6, s19_7, s19_8_o2, s19_8_o59, s19_11, s19_12_o5, s19_12_o62, s19_13, s19_14, s19_16, s19_17, s19_18, s19_19, s19_22, s19_23, s19_24_o2, s19_24_o59, s19_27, s19_28, s19_29_o5, s19_29_o62, s19_30, s19_31, s19_32_o2, s19_32_o59, s19_35, s19_36_o9, s19_36_o66, s19_37, s19_40, s19_41, s19_44, s19_45_o2, s19_45_o59, s19_48, s19_49_o3, s19_49_o60, s19_50_o106, s19_51, s19_54, s19_55_o2, s19_55_o59, s19_58, s19_59, s19_60_o8, s19_60_o65, vp_lit, vp_nI hp, cl_nI p31, vp_nI lk, cl_nI k31, cat_n lk, up2_rep, rep_at, g1, g5, g3, s3, z20, e20, e0, c2, c3, nar1, simprocAttr, if_true, if_false, true_and, and_true, false_and, and_false, not_false_eq_true, not_true_eq_false, gd_T, kont_i, kont_v]
  obtain ⟨σ1, e, r2, f2⟩ := s1
  rw [e]
  have r3 := r2.te hp i2 5 (by omega) (by omega) (nI (w - (w / 10 + 1)))
  have r4 := r3.te hp (by rw [isT_te (by omega) (by omega)]; exact i2) 6 (by omega) (by omega) 0
  by_cases c4 : nI (w - (w / 10 + 1)) < 5
  · rw [if_pos c4]
    refine ⟨_, ?_, r4, fun o o1 o2 o3 => (rep_ne o3).trans ((rep_ne o2).trans (f2 o o1 o2 o3))⟩
    simp only [s19_61, s19_62, s19_63, s19_65, s19_66, s19_67, s19_68, s19_69, s19_70, s19_73, s19_74, s19_75_o2, s19_75_o59, s19_78, s19_79, s19_80_o7, s19_80_o64, s19_81, s19_82, s19_83, s19_86, s19_87, s19_90, s19_93, s19_94_o2, s19_94_o59, s19_97, s19_98, s19_99_o8, s19_99_o65, s19_100, vp_nI hp, cl_nI p31, up2_rep, rep_at, z10, e10, e1, c4, nar0, simprocAttr, if_true, if_false, true_and, and_true, false_and, and_false, not_false_eq_true, not_true_eq_false, gd_T, kont_i, kont_v]
  · rw [if_neg c4]
    by_cases c5 : nI (t - w / 20) ≤ 700
    · rw [if_pos c5]
      refine ⟨_, ?_, r3, fun o o1 o2 o3 => (rep_ne o2).trans (f2 o o1 o2 o3)⟩
      simp only [s19_61, s19_62, s19_63, s19_65, s19_66, s19_67, s19_68, s19_69, s19_70, s19_73, s19_74, s19_75_o2, s19_75_o59, s19_78, s19_79, s19_80_o7, s19_80_o64, s19_81, s19_82, s19_83, s19_86, s19_87, s19_90, s19_93, s19_94_o2, s19_94_o59, s19_97, s19_98, s19_99_o8, s19_99_o65, s19_100, vp_nI hp, cl_nI p31, up2_rep, rep_at, z10, e10, e1, c4, c5, simprocAttr, if_true, if_false, true_and, and_true, false_and, and_false, not_false_eq_true, not_true_eq_false, gd_T, kont_i, kont_v]
    · rw [if_neg c5]
      refine ⟨_, ?_, r4, fun o o1 o2 o3 => (rep_ne o3).trans ((rep_ne o2).trans (f2 o o1 o2 o3))⟩
      simp only [s19_61, s19_62, s19_63, s19_65, s19_66, s19_67, s19_68, s19_69, s19_70, s19_73, s19_74, s19_75_o2, s19_75_o59, s19_78, s19_79, s19_80_o7, s19_80_o64, s19_81, s19_82, s19_83, s19_86, s19_87, s19_90, s19_93, s19_94_o2, s19_94_o59, s19_97, s19_98, s19_99_o8, s19_99_o65, s19_100, vp_nI hp, cl_nI p31, up2_rep, rep_at, z10, e10, e1, c4, c5, nar0, simprocAttr, if_true, if_false, true_and, and_true, false_and, and_false, not_false_eq_true, not_true_eq_false, gd_T, kont_i, kont_v]
theorem h59_dryAndCool (d p : Nat) (hp : p < 30) (σ : Hs) (T : Nat → Int32) (h : HR 59 σ T) (hW : WI T) (hi : isT T p) : ∃ σ', callD (d + 1) 19 [.ref 59, .int (nI p)] σ = some (none, σ') ∧ HR 59 σ' (coT T p) ∧ ∀ o, o ≠ 62 → o ≠ 64 → o ≠ 65 → σ' o = σ o := by
  have p31 : p < 2147483648 := by omega
  obtain ⟨w, ew, lw⟩ := hW.n hp hi 5 (by omega) (by omega)
  obtain ⟨t, et, lt⟩ := hW.n hp hi 3 (by omega) (by omega)
  obtain ⟨k, ek, lk⟩ := hW.n hp hi 1 (by omega) (by omega)
  have lw : w < 10000 := lw
  have lt : t < 1000 := lt
  have lk : k < 7 := lk
  have k31 : k < 2147483648 := by omega
  have g5 : σ 64 p = nI w := (h.f hp hi 5 (by omega) (by omega)).trans ew
  have g3 : σ 62 p = nI t := (h.f hp hi 3 (by omega) (by omega)).trans et
  have g1 : σ 60 p = nI k := (h.f hp hi 1 (by omega) (by omega)).trans ek
  have s3 : σ 66 3 = T 7 := h.2.2.1 3 (by omega)
  have e20 : nI w / 20 = nI (w / 20) := pk_div (d := 20) (by omega) (by decide) (by decide)
  have e10 : nI w / 10 = nI (w / 10) := pk_div (d := 10) (by omega) (by decide) (by decide)
  have e0 : jmax (nI t - nI (w / 20)) 0 = nI (t - w / 20) := jmax_0 (by omega) (by omega)
  have e1 : jmax (nI w - nI (w / 10) - 1) 0 = nI (w - (w / 10 + 1)) := by
    rw [show nI w - nI (w / 10) - 1 = nI w - nI (w / 10 + 1) by rw [← nI_1]; exact (Int32.sub_sub (nI w) (nI (w / 10)) 1)]
    exact jmax_0 (by omega) (by omega)
  generalize hT1 : teT T p 3 (nI (t - w / 20)) = T1
  generalize hT2 : (if T 7 < nI (t - w / 20) then T1 else if nI w < catF k then T1 else teT T1 p 6 1) = T2
  rw [coT_y hW hp hi ew et ek lw lt lk hT1 hT2.symm]
  have r1 : HR 59 _ T1 := hT1 ▸ h.te hp hi 3 (by omega) (by omega) (nI (t - w / 20))
  have i1 : isT T1 p := by rw [← hT1, isT_te (by omega) (by omega)]; exact hi
  have i2 : isT T2 p := by
    rw [← hT2]
    split
    · exact i1
    · split
      · exact i1
      · rw [isT_te (by omega) (by omega)]; exact i1
  have s1 : ∃ σ1, callD (d + 1) 19 [.ref 59, .int (nI p)] σ = ru d 19 61 [.ref 59, .int (nI p), .int (nI w), .int (nI (t - w / 20))] [] σ1 ∧ HR 59 σ1 T2 ∧ ∀ o, o ≠ 62 → o ≠ 64 → o ≠ 65 → σ1 o = σ o := by
    rw [← hT2]
    by_cases c2 : T 7 < nI (t - w / 20)
    · rw [if_pos c2]
      refine ⟨_, ?_, r1, fun o o1 o2 o3 => rep_ne o1⟩
      simp only [c19, s19_0, s19_1_o2, s19_1_o59, s19_4, s19_5_o7, s19_5_o64, s19_6, s19_7, s19_8_o2, s19_8_o59, s19_11, s19_12_o5, s19_12_o62, s19_13, s19_14, s19_16, s19_17, s19_18, s19_19, s19_22, s19_23, s19_24_o2, s19_24_o59, s19_27, s19_28, s19_29_o5, s19_29_o62, s19_30, s19_31, s19_32_o2, s19_32_o59, s19_35, s19_36_o9, s19_36_o66, s19_37, s19_40, s19_41, s19_44, s19_45_o2, s19_45_o59, s19_48, s19_49_o3, s19_49_o60, s19_50_o106, s19_51, s19_54, s19_55_o2, s19_55_o59, s19_58, s19_59, s19_60_o8, s19_60_o65, vp_lit, vp_nI hp, cl_nI p31, up2_rep, rep_at, g5, g3, s3, z20, e20, e0, c2, simprocAttr, if_true, if_false, true_and, and_true, false_and, and_false, not_false_eq_true, not_true_eq_false, gd_T, kont_i, kont_v]
    · rw [if_neg c2]
      by_cases c3 : nI w < catF k
      · rw [if_pos c3]
        refine ⟨_, ?_, r1, fun o o1 o2 o3 => rep_ne o1⟩
        simp only [c19, s19_0, s19_1_o2, s19_1_o59, s19_4, s19_5_o7, s19_5_o64, s19_6, s19_7, s19_8_o2, s19_8_o59, s19_11, s19_12_o5, s19_12_o62, s19_13, s19_14, s19_16, s19_17, s19_18, s19_19, s19_22, s19_23, s19_24_o2, s19_24_o59, s19_27, s19_28, s19_29_o5, s19_29_o62, s19_30, s19_31, s19_32_o2, s19_32_o59, s19_35, s19_36_o9, s19_36_o66, s19_37, s19_40, s19_41, s19_44, s19_45_o2, s19_45_o59, s19_48, s19_49_o3, s19_49_o60, s19_50_o106, s19_51, s19_54, s19_55_o2, s19_55_o59, s19_58, s19_59, s19_60_o8, s19_60_o65, vp_lit, vp_nI hp, cl_nI p31, vp_nI lk, cl_nI k31, cat_n lk, up2_rep, rep_at, g1, g5, g3, s3, z20, e20, e0, c2, c3, simprocAttr, if_true, if_false, true_and, and_true, false_and, and_false, not_false_eq_true, not_true_eq_false, gd_T, kont_i, kont_v]
      · rw [if_neg c3]
        refine ⟨_, ?_, r1.te hp i1 6 (by omega) (by omega) 1, fun o o1 o2 o3 => (rep_ne o3).trans (rep_ne o1)⟩
        simp only [c19, s19_0, s19_1_o2, s19_1_o59, s19_4, s19_5_o7, s19_5_o64, s19_6, s19_7, s19_8_o2, s19_8_o59, s19_11, s19_12_o5, s19_12_o62, s19_13, s19_14, s19_16, s19_17, s19_18, s19_19, s19_22, s19_23, s19_24_o2, s19_24_o59, s19_27, s19_28, s19_29_o5, s19_29_o62, s19_30, s19_31, s19_32_o2, s19_32_o59, s19_35, s19_36_o9, s19_36_o66, s19_37, s19_40, s19_41, s19_44, s19_45_o2, s19_45_o59, s19_48, s19_49_o3, s19_49_o60, s19_50_o106, s19_51, s19_54, s19_55_o2, s19_55_o59, s19_58, s19_59, s19_60_o8, s19_60_o65, vp_lit, vp_nI hp, cl_nI p31, vp_nI lk, cl_nI k31, cat_n lk, up2_rep, rep_at, g1, g5, g3, s3, z20, e20, e0, c2, c3, nar1, simprocAttr, if_true, if_false, true_and, and_true, false_and, and_false, not_false_eq_true, not_true_eq_false, gd_T, kont_i, kont_v]
  obtain ⟨σ1, e, r2, f2⟩ := s1
  rw [e]
  have r3 := r2.te hp i2 5 (by omega) (by omega) (nI (w - (w / 10 + 1)))
  have r4 := r3.te hp (by rw [isT_te (by omega) (by omega)]; exact i2) 6 (by omega) (by omega) 0
  by_cases c4 : nI (w - (w / 10 + 1)) < 5
  · rw [if_pos c4]
    refine ⟨_, ?_, r4, fun o o1 o2 o3 => (rep_ne o3).trans ((rep_ne o2).trans (f2 o o1 o2 o3))⟩
    simp only [s19_61, s19_62, s19_63, s19_65, s19_66, s19_67, s19_68, s19_69, s19_70, s19_73, s19_74, s19_75_o2, s19_75_o59, s19_78, s19_79, s19_80_o7, s19_80_o64, s19_81, s19_82, s19_83, s19_86, s19_87, s19_90, s19_93, s19_94_o2, s19_94_o59, s19_97, s19_98, s19_99_o8, s19_99_o65, s19_100, vp_nI hp, cl_nI p31, up2_rep, rep_at, z10, e10, e1, c4, nar0, simprocAttr, if_true, if_false, true_and, and_true, false_and, and_false, not_false_eq_true, not_true_eq_false, gd_T, kont_i, kont_v]
  · rw [if_neg c4]
    by_cases c5 : nI (t - w / 20) ≤ 700
    · rw [if_pos c5]
      refine ⟨_, ?_, r3, fun o o1 o2 o3 => (rep_ne o2).trans (f2 o o1 o2 o3)⟩
      simp only [s19_61, s19_62, s19_63, s19_65, s19_66, s19_67, s19_68, s19_69, s19_70, s19_73, s19_74, s19_75_o2, s19_75_o59, s19_78, s19_79, s19_80_o7, s19_80_o64, s19_81, s19_82, s19_83, s19_86, s19_87, s19_90, s19_93, s19_94_o2, s19_94_o59, s19_97, s19_98, s19_99_o8, s19_99_o65, s19_100, vp_nI hp, cl_nI p31, up2_rep, rep_at, z10, e10, e1, c4, c5, simprocAttr, if_true, if_false, true_and, and_true, false_and, and_false, not_false_eq_true, not_true_eq_false, gd_T, kont_i, kont_v]
    · rw [if_neg c5]
      refine ⟨_, ?_, r4, fun o o1 o2 o3 => (rep_ne o3).trans ((rep_ne o2).trans (f2 o o1 o2 o3))⟩
      simp only [s19_61, s19_62, s19_63, s19_65, s19_66, s19_67, s19_68, s19_69, s19_70, s19_73, s19_74, s19_75_o2, s19_75_o59, s19_78, s19_79, s19_80_o7, s19_80_o64, s19_81, s19_82, s19_83, s19_86, s19_87, s19_90, s19_93, s19_94_o2, s19_94_o59, s19_97, s19_98, s19_99_o8, s19_99_o65, s19_100, vp_nI hp, cl_nI p31, up2_rep, rep_at, z10, e10, e1, c4, c5, nar0, simprocAttr, if_true, if_false, true_and, and_true, false_and, and_false, not_false_eq_true, not_true_eq_false, gd_T, kont_i, kont_v]
