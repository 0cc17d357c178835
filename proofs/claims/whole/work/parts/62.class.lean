/-! ===== the class: minutes pass; a heap is copied; small methods of the heap ===== -/
theorem h2_pass_l (d n : Nat) (hn : n < 2147483648) : ∀ m k (l4 : Value) σ (T : Nat → Int32), k + m = n → PI 2 σ T → ∃ σ', ru (d + 5) 13 2 [.ref 2, .int (nI n), .ref 13, .int (nI k), l4] [] σ = some (none, σ') ∧ PI 2 σ' (itT m T) ∧ ∀ o, (o < 2 ∨ 12 < o) → o ≠ 15 → σ' o = σ o := by
  intro m
  induction m with
  | zero =>
    intro k l4 σ T hk hP
    obtain rfl : k = n := by omega
    refine ⟨σ, ?_, hP, fun _ _ _ => rfl⟩
    simp only [s13_2]
    simp only [s13_3, s13_4, s13_71, Int32.le_refl, simprocAttr, if_true, if_false, true_and, and_true, false_and, and_false, not_false_eq_true, not_true_eq_false, gd_T, kont_i, kont_v]
  | succ m ih =>
    intro k l4 σ T hk hP
    obtain ⟨σ1, l4', e1, r1, f1⟩ := h2_minute d n k hn (by omega) l4 σ T hP
    obtain ⟨σ2, e2, r2, f2⟩ := ih (k + 1) l4' σ1 (minT T) (by omega) r1
    exact ⟨σ2, e1.trans e2, r2, fun o o1 o2 => (f2 o o1 o2).trans (f1 o o1 o2)⟩
theorem h2_pass (d n : Nat) (hn : n < 2147483648) (σ : Hs) (T : Nat → Int32) (hP : PI 2 σ T) : ∃ σ', callD (d + 6) 13 [.ref 2, .int (nI n), .ref 13] σ = some (none, σ') ∧ PI 2 σ' (itT n T) ∧ ∀ o, (o < 2 ∨ 12 < o) → o ≠ 15 → σ' o = σ o := by
  obtain ⟨σ', e, r, f⟩ := h2_pass_l d n hn n 0 uu σ T (by omega) hP
  refine ⟨σ', ?_, r, f⟩
  simp only [s13_0, s13_1, c13]
  exact e
theorem h59_pass_l (d n : Nat) (hn : n < 2147483648) : ∀ m k (l4 : Value) σ (T : Nat → Int32), k + m = n → PI 59 σ T → ∃ σ', ru (d + 5) 13 2 [.ref 59, .int (nI n), .ref 13, .int (nI k), l4] [] σ = some (none, σ') ∧ PI 59 σ' (itT m T) ∧ ∀ o, (o < 59 ∨ 69 < o) → o ≠ 15 → σ' o = σ o := by
  intro m
  induction m with
  | zero =>
    intro k l4 σ T hk hP
    obtain rfl : k = n := by omega
    refine ⟨σ, ?_, hP, fun _ _ _ => rfl⟩
    simp only [s13_2]
    simp only [s13_3, s13_4, s13_71, Int32.le_refl, simprocAttr, if_true, if_false, true_and, and_true, false_and, and_false, not_false_eq_true, not_true_eq_false, gd_T, kont_i, kont_v]
  | succ m ih =>
    intro k l4 σ T hk hP
    obtain ⟨σ1, l4', e1, r1, f1⟩ := h59_minute d n k hn (by omega) l4 σ T hP
    obtain ⟨σ2, e2, r2, f2⟩ := ih (k + 1) l4' σ1 (minT T) (by omega) r1
    exact ⟨σ2, e1.trans e2, r2, fun o o1 o2 => (f2 o o1 o2).trans (f1 o o1 o2)⟩
theorem h59_pass (d n : Nat) (hn : n < 2147483648) (σ : Hs) (T : Nat → Int32) (hP : PI 59 σ T) : ∃ σ', callD (d + 6) 13 [.ref 59, .int (nI n), .ref 13] σ = some (none, σ') ∧ PI 59 σ' (itT n T) ∧ ∀ o, (o < 59 ∨ 69 < o) → o ≠ 15 → σ' o = σ o := by
  obtain ⟨σ', e, r, f⟩ := h59_pass_l d n hn n 0 uu σ T (by omega) hP
  refine ⟨σ', ?_, r, f⟩
  simp only [s13_0, s13_1, c13]
  exact e
theorem vcpy0 (f g : Nat → Int32) (n j : Nat) : va_cpy f g 0 0 n j = if j < n then f j else g j := by
  by_cases h : j < n
  · rw [if_pos h, pk_cpy_in (Nat.zero_le _) (by omega)]
    congr 1
    omega
  · rw [if_neg h, pk_cpy_out (by omega)]
theorem bnd_i {σ : Hs} {a b n : Nat} (h : a < 104 ∧ b < 104 ∧ (shp a).1 = 10 ∧ (shp b).1 = 10 ∧ n ≤ (shp b).2 ∧ n ≤ (shp a).2 ∧ n < 2147483648) : bndC σ a b 0 0 (nI n) = True := by
  obtain ⟨h1, h2, h3, h4, h5, h6, h7⟩ := h
  refine eq_true ⟨h1, h2, Or.inl h3, h4.trans h3.symm, by decide, by decide, nI_pos h7, ?_, ?_, fun h => ?_⟩
  · rw [cl_nI h7]; show 0 + n ≤ _; omega
  · rw [cl_nI h7]; show 0 + n ≤ _; omega
  · rw [h3] at h; cases h
theorem bnd_z {σ : Hs} {a b n : Nat} (h : a < 104 ∧ b < 104 ∧ (shp a).1 = 11 ∧ (shp b).1 = 11 ∧ n ≤ (shp b).2 ∧ n ≤ (shp a).2 ∧ n < 2147483648) (hB : ∀ i, i < n → isB (σ b i)) : bndC σ a b 0 0 (nI n) = True := by
  obtain ⟨h1, h2, h3, h4, h5, h6, h7⟩ := h
  refine eq_true ⟨h1, h2, Or.inr h3, h4.trans h3.symm, by decide, by decide, nI_pos h7, ?_, ?_, fun h => ?_⟩
  · rw [cl_nI h7]; show 0 + n ≤ _; omega
  · rw [cl_nI h7]; show 0 + n ≤ _; omega
  · intro i hi
    rw [cl_nI h7] at hi
    show fits .boolean (.int (σ b (0 + i))) = true
    rw [Nat.zero_add]
    exact isB_fit (hB i hi)
theorem bnd_2_31_1 (σ : Hs) : bndC σ 3 32 0 0 30 = True := bnd_i (n := 30) (by decide +kernel)
theorem bnd_2_31_2 (σ : Hs) : bndC σ 4 33 0 0 30 = True := bnd_i (n := 30) (by decide +kernel)
theorem bnd_2_31_3 (σ : Hs) : bndC σ 5 34 0 0 30 = True := bnd_i (n := 30) (by decide +kernel)
theorem bnd_2_31_4 (σ : Hs) : bndC σ 6 35 0 0 30 = True := bnd_i (n := 30) (by decide +kernel)
theorem bnd_2_31_5 (σ : Hs) : bndC σ 7 36 0 0 30 = True := bnd_i (n := 30) (by decide +kernel)
theorem bnd_2_31_7 (σ : Hs) : bndC σ 9 38 0 0 5 = True := bnd_i (n := 5) (by decide +kernel)
theorem bnd_2_31_8 (σ : Hs) : bndC σ 10 39 0 0 9 = True := bnd_i (n := 9) (by decide +kernel)
theorem bnd_2_31_9 (σ : Hs) : bndC σ 11 40 0 0 9 = True := bnd_i (n := 9) (by decide +kernel)
theorem bnd_2_31_10 (σ : Hs) : bndC σ 12 41 0 0 9 = True := bnd_i (n := 9) (by decide +kernel)
theorem h2_copy_31 (d : Nat) (σ : Hs) (T : Nat → Int32) (h : HR 31 σ T) (hB : ∀ i, i < 30 → isB (σ 37 i)) : ∃ σ', callD (d + 1) 0 [.ref 2, .ref 31] σ = some (none, σ') ∧ HR 2 σ' T ∧ ∀ o, (o < 2 ∨ 12 < o) → σ' o = σ o := by
  have s1 : ∃ σ1, callD (d + 1) 0 [.ref 2, .ref 31] σ = ru d 0 75 [.ref 2, .ref 31] [] σ1 ∧ (σ1 = rep (rep (rep (rep (rep σ 3 (va_cpy (σ 32) (σ 3) 0 0 30)) 4 (va_cpy (σ 33) (σ 4) 0 0 30)) 5 (va_cpy (σ 34) (σ 5) 0 0 30)) 6 (va_cpy (σ 35) (σ 6) 0 0 30)) 7 (va_cpy (σ 36) (σ 7) 0 0 30)) := by
    refine ⟨_, ?_, rfl⟩
    simp only [c0, s0_0, s0_1_o2, s0_1_o31, s0_4, s0_5, s0_6_o2, s0_6_o31, s0_6_o59, s0_9, s0_10, s0_12, s0_15, s0_16_o2, s0_16_o31, s0_19, s0_20, s0_21_o2, s0_21_o31, s0_21_o59, s0_24, s0_25, s0_27, s0_30, s0_31_o2, s0_31_o31, s0_34, s0_35, s0_36_o2, s0_36_o31, s0_36_o59, s0_39, s0_40, s0_42, s0_45, s0_46_o2, s0_46_o31, s0_49, s0_50, s0_51_o2, s0_51_o31, s0_51_o59, s0_54, s0_55, s0_57, s0_60, s0_61_o2, s0_61_o31, s0_64, s0_65, s0_66_o2, s0_66_o31, s0_66_o59, s0_69, s0_70, s0_72, bnd_2_31_1, bnd_2_31_2, bnd_2_31_3, bnd_2_31_4, bnd_2_31_5, cp2_rep, rep_at, simprocAttr, if_true, if_false, true_and, and_true, false_and, and_false, not_false_eq_true, not_true_eq_false, gd_T, kont_i, kont_v]
  obtain ⟨σ1, e1, eσ⟩ := s1
  have fr1 : ∀ o, (o < 3 ∨ 7 < o) → σ1 o = σ o := by
    intro o ho
    rw [eσ, rep_ne (by omega), rep_ne (by omega), rep_ne (by omega), rep_ne (by omega), rep_ne (by omega)]
  have hb : bndC σ1 8 37 0 0 30 = True := bnd_z (n := 30) (by decide +kernel) (fun i hi => by rw [fr1 _ (by omega)]; exact hB i hi)
  have s2 : ru d 0 75 [.ref 2, .ref 31] [] σ1 = ru d 0 90 [.ref 2, .ref 31] [] (rep σ1 8 (va_cpy (σ1 37) (σ1 8) 0 0 30)) := by
    simp only [s0_75, s0_76_o2, s0_76_o31, s0_79, s0_80, s0_81_o2, s0_81_o31, s0_81_o59, s0_84, s0_85, s0_87, hb, cp2_rep, simprocAttr, if_true, if_false, true_and, and_true, false_and, and_false, not_false_eq_true, not_true_eq_false, gd_T, kont_i, kont_v]
  have q1 : ∀ (f : Nat) (j : Nat), 1 ≤ f → f ≤ 5 → j < 30 → σ1 (2 + f) j = σ (31 + f) j := by
    intro f j f1 f5 hj
    have : f = 1 ∨ f = 2 ∨ f = 3 ∨ f = 4 ∨ f = 5 := by omega
    rcases this with rfl | rfl | rfl | rfl | rfl <;> (rw [eσ]; simp only [rep_at, vcpy0, simprocAttr, if_true, if_false, true_and, and_true, false_and, and_false, not_false_eq_true, not_true_eq_false, gd_T, kont_i, kont_v]; rw [if_pos hj])
  obtain ⟨a1, a2, a3, a4, a5, a6, a7, a8⟩ := h
  refine ⟨rep (rep (rep (rep (rep (rep σ1 8 (va_cpy (σ1 37) (σ1 8) 0 0 30)) 9 (va_cpy (σ1 38) (σ1 9) 0 0 5)) 10 (va_cpy (σ1 39) (σ1 10) 0 0 9)) 11 (va_cpy (σ1 40) (σ1 11) 0 0 9)) 12 (va_cpy (σ1 41) (σ1 12) 0 0 9)) 2 (upd (upd (upd (upd (σ1 2) 10 (σ1 31 10)) 11 (σ1 31 11)) 12 (σ1 31 12)) 13 (σ1 31 13)), ?_, ⟨?_, ?_, ?_, ?_, ?_, ?_, ?_, ?_⟩, ?_⟩
  · rw [e1, s2]
    simp only [s0_90, s0_91_o2, s0_91_o31, s0_94, s0_95, s0_96_o2, s0_96_o31, s0_96_o59, s0_99, s0_100, s0_101, s0_104, s0_105_o2, s0_105_o31, s0_108, s0_109, s0_110_o2, s0_110_o31, s0_110_o59, s0_113, s0_114, s0_116, s0_119, s0_120_o2, s0_120_o31, s0_123, s0_124, s0_125_o2, s0_125_o31, s0_125_o59, s0_128, s0_129, s0_131, s0_134, s0_135_o2, s0_135_o31, s0_138, s0_139, s0_140_o2, s0_140_o31, s0_140_o59, s0_143, s0_144, s0_146, s0_149, s0_150, s0_151_o2, s0_151_o31, s0_154_o2, s0_154_o31, s0_154_o59, s0_157, s0_158, s0_159_o2, s0_159_o31, s0_162_o2, s0_162_o31, s0_162_o59, s0_165, s0_166, s0_167_o2, s0_167_o31, s0_170_o2, s0_170_o31, s0_170_o59, s0_173, s0_174, s0_175_o2, s0_175_o31, s0_178_o2, s0_178_o31, s0_178_o59, s0_181, bnd_2_31_7, bnd_2_31_8, bnd_2_31_9, bnd_2_31_10, cp2_rep, up2_rep, rep_at, rep_rep, simprocAttr, if_true, if_false, true_and, and_true, false_and, and_false, not_false_eq_true, not_true_eq_false, gd_T, kont_i, kont_v]
  · intro p hp hi f f1 f6
    by_cases c : f = 6
    · subst c
      simp only [rep_at, vcpy0, simprocAttr, if_true, if_false, true_and, and_true, false_and, and_false, not_false_eq_true, not_true_eq_false, gd_T, kont_i, kont_v]
      rw [if_pos hp, fr1 _ (by omega)]
      exact a1 p hp hi 6 f1 f6
    · rw [rep_ne (by omega), rep_ne (by omega), rep_ne (by omega), rep_ne (by omega), rep_ne (by omega), rep_ne (by omega), q1 f p f1 (by omega) hp]
      exact a1 p hp hi f f1 f6
  · intro p hp hi
    rw [rep_ne (by omega), rep_ne (by omega), rep_ne (by omega), rep_ne (by omega), rep_ne (by omega), rep_ne (by omega), q1 2 p (by omega) (by omega) hp]
    exact a2 p hp hi
  · intro k hk
    simp only [rep_at, vcpy0, simprocAttr, if_true, if_false, true_and, and_true, false_and, and_false, not_false_eq_true, not_true_eq_false, gd_T, kont_i, kont_v]
    rw [if_pos hk, fr1 _ (by omega)]
    exact a3 k hk
  · intro g hg
    simp only [rep_at, vcpy0, simprocAttr, if_true, if_false, true_and, and_true, false_and, and_false, not_false_eq_true, not_true_eq_false, gd_T, kont_i, kont_v]
    rw [if_pos hg, if_pos hg, if_pos hg, fr1 _ (by omega), fr1 _ (by omega), fr1 _ (by omega)]
    exact a4 g hg
  · simp only [rep_at, upd_at, simprocAttr, if_true, if_false, true_and, and_true, false_and, and_false, not_false_eq_true, not_true_eq_false, gd_T, kont_i, kont_v]
    rw [fr1 _ (by omega)]; exact a5
  · simp only [rep_at, upd_at, simprocAttr, if_true, if_false, true_and, and_true, false_and, and_false, not_false_eq_true, not_true_eq_false, gd_T, kont_i, kont_v]
    rw [fr1 _ (by omega)]; exact a6
  · simp only [rep_at, upd_at, simprocAttr, if_true, if_false, true_and, and_true, false_and, and_false, not_false_eq_true, not_true_eq_false, gd_T, kont_i, kont_v]
    rw [fr1 _ (by omega)]; exact a7
  · simp only [rep_at, upd_at, simprocAttr, if_true, if_false, true_and, and_true, false_and, and_false, not_false_eq_true, not_true_eq_false, gd_T, kont_i, kont_v]
    rw [fr1 _ (by omega)]; exact a8
  · intro o ho
    rw [rep_ne (by omega), rep_ne (by omega), rep_ne (by omega), rep_ne (by omega), rep_ne (by omega), rep_ne (by omega)]
    exact fr1 o (by omega)
theorem bnd_31_2_1 (σ : Hs) : bndC σ 32 3 0 0 30 = True := bnd_i (n := 30) (by decide +kernel)
theorem bnd_31_2_2 (σ : Hs) : bndC σ 33 4 0 0 30 = True := bnd_i (n := 30) (by decide +kernel)
theorem bnd_31_2_3 (σ : Hs) : bndC σ 34 5 0 0 30 = True := bnd_i (n := 30) (by decide +kernel)
theorem bnd_31_2_4 (σ : Hs) : bndC σ 35 6 0 0 30 = True := bnd_i (n := 30) (by decide +kernel)
theorem bnd_31_2_5 (σ : Hs) : bndC σ 36 7 0 0 30 = True := bnd_i (n := 30) (by decide +kernel)
theorem bnd_31_2_7 (σ : Hs) : bndC σ 38 9 0 0 5 = True := bnd_i (n := 5) (by decide +kernel)
theorem bnd_31_2_8 (σ : Hs) : bndC σ 39 10 0 0 9 = True := bnd_i (n := 9) (by decide +kernel)
theorem bnd_31_2_9 (σ : Hs) : bndC σ 40 11 0 0 9 = True := bnd_i (n := 9) (by decide +kernel)
theorem bnd_31_2_10 (σ : Hs) : bndC σ 41 12 0 0 9 = True := bnd_i (n := 9) (by decide +kernel)
theorem h31_copy_2 (d : Nat) (σ : Hs) (T : Nat → Int32) (h : HR 2 σ T) (hB : ∀ i, i < 30 → isB (σ 8 i)) : ∃ σ', callD (d + 1) 0 [.ref 31, .ref 2] σ = some (none, σ') ∧ HR 31 σ' T ∧ ∀ o, (o < 31 ∨ 41 < o) → σ' o = σ o := by
  have s1 : ∃ σ1, callD (d + 1) 0 [.ref 31, .ref 2] σ = ru d 0 75 [.ref 31, .ref 2] [] σ1 ∧ (σ1 = rep (rep (rep (rep (rep σ 32 (va_cpy (σ 3) (σ 32) 0 0 30)) 33 (va_cpy (σ 4) (σ 33) 0 0 30)) 34 (va_cpy (σ 5) (σ 34) 0 0 30)) 35 (va_cpy (σ 6) (σ 35) 0 0 30)) 36 (va_cpy (σ 7) (σ 36) 0 0 30)) := by
    refine ⟨_, ?_, rfl⟩
    simp only [c0, s0_0, s0_1_o2, s0_1_o31, s0_4, s0_5, s0_6_o2, s0_6_o31, s0_6_o59, s0_9, s0_10, s0_12, s0_15, s0_16_o2, s0_16_o31, s0_19, s0_20, s0_21_o2, s0_21_o31, s0_21_o59, s0_24, s0_25, s0_27, s0_30, s0_31_o2, s0_31_o31, s0_34, s0_35, s0_36_o2, s0_36_o31, s0_36_o59, s0_39, s0_40, s0_42, s0_45, s0_46_o2, s0_46_o31, s0_49, s0_50, s0_51_o2, s0_51_o31, s0_51_o59, s0_54, s0_55, s0_57, s0_60, s0_61_o2, s0_61_o31, s0_64, s0_65, s0_66_o2, s0_66_o31, s0_66_o59, s0_69, s0_70, s0_72, bnd_31_2_1, bnd_31_2_2, bnd_31_2_3, bnd_31_2_4, bnd_31_2_5, cp2_rep, rep_at, simprocAttr, if_true, if_false, true_and, and_true, false_and, and_false, not_false_eq_true, not_true_eq_false, gd_T, kont_i, kont_v]
  obtain ⟨σ1, e1, eσ⟩ := s1
  have fr1 : ∀ o, (o < 32 ∨ 36 < o) → σ1 o = σ o := by
    intro o ho
    rw [eσ, rep_ne (by omega), rep_ne (by omega), rep_ne (by omega), rep_ne (by omega), rep_ne (by omega)]
  have hb : bndC σ1 37 8 0 0 30 = True := bnd_z (n := 30) (by decide +kernel) (fun i hi => by rw [fr1 _ (by omega)]; exact hB i hi)
  have s2 : ru d 0 75 [.ref 31, .ref 2] [] σ1 = ru d 0 90 [.ref 31, .ref 2] [] (rep σ1 37 (va_cpy (σ1 8) (σ1 37) 0 0 30)) := by
    simp only [s0_75, s0_76_o2, s0_76_o31, s0_79, s0_80, s0_81_o2, s0_81_o31, s0_81_o59, s0_84, s0_85, s0_87, hb, cp2_rep, simprocAttr, if_true, if_false, true_and, and_true, false_and, and_false, not_false_eq_true, not_true_eq_false, gd_T, kont_i, kont_v]
  have q1 : ∀ (f : Nat) (j : Nat), 1 ≤ f → f ≤ 5 → j < 30 → σ1 (31 + f) j = σ (2 + f) j := by
    intro f j f1 f5 hj
    have : f = 1 ∨ f = 2 ∨ f = 3 ∨ f = 4 ∨ f = 5 := by omega
    rcases this with rfl | rfl | rfl | rfl | rfl <;> (rw [eσ]; simp only [rep_at, vcpy0, simprocAttr, if_true, if_false, true_and, and_true, false_and, and_false, not_false_eq_true, not_true_eq_false, gd_T, kont_i, kont_v]; rw [if_pos hj])
  obtain ⟨a1, a2, a3, a4, a5, a6, a7, a8⟩ := h
  refine ⟨rep (rep (rep (rep (rep (rep σ1 37 (va_cpy (σ1 8) (σ1 37) 0 0 30)) 38 (va_cpy (σ1 9) (σ1 38) 0 0 5)) 39 (va_cpy (σ1 10) (σ1 39) 0 0 9)) 40 (va_cpy (σ1 11) (σ1 40) 0 0 9)) 41 (va_cpy (σ1 12) (σ1 41) 0 0 9)) 31 (upd (upd (upd (upd (σ1 31) 10 (σ1 2 10)) 11 (σ1 2 11)) 12 (σ1 2 12)) 13 (σ1 2 13)), ?_, ⟨?_, ?_, ?_, ?_, ?_, ?_, ?_, ?_⟩, ?_⟩
  · rw [e1, s2]
    simp only [s0_90, s0_91_o2, s0_91_o31, s0_94, s0_95, s0_96_o2, s0_96_o31, s0_96_o59, s0_99, s0_100, s0_101, s0_104, s0_105_o2, s0_105_o31, s0_108, s0_109, s0_110_o2, s0_110_o31, s0_110_o59, s0_113, s0_114, s0_116, s0_119, s0_120_o2, s0_120_o31, s0_123, s0_124, s0_125_o2, s0_125_o31, s0_125_o59, s0_128, s0_129, s0_131, s0_134, s0_135_o2, s0_135_o31, s0_138, s0_139, s0_140_o2, s0_140_o31, s0_140_o59, s0_143, s0_144, s0_146, s0_149, s0_150, s0_151_o2, s0_151_o31, s0_154_o2, s0_154_o31, s0_154_o59, s0_157, s0_158, s0_159_o2, s0_159_o31, s0_162_o2, s0_162_o31, s0_162_o59, s0_165, s0_166, s0_167_o2, s0_167_o31, s0_170_o2, s0_170_o31, s0_170_o59, s0_173, s0_174, s0_175_o2, s0_175_o31, s0_178_o2, s0_178_o31, s0_178_o59, s0_181, bnd_31_2_7, bnd_31_2_8, bnd_31_2_9, bnd_31_2_10, cp2_rep, up2_rep, rep_at, rep_rep, simprocAttr, if_true, if_false, true_and, and_true, false_and, and_false, not_false_eq_true, not_true_eq_false, gd_T, kont_i, kont_v]
  · intro p hp hi f f1 f6
    by_cases c : f = 6
    · subst c
      simp only [rep_at, vcpy0, simprocAttr, if_true, if_false, true_and, and_true, false_and, and_false, not_false_eq_true, not_true_eq_false, gd_T, kont_i, kont_v]
      rw [if_pos hp, fr1 _ (by omega)]
      exact a1 p hp hi 6 f1 f6
    · rw [rep_ne (by omega), rep_ne (by omega), rep_ne (by omega), rep_ne (by omega), rep_ne (by omega), rep_ne (by omega), q1 f p f1 (by omega) hp]
      exact a1 p hp hi f f1 f6
  · intro p hp hi
    rw [rep_ne (by omega), rep_ne (by omega), rep_ne (by omega), rep_ne (by omega), rep_ne (by omega), rep_ne (by omega), q1 2 p (by omega) (by omega) hp]
    exact a2 p hp hi
  · intro k hk
    simp only [rep_at, vcpy0, simprocAttr, if_true, if_false, true_and, and_true, false_and, and_false, not_false_eq_true, not_true_eq_false, gd_T, kont_i, kont_v]
    rw [if_pos hk, fr1 _ (by omega)]
    exact a3 k hk
  · intro g hg
    simp only [rep_at, vcpy0, simprocAttr, if_true, if_false, true_and, and_true, false_and, and_false, not_false_eq_true, not_true_eq_false, gd_T, kont_i, kont_v]
    rw [if_pos hg, if_pos hg, if_pos hg, fr1 _ (by omega), fr1 _ (by omega), fr1 _ (by omega)]
    exact a4 g hg
  · simp only [rep_at, upd_at, simprocAttr, if_true, if_false, true_and, and_true, false_and, and_false, not_false_eq_true, not_true_eq_false, gd_T, kont_i, kont_v]
    rw [fr1 _ (by omega)]; exact a5
  · simp only [rep_at, upd_at, simprocAttr, if_true, if_false, true_and, and_true, false_and, and_false, not_false_eq_true, not_true_eq_false, gd_T, kont_i, kont_v]
    rw [fr1 _ (by omega)]; exact a6
  · simp only [rep_at, upd_at, simprocAttr, if_true, if_false, true_and, and_true, false_and, and_false, not_false_eq_true, not_true_eq_false, gd_T, kont_i, kont_v]
    rw [fr1 _ (by omega)]; exact a7
  · simp only [rep_at, upd_at, simprocAttr, if_true, if_false, true_and, and_true, false_and, and_false, not_false_eq_true, not_true_eq_false, gd_T, kont_i, kont_v]
    rw [fr1 _ (by omega)]; exact a8
  · intro o ho
    rw [rep_ne (by omega), rep_ne (by omega), rep_ne (by omega), rep_ne (by omega), rep_ne (by omega), rep_ne (by omega)]
    exact fr1 o (by omega)
theorem bnd_59_2_1 (σ : Hs) : bndC σ 60 3 0 0 30 = True := bnd_i (n := 30) (by decide +kernel)
theorem bnd_59_2_2 (σ : Hs) : bndC σ 61 4 0 0 30 = True := bnd_i (n := 30) (by decide +kernel)
theorem bnd_59_2_3 (σ : Hs) : bndC σ 62 5 0 0 30 = True := bnd_i (n := 30) (by decide +kernel)
theorem bnd_59_2_4 (σ : Hs) : bndC σ 63 6 0 0 30 = True := bnd_i (n := 30) (by decide +kernel)
theorem bnd_59_2_5 (σ : Hs) : bndC σ 64 7 0 0 30 = True := bnd_i (n := 30) (by decide +kernel)
theorem bnd_59_2_7 (σ : Hs) : bndC σ 66 9 0 0 5 = True := bnd_i (n := 5) (by decide +kernel)
theorem bnd_59_2_8 (σ : Hs) : bndC σ 67 10 0 0 9 = True := bnd_i (n := 9) (by decide +kernel)
theorem bnd_59_2_9 (σ : Hs) : bndC σ 68 11 0 0 9 = True := bnd_i (n := 9) (by decide +kernel)
theorem bnd_59_2_10 (σ : Hs) : bndC σ 69 12 0 0 9 = True := bnd_i (n := 9) (by decide +kernel)
theorem h59_copy_2 (d : Nat) (σ : Hs) (T : Nat → Int32) (h : HR 2 σ T) (hB : ∀ i, i < 30 → isB (σ 8 i)) : ∃ σ', callD (d + 1) 0 [.ref 59, .ref 2] σ = some (none, σ') ∧ HR 59 σ' T ∧ ∀ o, (o < 59 ∨ 69 < o) → σ' o = σ o := by
  have s1 : ∃ σ1, callD (d + 1) 0 [.ref 59, .ref 2] σ = ru d 0 75 [.ref 59, .ref 2] [] σ1 ∧ (σ1 = rep (rep (rep (rep (rep σ 60 (va_cpy (σ 3) (σ 60) 0 0 30)) 61 (va_cpy (σ 4) (σ 61) 0 0 30)) 62 (va_cpy (σ 5) (σ 62) 0 0 30)) 63 (va_cpy (σ 6) (σ 63) 0 0 30)) 64 (va_cpy (σ 7) (σ 64) 0 0 30)) := by
    refine ⟨_, ?_, rfl⟩
    simp only [c0, s0_0, s0_1_o2, s0_1_o31, s0_4, s0_5, s0_6_o2, s0_6_o31, s0_6_o59, s0_9, s0_10, s0_12, s0_15, s0_16_o2, s0_16_o31, s0_19, s0_20, s0_21_o2, s0_21_o31, s0_21_o59, s0_24, s0_25, s0_27, s0_30, s0_31_o2, s0_31_o31, s0_34, s0_35, s0_36_o2, s0_36_o31, s0_36_o59, s0_39, s0_40, s0_42, s0_45, s0_46_o2, s0_46_o31, s0_49, s0_50, s0_51_o2, s0_51_o31, s0_51_o59, s0_54, s0_55, s0_57, s0_60, s0_61_o2, s0_61_o31, s0_64, s0_65, s0_66_o2, s0_66_o31, s0_66_o59, s0_69, s0_70, s0_72, bnd_59_2_1, bnd_59_2_2, bnd_59_2_3, bnd_59_2_4, bnd_59_2_5, cp2_rep, rep_at, simprocAttr, if_true, if_false, true_and, and_true, false_and, and_false, not_false_eq_true, not_true_eq_false, gd_T, kont_i, kont_v]
  obtain ⟨σ1, e1, eσ⟩ := s1
  have fr1 : ∀ o, (o < 60 ∨ 64 < o) → σ1 o = σ o := by
    intro o ho
    rw [eσ, rep_ne (by omega), rep_ne (by omega), rep_ne (by omega), rep_ne (by omega), rep_ne (by omega)]
  have hb : bndC σ1 65 8 0 0 30 = True := bnd_z (n := 30) (by decide +kernel) (fun i hi => by rw [fr1 _ (by omega)]; exact hB i hi)
  have s2 : ru d 0 75 [.ref 59, .ref 2] [] σ1 = ru d 0 90 [.ref 59, .ref 2] [] (rep σ1 65 (va_cpy (σ1 8) (σ1 65) 0 0 30)) := by
    simp only [s0_75, s0_76_o2, s0_76_o31, s0_79, s0_80, s0_81_o2, s0_81_o31, s0_81_o59, s0_84, s0_85, s0_87, hb, cp2_rep, simprocAttr, if_true, if_false, true_and, and_true, false_and, and_false, not_false_eq_true, not_true_eq_false, gd_T, kont_i, kont_v]
  have q1 : ∀ (f : Nat) (j : Nat), 1 ≤ f → f ≤ 5 → j < 30 → σ1 (59 + f) j = σ (2 + f) j := by
    intro f j f1 f5 hj
    have : f = 1 ∨ f = 2 ∨ f = 3 ∨ f = 4 ∨ f = 5 := by omega
    rcases this with rfl | rfl | rfl | rfl | rfl <;> (rw [eσ]; simp only [rep_at, vcpy0, simprocAttr, if_true, if_false, true_and, and_true, false_and, and_false, not_false_eq_true, not_true_eq_false, gd_T, kont_i, kont_v]; rw [if_pos hj])
  obtain ⟨a1, a2, a3, a4, a5, a6, a7, a8⟩ := h
  refine ⟨rep (rep (rep (rep (rep (rep σ1 65 (va_cpy (σ1 8) (σ1 65) 0 0 30)) 66 (va_cpy (σ1 9) (σ1 66) 0 0 5)) 67 (va_cpy (σ1 10) (σ1 67) 0 0 9)) 68 (va_cpy (σ1 11) (σ1 68) 0 0 9)) 69 (va_cpy (σ1 12) (σ1 69) 0 0 9)) 59 (upd (upd (upd (upd (σ1 59) 10 (σ1 2 10)) 11 (σ1 2 11)) 12 (σ1 2 12)) 13 (σ1 2 13)), ?_, ⟨?_, ?_, ?_, ?_, ?_, ?_, ?_, ?_⟩, ?_⟩
  · rw [e1, s2]
    simp only [s0_90, s0_91_o2, s0_91_o31, s0_94, s0_95, s0_96_o2, s0_96_o31, s0_96_o59, s0_99, s0_100, s0_101, s0_104, s0_105_o2, s0_105_o31, s0_108, s0_109, s0_110_o2, s0_110_o31, s0_110_o59, s0_113, s0_114, s0_116, s0_119, s0_120_o2, s0_120_o31, s0_123, s0_124, s0_125_o2, s0_125_o31, s0_125_o59, s0_128, s0_129, s0_131, s0_134, s0_135_o2, s0_135_o31, s0_138, s0_139, s0_140_o2, s0_140_o31, s0_140_o59, s0_143, s0_144, s0_146, s0_149, s0_150, s0_151_o2, s0_151_o31, s0_154_o2, s0_154_o31, s0_154_o59, s0_157, s0_158, s0_159_o2, s0_159_o31, s0_162_o2, s0_162_o31, s0_162_o59, s0_165, s0_166, s0_167_o2, s0_167_o31, s0_170_o2, s0_170_o31, s0_170_o59, s0_173, s0_174, s0_175_o2, s0_175_o31, s0_178_o2, s0_178_o31, s0_178_o59, s0_181, bnd_59_2_7, bnd_59_2_8, bnd_59_2_9, bnd_59_2_10, cp2_rep, up2_rep, rep_at, rep_rep, simprocAttr, if_true, if_false, true_and, and_true, false_and, and_false, not_false_eq_true, not_true_eq_false, gd_T, kont_i, kont_v]
  · intro p hp hi f f1 f6
    by_cases c : f = 6
    · subst c
      simp only [rep_at, vcpy0, simprocAttr, if_true, if_false, true_and, and_true, false_and, and_false, not_false_eq_true, not_true_eq_false, gd_T, kont_i, kont_v]
      rw [if_pos hp, fr1 _ (by omega)]
      exact a1 p hp hi 6 f1 f6
    · rw [rep_ne (by omega), rep_ne (by omega), rep_ne (by omega), rep_ne (by omega), rep_ne (by omega), rep_ne (by omega), q1 f p f1 (by omega) hp]
      exact a1 p hp hi f f1 f6
  · intro p hp hi
    rw [rep_ne (by omega), rep_ne (by omega), rep_ne (by omega), rep_ne (by omega), rep_ne (by omega), rep_ne (by omega), q1 2 p (by omega) (by omega) hp]
    exact a2 p hp hi
  · intro k hk
    simp only [rep_at, vcpy0, simprocAttr, if_true, if_false, true_and, and_true, false_and, and_false, not_false_eq_true, not_true_eq_false, gd_T, kont_i, kont_v]
    rw [if_pos hk, fr1 _ (by omega)]
    exact a3 k hk
  · intro g hg
    simp only [rep_at, vcpy0, simprocAttr, if_true, if_false, true_and, and_true, false_and, and_false, not_false_eq_true, not_true_eq_false, gd_T, kont_i, kont_v]
    rw [if_pos hg, if_pos hg, if_pos hg, fr1 _ (by omega), fr1 _ (by omega), fr1 _ (by omega)]
    exact a4 g hg
  · simp only [rep_at, upd_at, simprocAttr, if_true, if_false, true_and, and_true, false_and, and_false, not_false_eq_true, not_true_eq_false, gd_T, kont_i, kont_v]
    rw [fr1 _ (by omega)]; exact a5
  · simp only [rep_at, upd_at, simprocAttr, if_true, if_false, true_and, and_true, false_and, and_false, not_false_eq_true, not_true_eq_false, gd_T, kont_i, kont_v]
    rw [fr1 _ (by omega)]; exact a6
  · simp only [rep_at, upd_at, simprocAttr, if_true, if_false, true_and, and_true, false_and, and_false, not_false_eq_true, not_true_eq_false, gd_T, kont_i, kont_v]
    rw [fr1 _ (by omega)]; exact a7
  · simp only [rep_at, upd_at, simprocAttr, if_true, if_false, true_and, and_true, false_and, and_false, not_false_eq_true, not_true_eq_false, gd_T, kont_i, kont_v]
    rw [fr1 _ (by omega)]; exact a8
  · intro o ho
    rw [rep_ne (by omega), rep_ne (by omega), rep_ne (by omega), rep_ne (by omega), rep_ne (by omega), rep_ne (by omega)]
    exact fr1 o (by omega)
