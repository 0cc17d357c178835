/-! ===== a state against the model's row; states copied ===== -/
def LQ (c : Nat) (σ : Hs) (T : Nat → Int32) : Prop := ∀ u, u < 3 → ∀ cnt, cnt ≤ 60 → T (359 + 62 * u) = nI cnt → RW (c + 2 * u) cnt σ (fun k => enI (T (360 + 62 * u + k)))
theorem LR_of {σ : Hs} {T : Nat → Int32} (h : LQ 16 σ T) (hL : LWT T 0 ∧ LWT T 1 ∧ LWT T 2) : LR σ T := by
  have go : ∀ u, u < 3 → LWT T u → LRu u σ T := by
    intro u hu hl
    obtain ⟨cnt, c60, ec, -⟩ := hl
    refine ⟨(h u hu cnt c60 ec).1.trans ec.symm, fun n hn en k hk => ?_⟩
    have := (h u hu n hn en).2 k hk
    rw [show 16 + 2 * u + 1 = 17 + 2 * u by omega] at this
    exact this
  exact ⟨go 0 (by omega) hL.1, go 1 (by omega) hL.2.1, go 2 (by omega) hL.2.2⟩
theorem LQ_of {σ : Hs} {T : Nat → Int32} (h : LR σ T) : LQ 16 σ T := by
  have go : ∀ u, LRu u σ T → ∀ cnt, cnt ≤ 60 → T (359 + 62 * u) = nI cnt → RW (16 + 2 * u) cnt σ (fun k => enI (T (360 + 62 * u + k))) := by
    intro u hl cnt c60 ec
    refine ⟨hl.1.trans ec, fun k hk => ?_⟩
    rw [show 16 + 2 * u + 1 = 17 + 2 * u by omega]
    exact hl.2 cnt c60 ec k hk
  intro u hu
  have hu' : u = 0 ∨ u = 1 ∨ u = 2 := by omega
  rcases hu' with rfl | rfl | rfl
  · exact go 0 h.1
  · exact go 1 h.2.1
  · exact go 2 h.2.2
theorem RW.fr {r n : Nat} {σ σ' : Hs} {F : Nat → Int32} (h : RW r n σ F) (e : ∀ o, r ≤ o → o ≤ r + 1 → σ' o = σ o) : RW r n σ' F := by
  refine ⟨?_, fun k hk => ?_⟩
  · rw [e r (by omega) (by omega)]; exact h.1
  · rw [e (r + 1) (by omega) (by omega)]; exact h.2 k hk
def SR (b : Nat) (σ : Hs) (T : Nat → Int32) : Prop :=
  HR (b + 1) σ T ∧ LQ (b + 15) σ T ∧ (∃ n, n ≤ 60 ∧ T 1 = nI n ∧ RW (b + 21) n σ (fun k => T (275 + k))) ∧ (∃ n, n ≤ 12 ∧ T 13 = nI n ∧ RW (b + 23) n σ (fun k => T (251 + 2 * k)) ∧ RW (b + 25) n σ (fun k => T (252 + 2 * k))) ∧ (∃ n, n ≤ 24 ∧ T 2 = nI n ∧ RW (b + 27) n σ (fun k => T (335 + k))) ∧ σ b 6 = T 3
theorem SR.fr {b : Nat} {σ σ' : Hs} {T : Nat → Int32} (h : SR b σ T) (e : ∀ o, b ≤ o → o ≤ b + 28 → σ' o = σ o) : SR b σ' T := by
  obtain ⟨h1, h2, ⟨n, n1, n2, n3⟩, ⟨m, m1, m2, m3, m4⟩, ⟨k, k1, k2, k3⟩, h6⟩ := h
  exact ⟨h1.fr (fun o o1 o2 => e o (by omega) (by omega)), fun u hu cnt hc ec => (h2 u hu cnt hc ec).fr (fun o o1 o2 => e o (by omega) (by omega)), ⟨n, n1, n2, n3.fr (fun o o1 o2 => e o (by omega) (by omega))⟩, ⟨m, m1, m2, m3.fr (fun o o1 o2 => e o (by omega) (by omega)), m4.fr (fun o o1 o2 => e o (by omega) (by omega))⟩, ⟨k, k1, k2, k3.fr (fun o o1 o2 => e o (by omega) (by omega))⟩, by rw [e b (by omega) (by omega)]; exact h6⟩
/-- what is true of a model's row between calls -/
def TI (T : Nat → Int32) : Prop := MI T ∧ (∀ n, n ≤ 60 → T 1 = nI n → ∀ k, k < n → ∃ c, c < 256 ∧ T (275 + k) = nI c) ∧ (∀ n, n ≤ 12 → T 13 = nI n → ∀ k, k < n → (∃ g, g < 9 ∧ T (251 + 2 * k) = nI g) ∧ ∃ w, w < 4 ∧ T (252 + 2 * k) = nI w)
theorem TI.L {T : Nat → Int32} (h : TI T) : LWT T 0 ∧ LWT T 1 ∧ LWT T 2 := h.1.2.1.1
theorem l13_copy (d : Nat) (σ : Hs) (T : Nat → Int32) (h : LQ 45 σ T) (hL : LWT T 0 ∧ LWT T 1 ∧ LWT T 2) : ∃ σ', callD (d + 2) 31 [.ref 13, .ref 42] σ = some (none, σ') ∧ LQ 16 σ' T ∧ ∀ o, (o < 16 ∨ 21 < o) → σ' o = σ o := by
  obtain ⟨⟨c0, a0, b0, -⟩, ⟨c1, a1, b1, -⟩, c2, a2, b2, -⟩ := hL
  have w0 : RW 45 c0 σ _ := h 0 (by omega) c0 a0 b0
  have w1 : RW 47 c1 σ _ := h 1 (by omega) c1 a1 b1
  have w2 : RW 49 c2 σ _ := h 2 (by omega) c2 a2 b2
  obtain ⟨σ0, e0, x0, f0⟩ := r16_copy_45 d c0 a0 σ _ w0
  obtain ⟨σ1, e1, x1, f1⟩ := r18_copy_47 d c1 a1 σ0 _ (w1.fr (fun o o1 o2 => f0 o (by omega) (by omega)))
  obtain ⟨σ2, e2, x2, f2⟩ := r20_copy_49 d c2 a2 σ1 _ ((w2.fr (fun o o1 o2 => f0 o (by omega) (by omega))).fr (fun o o1 o2 => f1 o (by omega) (by omega)))
  have y0 : RW 16 c0 σ2 _ := (x0.fr (fun o o1 o2 => f1 o (by omega) (by omega))).fr (fun o o1 o2 => f2 o (by omega) (by omega))
  have y1 : RW 18 c1 σ2 _ := x1.fr (fun o o1 o2 => f2 o (by omega) (by omega))
  refine ⟨σ2, ?_, ?_, fun o ho => (f2 o (by omega) (by omega)).trans ((f1 o (by omega) (by omega)).trans (f0 o (by omega) (by omega)))⟩
  · simp only [c31, s31_0, s31_1, s31_2, s31_3, s31_4, s31_7, s31_8_o13, s31_8_o42, s31_11, s31_12_o14, s31_12_o43, s31_13, s31_14_o13, s31_14_o42, s31_17, s31_18_o14, s31_18_o43, s31_19_o16, s31_19_o18, s31_19_o20, s31_19_o45, s31_19_o47, s31_19_o49, s31_22, s31_25, s31_28, vp_lit, cr14_0, cr14_1, cr14_2, cr43_0, cr43_1, cr43_2, e0, e1, e2, simprocAttr, if_true, if_false, true_and, and_true, false_and, and_false, not_false_eq_true, not_true_eq_false, gd_T, kont_i, kont_v]
  · intro u hu cnt hc ec
    have hu' : u = 0 ∨ u = 1 ∨ u = 2 := by omega
    rcases hu' with rfl | rfl | rfl
    · have : cnt = c0 := by have := ec.symm.trans b0; rwa [nI_eq (by omega) (by omega)] at this
      subst this; exact y0
    · have : cnt = c1 := by have := ec.symm.trans b1; rwa [nI_eq (by omega) (by omega)] at this
      subst this; exact y1
    · have : cnt = c2 := by have := ec.symm.trans b2; rwa [nI_eq (by omega) (by omega)] at this
      subst this; exact x2
theorem l42_copy (d : Nat) (σ : Hs) (T : Nat → Int32) (h : LQ 16 σ T) (hL : LWT T 0 ∧ LWT T 1 ∧ LWT T 2) : ∃ σ', callD (d + 2) 31 [.ref 42, .ref 13] σ = some (none, σ') ∧ LQ 45 σ' T ∧ ∀ o, (o < 45 ∨ 50 < o) → σ' o = σ o := by
  obtain ⟨⟨c0, a0, b0, -⟩, ⟨c1, a1, b1, -⟩, c2, a2, b2, -⟩ := hL
  have w0 : RW 16 c0 σ _ := h 0 (by omega) c0 a0 b0
  have w1 : RW 18 c1 σ _ := h 1 (by omega) c1 a1 b1
  have w2 : RW 20 c2 σ _ := h 2 (by omega) c2 a2 b2
  obtain ⟨σ0, e0, x0, f0⟩ := r45_copy_16 d c0 a0 σ _ w0
  obtain ⟨σ1, e1, x1, f1⟩ := r47_copy_18 d c1 a1 σ0 _ (w1.fr (fun o o1 o2 => f0 o (by omega) (by omega)))
  obtain ⟨σ2, e2, x2, f2⟩ := r49_copy_20 d c2 a2 σ1 _ ((w2.fr (fun o o1 o2 => f0 o (by omega) (by omega))).fr (fun o o1 o2 => f1 o (by omega) (by omega)))
  have y0 : RW 45 c0 σ2 _ := (x0.fr (fun o o1 o2 => f1 o (by omega) (by omega))).fr (fun o o1 o2 => f2 o (by omega) (by omega))
  have y1 : RW 47 c1 σ2 _ := x1.fr (fun o o1 o2 => f2 o (by omega) (by omega))
  refine ⟨σ2, ?_, ?_, fun o ho => (f2 o (by omega) (by omega)).trans ((f1 o (by omega) (by omega)).trans (f0 o (by omega) (by omega)))⟩
  · simp only [c31, s31_0, s31_1, s31_2, s31_3, s31_4, s31_7, s31_8_o13, s31_8_o42, s31_11, s31_12_o14, s31_12_o43, s31_13, s31_14_o13, s31_14_o42, s31_17, s31_18_o14, s31_18_o43, s31_19_o16, s31_19_o18, s31_19_o20, s31_19_o45, s31_19_o47, s31_19_o49, s31_22, s31_25, s31_28, vp_lit, cr14_0, cr14_1, cr14_2, cr43_0, cr43_1, cr43_2, e0, e1, e2, simprocAttr, if_true, if_false, true_and, and_true, false_and, and_false, not_false_eq_true, not_true_eq_false, gd_T, kont_i, kont_v]
  · intro u hu cnt hc ec
    have hu' : u = 0 ∨ u = 1 ∨ u = 2 := by omega
    rcases hu' with rfl | rfl | rfl
    · have : cnt = c0 := by have := ec.symm.trans b0; rwa [nI_eq (by omega) (by omega)] at this
      subst this; exact y0
    · have : cnt = c1 := by have := ec.symm.trans b1; rwa [nI_eq (by omega) (by omega)] at this
      subst this; exact y1
    · have : cnt = c2 := by have := ec.symm.trans b2; rwa [nI_eq (by omega) (by omega)] at this
      subst this; exact x2
theorem s1_copy (d : Nat) (σ : Hs) (T : Nat → Int32) (h : SR 30 σ T) (hL : LWT T 0 ∧ LWT T 1 ∧ LWT T 2) (hB : WB σ) : ∃ σ', callD (d + 3) 50 [.ref 1, .ref 30] σ = some (none, σ') ∧ SR 1 σ' T ∧ ∀ o, (o < 1 ∨ 29 < o) → σ' o = σ o := by
  obtain ⟨h1, h2, ⟨n, n1, n2, n3⟩, ⟨m, m1, m2, m3, m4⟩, ⟨k, k1, k2, k3⟩, h6⟩ := h
  obtain ⟨σ1, e1, r1, f1⟩ := h2_copy_31 (d + 1) σ T h1 (fun i _ => hB.1 37 (by decide +kernel) i)
  obtain ⟨σ2, e2, r2, f2⟩ := l13_copy d σ1 T (fun u hu cnt hc ec => (h2 u hu cnt hc ec).fr (fun o o1 o2 => f1 o (by omega))) hL
  have g2 : ∀ o, ((30 ≤ o ∧ o ≤ 58) ∨ (o < 1 ∨ 29 < o)) → σ2 o = σ o := fun o ho => (f2 o (by omega)).trans (f1 o (by omega))
  obtain ⟨σ3, e3, r3, f3⟩ := r22_copy_51 (d + 1) n n1 σ2 _ (n3.fr (fun o o1 o2 => g2 o (by omega)))
  have g3 : ∀ o, ((30 ≤ o ∧ o ≤ 58) ∨ (o < 1 ∨ 29 < o)) → σ3 o = σ o := fun o ho => (f3 o (by omega) (by omega)).trans (g2 o ho)
  obtain ⟨σ4, e4, r4, f4⟩ := r24_copy_53 (d + 1) m m1 σ3 _ (m3.fr (fun o o1 o2 => g3 o (by omega)))
  have g4 : ∀ o, ((30 ≤ o ∧ o ≤ 58) ∨ (o < 1 ∨ 29 < o)) → σ4 o = σ o := fun o ho => (f4 o (by omega) (by omega)).trans (g3 o ho)
  obtain ⟨σ5, e5, r5, f5⟩ := r26_copy_55 (d + 1) m m1 σ4 _ (m4.fr (fun o o1 o2 => g4 o (by omega)))
  have g5 : ∀ o, ((30 ≤ o ∧ o ≤ 58) ∨ (o < 1 ∨ 29 < o)) → σ5 o = σ o := fun o ho => (f5 o (by omega) (by omega)).trans (g4 o ho)
  obtain ⟨σ6, e6, r6, f6⟩ := r28_copy_57 (d + 1) k k1 σ5 _ (k3.fr (fun o o1 o2 => g5 o (by omega)))
  have g6 : ∀ o, ((30 ≤ o ∧ o ≤ 58) ∨ (o < 1 ∨ 29 < o)) → σ6 o = σ o := fun o ho => (f6 o (by omega) (by omega)).trans (g5 o ho)
  have q6 : σ6 30 6 = T 3 := by rw [g6 _ (by omega)]; exact h6
  have ff : ∀ o, o ≠ 1 → rep σ6 1 (upd (σ6 1) 6 (T 3)) o = σ6 o := fun o ho => rep_ne ho
  refine ⟨rep σ6 1 (upd (σ6 1) 6 (T 3)), ?_, ⟨?_, ?_, ⟨n, n1, n2, ?_⟩, ⟨m, m1, m2, ?_, ?_⟩, ⟨k, k1, k2, ?_⟩, ?_⟩, ?_⟩
  · simp only [c50, c50, s50_0, s50_1_o1, s50_1_o30, s50_4, s50_5_o1, s50_5_o30, s50_8_o2, s50_8_o31, s50_11, s50_12_o1, s50_12_o30, s50_15, s50_16_o1, s50_16_o30, s50_19_o13, s50_19_o42, s50_22, s50_23_o1, s50_23_o30, s50_26, s50_27_o1, s50_27_o30, s50_30_o22, s50_30_o51, s50_33, s50_34_o1, s50_34_o30, s50_37, s50_38_o1, s50_38_o30, s50_41_o24, s50_41_o53, s50_44, s50_45_o1, s50_45_o30, s50_48, s50_49_o1, s50_49_o30, s50_52_o26, s50_52_o55, s50_55, s50_56_o1, s50_56_o30, s50_59, s50_60_o1, s50_60_o30, s50_63_o28, s50_63_o57, s50_66, s50_67, s50_68_o1, s50_68_o30, s50_71_o1, s50_71_o30, s50_74, e1, e2, e3, e4, e5, e6, q6, up2_rep, simprocAttr, if_true, if_false, true_and, and_true, false_and, and_false, not_false_eq_true, not_true_eq_false, gd_T, kont_i, kont_v]
  · refine r1.fr (fun o o1 o2 => ?_)
    rw [ff o (by omega), f6 o (by omega) (by omega), f5 o (by omega) (by omega), f4 o (by omega) (by omega), f3 o (by omega) (by omega), f2 o (by omega)]
  · intro u hu cnt hc ec
    refine (r2 u hu cnt hc ec).fr (fun o o1 o2 => ?_)
    rw [ff o (by omega), f6 o (by omega) (by omega), f5 o (by omega) (by omega), f4 o (by omega) (by omega), f3 o (by omega) (by omega)]
  · refine r3.fr (fun o o1 o2 => ?_)
    rw [ff o (by omega), f6 o (by omega) (by omega), f5 o (by omega) (by omega), f4 o (by omega) (by omega)]
  · refine r4.fr (fun o o1 o2 => ?_)
    rw [ff o (by omega), f6 o (by omega) (by omega), f5 o (by omega) (by omega)]
  · refine r5.fr (fun o o1 o2 => ?_)
    rw [ff o (by omega), f6 o (by omega) (by omega)]
  · refine r6.fr (fun o o1 o2 => ?_)
    rw [ff o (by omega)]
  · rw [rep_self, upd_at, if_pos rfl]
  · intro o ho
    rw [ff o (by omega)]
    exact g6 o (Or.inr ho)
theorem s30_copy (d : Nat) (σ : Hs) (T : Nat → Int32) (h : SR 1 σ T) (hL : LWT T 0 ∧ LWT T 1 ∧ LWT T 2) (hB : WB σ) : ∃ σ', callD (d + 3) 50 [.ref 30, .ref 1] σ = some (none, σ') ∧ SR 30 σ' T ∧ ∀ o, (o < 30 ∨ 58 < o) → σ' o = σ o := by
  obtain ⟨h1, h2, ⟨n, n1, n2, n3⟩, ⟨m, m1, m2, m3, m4⟩, ⟨k, k1, k2, k3⟩, h6⟩ := h
  obtain ⟨σ1, e1, r1, f1⟩ := h31_copy_2 (d + 1) σ T h1 (fun i _ => hB.1 8 (by decide +kernel) i)
  obtain ⟨σ2, e2, r2, f2⟩ := l42_copy d σ1 T (fun u hu cnt hc ec => (h2 u hu cnt hc ec).fr (fun o o1 o2 => f1 o (by omega))) hL
  have g2 : ∀ o, ((1 ≤ o ∧ o ≤ 29) ∨ (o < 30 ∨ 58 < o)) → σ2 o = σ o := fun o ho => (f2 o (by omega)).trans (f1 o (by omega))
  obtain ⟨σ3, e3, r3, f3⟩ := r51_copy_22 (d + 1) n n1 σ2 _ (n3.fr (fun o o1 o2 => g2 o (by omega)))
  have g3 : ∀ o, ((1 ≤ o ∧ o ≤ 29) ∨ (o < 30 ∨ 58 < o)) → σ3 o = σ o := fun o ho => (f3 o (by omega) (by omega)).trans (g2 o ho)
  obtain ⟨σ4, e4, r4, f4⟩ := r53_copy_24 (d + 1) m m1 σ3 _ (m3.fr (fun o o1 o2 => g3 o (by omega)))
  have g4 : ∀ o, ((1 ≤ o ∧ o ≤ 29) ∨ (o < 30 ∨ 58 < o)) → σ4 o = σ o := fun o ho => (f4 o (by omega) (by omega)).trans (g3 o ho)
  obtain ⟨σ5, e5, r5, f5⟩ := r55_copy_26 (d + 1) m m1 σ4 _ (m4.fr (fun o o1 o2 => g4 o (by omega)))
  have g5 : ∀ o, ((1 ≤ o ∧ o ≤ 29) ∨ (o < 30 ∨ 58 < o)) → σ5 o = σ o := fun o ho => (f5 o (by omega) (by omega)).trans (g4 o ho)
  obtain ⟨σ6, e6, r6, f6⟩ := r57_copy_28 (d + 1) k k1 σ5 _ (k3.fr (fun o o1 o2 => g5 o (by omega)))
  have g6 : ∀ o, ((1 ≤ o ∧ o ≤ 29) ∨ (o < 30 ∨ 58 < o)) → σ6 o = σ o := fun o ho => (f6 o (by omega) (by omega)).trans (g5 o ho)
  have q6 : σ6 1 6 = T 3 := by rw [g6 _ (by omega)]; exact h6
  have ff : ∀ o, o ≠ 30 → rep σ6 30 (upd (σ6 30) 6 (T 3)) o = σ6 o := fun o ho => rep_ne ho
  refine ⟨rep σ6 30 (upd (σ6 30) 6 (T 3)), ?_, ⟨?_, ?_, ⟨n, n1, n2, ?_⟩, ⟨m, m1, m2, ?_, ?_⟩, ⟨k, k1, k2, ?_⟩, ?_⟩, ?_⟩
  · simp only [c50, c50, s50_0, s50_1_o1, s50_1_o30, s50_4, s50_5_o1, s50_5_o30, s50_8_o2, s50_8_o31, s50_11, s50_12_o1, s50_12_o30, s50_15, s50_16_o1, s50_16_o30, s50_19_o13, s50_19_o42, s50_22, s50_23_o1, s50_23_o30, s50_26, s50_27_o1, s50_27_o30, s50_30_o22, s50_30_o51, s50_33, s50_34_o1, s50_34_o30, s50_37, s50_38_o1, s50_38_o30, s50_41_o24, s50_41_o53, s50_44, s50_45_o1, s50_45_o30, s50_48, s50_49_o1, s50_49_o30, s50_52_o26, s50_52_o55, s50_55, s50_56_o1, s50_56_o30, s50_59, s50_60_o1, s50_60_o30, s50_63_o28, s50_63_o57, s50_66, s50_67, s50_68_o1, s50_68_o30, s50_71_o1, s50_71_o30, s50_74, e1, e2, e3, e4, e5, e6, q6, up2_rep, simprocAttr, if_true, if_false, true_and, and_true, false_and, and_false, not_false_eq_true, not_true_eq_false, gd_T, kont_i, kont_v]
  · refine r1.fr (fun o o1 o2 => ?_)
    rw [ff o (by omega), f6 o (by omega) (by omega), f5 o (by omega) (by omega), f4 o (by omega) (by omega), f3 o (by omega) (by omega), f2 o (by omega)]
  · intro u hu cnt hc ec
    refine (r2 u hu cnt hc ec).fr (fun o o1 o2 => ?_)
    rw [ff o (by omega), f6 o (by omega) (by omega), f5 o (by omega) (by omega), f4 o (by omega) (by omega), f3 o (by omega) (by omega)]
  · refine r3.fr (fun o o1 o2 => ?_)
    rw [ff o (by omega), f6 o (by omega) (by omega), f5 o (by omega) (by omega), f4 o (by omega) (by omega)]
  · refine r4.fr (fun o o1 o2 => ?_)
    rw [ff o (by omega), f6 o (by omega) (by omega), f5 o (by omega) (by omega)]
  · refine r5.fr (fun o o1 o2 => ?_)
    rw [ff o (by omega), f6 o (by omega) (by omega)]
  · refine r6.fr (fun o o1 o2 => ?_)
    rw [ff o (by omega)]
  · rw [rep_self, upd_at, if_pos rfl]
  · intro o ho
    rw [ff o (by omega)]
    exact g6 o (Or.inr ho)
