/-! ===== the calls: image, restore, tell, untell, count, told ===== -/
theorem RR.row {i : Nat} {σ σ2 : Hs} {T' : Nat → Int32} (h : RR i σ) (e88 : σ2 88 = T') (hS : SR 1 σ2 T') (hT : TI T') (ag : ∀ a, (14 ≤ a ∧ a < 251) → T' a = σ 88 a) (hW : WB σ2) (f : ∀ o, (kpO o ∨ o = 85 ∨ o = 91) → σ2 o = σ o) (f3 : σ2 87 3 = σ 87 3) (f19 : σ2 87 19 = σ 87 19) : RR (i + 1) σ2 := by
  subst e88
  exact h.nx hS hT ((h.ph.mono (by omega)).cg ag) (h.er.fr (f 85 (by omega)) (f 91 (by omega))) hW (fun o ho => f o (Or.inl ho)) f3 f19
/-- the words that wait change -/
theorem SR.wait {σ σ' : Hs} {T T' : Nat → Int32} (h : SR 1 σ T) {n : Nat} (hn : n ≤ 24) (h2 : T' 2 = nI n) (hr : RW 28 n σ' (fun k => T' (335 + k))) (f : ∀ o, (1 ≤ o ∧ o ≤ 27) → σ' o = σ o) (e : ∀ a, a ≠ 2 → (a < 335 ∨ 359 ≤ a) → T' a = T a) : SR 1 σ' T' := by
  obtain ⟨h1, hl, ⟨t, t1, t2, t3⟩, ⟨m, m1, m2, m3, m4⟩, -, h6⟩ := h
  refine ⟨(h1.fr (fun o o1 o2 => f o (by omega))).cg (fun a ha => e a (by omega) (by omega)), fun u hu cnt hc ec => ?_, ⟨t, t1, ?_, ?_⟩, ⟨m, m1, ?_, ?_, ?_⟩, ⟨n, hn, h2, hr⟩, ?_⟩
  · rw [e _ (by omega) (by omega)] at ec
    exact ((hl u hu cnt hc ec).fr (σ' := σ') (fun o o1 o2 => f o (by omega))).cg (fun j hj => congrArg enI (e _ (by omega) (by omega)))
  · rw [e _ (by omega) (by omega)]; exact t2
  · exact (t3.fr (σ' := σ') (fun o o1 o2 => f o (by omega))).cg (fun j hj => e _ (by omega) (by omega))
  · rw [e _ (by omega) (by omega)]; exact m2
  · exact (m3.fr (σ' := σ') (fun o o1 o2 => f o (by omega))).cg (fun j hj => e _ (by omega) (by omega))
  · exact (m4.fr (σ' := σ') (fun o o1 o2 => f o (by omega))).cg (fun j hj => e _ (by omega) (by omega))
  · rw [f 1 (by omega), e _ (by omega) (by omega)]; exact h6
theorem TI.wait {T T' : Nat → Int32} (h : TI T) (e : ∀ a, a ≠ 2 → (a < 335 ∨ 359 ≤ a) → T' a = T a) : TI T' := by
  obtain ⟨h1, h2, h3⟩ := h
  refine ⟨h1.cg (fun a ha => e a (by omega) (by omega)), fun n hn en k hk => ?_, fun n hn en k hk => ?_⟩
  · rw [e _ (by omega) (by omega)] at en
    rw [e _ (by omega) (by omega)]; exact h2 n hn en k hk
  · rw [e _ (by omega) (by omega)] at en
    rw [e _ (by omega) (by omega), e _ (by omega) (by omega)]; exact h3 n hn en k hk
theorem RW.add {r n : Nat} {σ : Hs} {F : Nat → Int32} {v : Int32} (h : RW r n σ F) : RW r (n + 1) (rep (rep σ (r + 1) (upd (σ (r + 1)) n v)) r (upd (σ r) 1 (nI (n + 1)))) (upd F n v) := by
  refine ⟨?_, fun k hk => ?_⟩
  · rw [rep_self, upd_at, if_pos rfl]
  · rw [rep_ne (by omega), rep_self, upd_at, upd_at]
    by_cases c : k = n
    · rw [if_pos c, if_pos c]
    · rw [if_neg c, if_neg c]; exact h.2 k (by omega)
theorem L_tell {i : Nat} {σ : Hs} (h : RR i σ) (d : Nat) (v : Int32) : Step d i 95 210 [.int v] σ := by
  obtain ⟨n, ln, h2, hr⟩ := h.sr.2.2.2.2.1
  have hr : RW 28 n σ (fun k => σ 88 (335 + k)) := hr
  by_cases c : n = 24
  · subst c
    refine Step_err h 4 (v := -1000004) ?_ ?_
    · simp only [c95, s95_0, s95_1_o0, s95_4_o1, s95_7, s95_8_o28, s95_11, s95_14, s95_15_o0, s95_18_o1, s95_21_o28, s95_24, s95_27, s95_28, s95_29_o0, s95_32, r28_full _ v σ hr.1, k_failed_4, simprocAttr, if_true, if_false, true_and, and_true, false_and, and_false, not_false_eq_true, not_true_eq_false, gd_T, kont_i, kont_v]
    · have e : erC σ 4 88 2 = nI 24 := by rw [show erC σ 4 88 = σ 88 from rep_ne (by omega)]; exact h2
      simp only [c210, s210_0, s210_1_o87, s210_4, s210_5_o88, s210_6, s210_8, s210_11, s210_12, s210_14_o87, s210_17, s210_18, s210_19_o87, s210_22, s210_25, s210_26_o87, s210_29, s210_30_o88, s210_31, s210_32, s210_33_o88, s210_34, s210_35_o87, s210_38, s210_39, s210_40_o88, s210_41, s210_42, s210_43_o88, s210_44, s210_45_o87, s210_48, s210_49_o88, s210_50, vp_lit, e, show (nI 24 = 24) = True from eq_true rfl, m_fin_4, simprocAttr, if_true, if_false, true_and, and_true, false_and, and_false, not_false_eq_true, not_true_eq_false, gd_T, kont_i, kont_v]
  · have l24 : n < 24 := by omega
    have n31 : n < 2147483648 := by omega
    have ea := r28_add (d + 98) n l24 v σ hr.1
    have ra : RW 28 (n + 1) (rep (rep σ 29 (upd (σ 29) n v)) 28 (upd (σ 28) 1 (nI (n + 1)))) (upd (fun k => σ 88 (335 + k)) n v) := hr.add
    have c1 : callD (d + 100) 95 [.ref 0, .int v] σ = some (some (.int (nI (n + 1))), rep (rep σ 29 (upd (σ 29) n v)) 28 (upd (σ 28) 1 (nI (n + 1)))) := by
      simp only [c95, s95_0, s95_1_o0, s95_4_o1, s95_7, s95_8_o28, s95_11, s95_14, s95_15_o0, s95_18_o1, s95_21_o28, s95_24, s95_27, s95_28, s95_29_o0, s95_32, ea, ra.1, simprocAttr, if_true, if_false, true_and, and_true, false_and, and_false, not_false_eq_true, not_true_eq_false, gd_T, kont_i, kont_v]
    have e88 : rep (rep σ 29 (upd (σ 29) n v)) 28 (upd (σ 28) 1 (nI (n + 1))) 88 = σ 88 := (rep_ne (by omega)).trans (rep_ne (by omega))
    have ne : (nI n = 24) = False := by rw [show (24 : Int32) = nI 24 from rfl, eq_nn n31 (by omega)]; exact eq_false c
    have ix : (335 : Int32) + nI n = nI (335 + n) := nI_add 335 n
    have c2 : callD (d + 100) 210 [.ref 87, .int v] (rep (rep σ 29 (upd (σ 29) n v)) 28 (upd (σ 28) 1 (nI (n + 1)))) = some (some (.int (nI (n + 1))), rep (rep (rep σ 29 (upd (σ 29) n v)) 28 (upd (σ 28) 1 (nI (n + 1)))) 88 (upd (upd (σ 88) (335 + n) v) 2 (nI (n + 1)))) := by
      simp only [c210, s210_0, s210_1_o87, s210_4, s210_5_o88, s210_6, s210_8, s210_11, s210_12, s210_14_o87, s210_17, s210_18, s210_19_o87, s210_22, s210_25, s210_26_o87, s210_29, s210_30_o88, s210_31, s210_32, s210_33_o88, s210_34, s210_35_o87, s210_38, s210_39, s210_40_o88, s210_41, s210_42, s210_43_o88, s210_44, s210_45_o87, s210_48, s210_49_o88, s210_50, vp_lit, e88, h2, ne, ix, vp_nI (show 335 + n < 545 by omega), cl_nI (show 335 + n < 2147483648 by omega), up2_rep, rep_self, rep_rep, upd_at, show (2 = 335 + n) = False from eq_false (by omega), nI_1, simprocAttr, if_true, if_false, true_and, and_true, false_and, and_false, not_false_eq_true, not_true_eq_false, gd_T, kont_i, kont_v]
    have ee : ∀ a, a ≠ 2 → (a < 335 ∨ 359 ≤ a) → upd (upd (σ 88) (335 + n) v) 2 (nI (n + 1)) a = σ 88 a := fun a a1 a2 => by rw [upd_at, if_neg a1, upd_at, if_neg (by omega)]
    refine ⟨_, _, _, c1, c2, h.row (rep_self _ _ _) (h.sr.wait (n := n + 1) (by omega) (by rw [upd_at, if_pos rfl]) ?_ (fun o ho => ?_) ee) (h.ti.wait ee) (fun a ha => ee a (by omega) (by omega)) (h.wb.two c1 c2) (fun o ho => ?_) ?_ ?_⟩
    · refine (ra.fr (fun o o1 o2 => rep_ne (by omega))).cg (fun k hk => ?_)
      simp only [upd_at]
      rw [if_neg (by omega)]
      by_cases ck : k = n
      · rw [if_pos (by omega), if_pos ck]
      · rw [if_neg (by omega), if_neg ck]
    · rw [rep_ne (by omega), rep_ne (by omega), rep_ne (by omega)]
    · unfold kpO at ho
      rw [rep_ne (by omega), rep_ne (by omega), rep_ne (by omega)]
    · rw [rep_ne (by omega), rep_ne (by omega), rep_ne (by omega)]
    · rw [rep_ne (by omega), rep_ne (by omega), rep_ne (by omega)]
theorem L_image {i : Nat} {σ : Hs} (h : RR i σ) (d : Nat) : Step d i 93 208 [] σ := by
  obtain ⟨σ1, e1, r1, f1⟩ := s30_copy (d + 96) σ (σ 88) h.sr h.ti.L h.wb
  have g8 : σ1 0 8 = σ 87 3 := by rw [f1 0 (by omega)]; exact h.2.2.2.1.1
  have c1 : callD (d + 100) 93 [.ref 0] σ = some (some (.int (σ 87 3 + 1)), rep σ1 0 (upd (σ1 0) 8 (σ 87 3 + 1))) := by
    simp only [c93, s93_0, s93_1_o0, s93_4, s93_5_o0, s93_8_o30, s93_11, s93_12, s93_13_o0, s93_16, s93_17, s93_18_o0, s93_21, s93_22_o0, s93_25, e1, g8, up2_rep, rep_at, upd_at, simprocAttr, if_true, if_false, true_and, and_true, false_and, and_false, not_false_eq_true, not_true_eq_false, gd_T, kont_i, kont_v]
  have W1 := callD_WB _ _ _ _ _ _ h.wb c1
  have ff : ∀ o, o ≠ 0 → (o < 30 ∨ 58 < o) → rep σ1 0 (upd (σ1 0) 8 (σ 87 3 + 1)) o = σ o := fun o o0 o1 => (rep_ne o0).trans (f1 o o1)
  have ec : callD (d + 99) 115 [.ref 88, .ref 89] (rep σ1 0 (upd (σ1 0) 8 (σ 87 3 + 1))) = some (none, rep (rep σ1 0 (upd (σ1 0) 8 (σ 87 3 + 1))) 89 (σ 88)) := by
    have := m_copy_88_89 (d + 98) (rep σ1 0 (upd (σ1 0) 8 (σ 87 3 + 1)))
    rw [cpT_w (W1.at88 (Or.inl rfl)) (W1.at88 (Or.inr (Or.inl rfl))), ff 88 (by omega) (by omega)] at this
    exact this
  have g3 : rep σ1 0 (upd (σ1 0) 8 (σ 87 3 + 1)) 87 3 = σ 87 3 := by rw [ff 87 (by omega) (by omega)]
  have c2 : callD (d + 100) 208 [.ref 87] (rep σ1 0 (upd (σ1 0) 8 (σ 87 3 + 1))) = some (some (.int (σ 87 3 + 1)), rep (rep (rep σ1 0 (upd (σ1 0) 8 (σ 87 3 + 1))) 89 (σ 88)) 87 (upd (σ 87) 3 (σ 87 3 + 1))) := by
    have q87 : rep (rep σ1 0 (upd (σ1 0) 8 (σ 87 3 + 1))) 89 (σ 88) 87 = σ 87 := (rep_ne (by omega)).trans (ff 87 (by omega) (by omega))
    simp only [c208, s208_0, s208_1_o87, s208_4, s208_5_o87, s208_8, s208_11, s208_12, s208_13_o87, s208_16, s208_17, s208_18_o87, s208_21, s208_22_o87, s208_25, ec, q87, up2_rep, rep_self, upd_at, simprocAttr, if_true, if_false, true_and, and_true, false_and, and_false, not_false_eq_true, not_true_eq_false, gd_T, kont_i, kont_v]
  have fo : ∀ o, o ≠ 0 → (o < 30 ∨ 58 < o) → o ≠ 87 → o ≠ 89 → rep (rep (rep σ1 0 (upd (σ1 0) 8 (σ 87 3 + 1))) 89 (σ 88)) 87 (upd (σ 87) 3 (σ 87 3 + 1)) o = σ o := fun o o1 o2 o3 o4 => (rep_ne o3).trans ((rep_ne o4).trans (ff o o1 o2))
  have W2 := h.wb.two c1 c2
  obtain ⟨hs, ht, hp, -, he, hv, hsh, hco, -⟩ := id h
  refine ⟨_, _, _, c1, c2, ?_, ?_, ?_, ⟨?_, Or.inr ⟨?_, ?_, ?_⟩⟩, he.fr (fo 85 (by omega) (by omega) (by omega) (by omega)) (fo 91 (by omega) (by omega) (by omega) (by omega)), hv.fr (fun o ho => fo o (by omega) (by omega) (by omega) (by omega)) ?_, hsh.fr (fun o ho => fo o (by omega) (by omega) (by omega) (by omega)), hco.fr (fun o ho => fo o (by omega) (by omega) (by omega) (by omega)), W2⟩
  · rw [fo 88 (by omega) (by omega) (by omega) (by omega)]
    exact hs.fr (fun o o1 o2 => fo o (by omega) (by omega) (by omega) (by omega))
  · rw [fo 88 (by omega) (by omega) (by omega) (by omega)]; exact ht
  · rw [fo 88 (by omega) (by omega) (by omega) (by omega)]; exact hp.mono (by omega)
  · rw [rep_ne (by omega), rep_ne (by omega), rep_self, rep_self, upd_at, upd_at, if_pos rfl, if_pos rfl]
  · rw [rep_ne (show 89 ≠ 87 by omega), rep_self]
    exact r1.fr (fun o o1 o2 => (rep_ne (by omega)).trans ((rep_ne (by omega)).trans (rep_ne (by omega))))
  · rw [rep_ne (show 89 ≠ 87 by omega), rep_self]; exact ht
  · rw [rep_ne (show 89 ≠ 87 by omega), rep_self]; exact hp.mono (by omega)
  · rw [rep_self, upd_at, if_neg (by omega)]
theorem L_restore {i : Nat} {σ : Hs} (h : RR i σ) (d : Nat) : Step d i 94 209 [] σ := by
  obtain ⟨k1, k2⟩ := h.2.2.2.1
  by_cases c : σ 87 3 = 0
  · refine Step_err h 2 (v := -1000002) ?_ ?_
    · simp only [c94, s94_0, s94_1_o0, s94_4, s94_7, s94_8, s94_9_o0, s94_12, s94_13, s94_14_o0, s94_17, s94_18_o0, s94_21_o1, s94_24, s94_25_o0, s94_28_o1, s94_31_o2, s94_34, k1, c, k_failed_2, simprocAttr, if_true, if_false, true_and, and_true, false_and, and_false, not_false_eq_true, not_true_eq_false, gd_T, kont_i, kont_v]
    · have e : erC σ 2 87 3 = 0 := by rw [show erC σ 2 87 = σ 87 from rep_ne (by omega)]; exact c
      simp only [c209, s209_0, s209_1_o87, s209_4, s209_7, s209_8, s209_10_o87, s209_13, s209_14, s209_15_o87, s209_18, s209_19_o87, s209_22, s209_25, s209_26_o87, s209_29, s209_30_o88, s209_31, e, m_fin_2, simprocAttr, if_true, if_false, true_and, and_true, false_and, and_false, not_false_eq_true, not_true_eq_false, gd_T, kont_i, kont_v]
  · obtain ⟨k3, k4, k5⟩ := k2.resolve_left c
    obtain ⟨σ1, e1, r1, f1⟩ := s1_copy (d + 96) σ (σ 89) k3 k4.L h.wb
    have g13 : σ1 2 13 = σ 89 0 := r1.1.2.2.2.2.2.2.2
    have c' := eq_false c
    have c1 : callD (d + 100) 94 [.ref 0] σ = some (some (.int (σ 89 0)), σ1) := by
      simp only [c94, s94_0, s94_1_o0, s94_4, s94_7, s94_8, s94_9_o0, s94_12, s94_13, s94_14_o0, s94_17, s94_18_o0, s94_21_o1, s94_24, s94_25_o0, s94_28_o1, s94_31_o2, s94_34, k1, c', e1, g13, simprocAttr, if_true, if_false, true_and, and_true, false_and, and_false, not_false_eq_true, not_true_eq_false, gd_T, kont_i, kont_v]
    have W1 := callD_WB _ _ _ _ _ _ h.wb c1
    have ec : callD (d + 99) 115 [.ref 89, .ref 88] σ1 = some (none, rep σ1 88 (σ 89)) := by
      have := m_copy_89_88 (d + 98) σ1
      rw [cpT_w (W1.at88 (Or.inr (Or.inl rfl))) (W1.at88 (Or.inl rfl)), f1 89 (by omega)] at this
      exact this
    have q3 : σ1 87 3 = σ 87 3 := by rw [f1 87 (by omega)]
    have c2 : callD (d + 100) 209 [.ref 87] σ1 = some (some (.int (σ 89 0)), rep σ1 88 (σ 89)) := by
      simp only [c209, s209_0, s209_1_o87, s209_4, s209_7, s209_8, s209_10_o87, s209_13, s209_14, s209_15_o87, s209_18, s209_19_o87, s209_22, s209_25, s209_26_o87, s209_29, s209_30_o88, s209_31, q3, c', ec, vp_lit, rep_self, simprocAttr, if_true, if_false, true_and, and_true, false_and, and_false, not_false_eq_true, not_true_eq_false, gd_T, kont_i, kont_v]
    have fo : ∀ o, (o < 1 ∨ 29 < o) → o ≠ 88 → rep σ1 88 (σ 89) o = σ o := fun o o1 o2 => (rep_ne o2).trans (f1 o o1)
    refine ⟨_, _, _, c1, c2, h.nx ?_ ?_ ?_ (h.er.fr (fo 85 (by omega) (by omega)) (fo 91 (by omega) (by omega))) (h.wb.two c1 c2) (fun o ho => fo o (by unfold kpO at ho; omega) (by unfold kpO at ho; omega)) (by rw [fo 87 (by omega) (by omega)]) (by rw [fo 87 (by omega) (by omega)])⟩
    · rw [rep_self]; exact r1.fr (fun o o1 o2 => rep_ne (by omega))
    · rw [rep_self]; exact k4
    · rw [rep_self]; exact k5.mono (by omega)
theorem L_told {i : Nat} {σ : Hs} (h : RR i σ) (d : Nat) (v : Int32) : Step d i 98 213 [.int v] σ := by
  by_cases hv : 1 ≤ v ∧ v ≤ 6
  · have hvt := eq_true hv
    obtain ⟨k, k1, k6, rfl⟩ := within_n (a := 1) (b := 6) hv rfl rfl (by omega) (by omega)
    have k31 : k < 2147483648 := by omega
    have k7 : k < 7 := by omega
    have e := h.er k k1 k7
    refine ⟨σ 91 k, σ, σ, ?_, ?_, h.same⟩
    · simp only [c98, s98_0, s98_1, s98_2, s98_4, s98_7, s98_10, s98_11_o0, s98_14, s98_15_o85, s98_16, s98_19, s98_20, s98_21_o0, s98_24, k_within, hvt, b2_t, vp_nI k7, cl_nI k31, e, simprocAttr, if_true, if_false, true_and, and_true, false_and, and_false, not_false_eq_true, not_true_eq_false, gd_T, kont_i, kont_v]
    · simp only [c213, s213_0, s213_1, s213_2, s213_4, s213_7, s213_10, s213_11_o87, s213_14, s213_15_o91, s213_16, s213_19, s213_20, s213_22_o87, s213_25, m_within, hvt, b2_t, vp_nI k7, cl_nI k31, simprocAttr, if_true, if_false, true_and, and_true, false_and, and_false, not_false_eq_true, not_true_eq_false, gd_T, kont_i, kont_v]
  · have hvf := eq_false hv
    refine Step_err h 1 (v := -1000001) ?_ ?_
    · simp only [c98, s98_0, s98_1, s98_2, s98_4, s98_7, s98_10, s98_11_o0, s98_14, s98_15_o85, s98_16, s98_19, s98_20, s98_21_o0, s98_24, k_within, hvf, b2_f, k_failed_1, simprocAttr, if_true, if_false, true_and, and_true, false_and, and_false, not_false_eq_true, not_true_eq_false, gd_T, kont_i, kont_v]
    · simp only [c213, s213_0, s213_1, s213_2, s213_4, s213_7, s213_10, s213_11_o87, s213_14, s213_15_o91, s213_16, s213_19, s213_20, s213_22_o87, s213_25, m_within, hvf, b2_f, m_fin_1, simprocAttr, if_true, if_false, true_and, and_true, false_and, and_false, not_false_eq_true, not_true_eq_false, gd_T, kont_i, kont_v]
theorem L_count {i : Nat} {σ : Hs} (h : RR i σ) (d : Nat) (v : Int32) : Step d i 97 212 [.int v] σ := by
  obtain ⟨t, t1, t2, t3⟩ := h.sr.2.2.1
  obtain ⟨m, m1, m2, m3, m4⟩ := h.sr.2.2.2.1
  obtain ⟨n, n1, n2, n3⟩ := h.sr.2.2.2.2.1
  obtain ⟨q, q1, q2, q3, q4⟩ := h.2.2.2.2.2.1
  have x0 := h2_howMany (d + 97) σ (σ 88) h.hr h.wi.P
  have x1 : σ 2 13 = σ 88 0 := h.hr.2.2.2.2.2.2.2
  have x2 : σ 24 1 = nI m := m3.1
  have x3 : σ 9 0 = σ 88 4 := h.hr.2.2.1 0 (by omega)
  have x4 : σ 22 1 = nI t := t3.1
  have x5 : σ 28 1 = nI n := n3.1
  have x7 : σ 1 6 = σ 88 3 := h.sr.2.2.2.2.2
  by_cases h0 : v = 0
  · subst h0
    exact ⟨sumU (σ 88) 0 30, σ, σ, by simp only [c97, s97_0, s97_1, s97_48, s97_49_o0, s97_52_o1, s97_55_o2, s97_58, s97_59, s97_60_o0, s97_63_o1, s97_66_o2, s97_69, s97_70, s97_71_o0, s97_74_o1, s97_77_o24, s97_80, s97_81, s97_82_o0, s97_85_o1, s97_88_o2, s97_91, s97_92_o9, s97_93, s97_94, s97_95_o0, s97_98_o1, s97_101_o22, s97_104, s97_105, s97_106_o0, s97_109_o1, s97_112_o28, s97_115, s97_116, s97_117_o0, s97_120_o73, s97_123_o74, s97_126, s97_127, s97_128_o0, s97_131_o1, s97_134, s97_135, s97_136, s97_137_o0, s97_140, x0, simprocAttr, if_true, if_false, true_and, and_true, false_and, and_false, not_false_eq_true, not_true_eq_false, gd_T, kont_i, kont_v], by simp only [c212, s212_0, s212_1, s212_48, s212_49, s212_50_o87, s212_53, s212_54, s212_55_o87, s212_58, s212_59_o88, s212_60, s212_61, s212_62_o87, s212_65, s212_67_o88, s212_68, s212_69, s212_70_o87, s212_73, s212_74_o88, s212_75, s212_76, s212_77_o87, s212_80, s212_81_o88, s212_82, s212_83, s212_84_o87, s212_87, s212_88_o88, s212_89, s212_90, s212_91_o87, s212_94, s212_95, s212_96_o87, s212_99, s212_100_o88, s212_101, s212_102, s212_103, s212_105_o87, s212_108, m_sum_0, simprocAttr, if_true, if_false, true_and, and_true, false_and, and_false, not_false_eq_true, not_true_eq_false, gd_T, kont_i, kont_v], h.same⟩
  by_cases h1 : v = 1
  · subst h1
    exact ⟨σ 88 0, σ, σ, by simp only [c97, s97_0, s97_1, s97_48, s97_49_o0, s97_52_o1, s97_55_o2, s97_58, s97_59, s97_60_o0, s97_63_o1, s97_66_o2, s97_69, s97_70, s97_71_o0, s97_74_o1, s97_77_o24, s97_80, s97_81, s97_82_o0, s97_85_o1, s97_88_o2, s97_91, s97_92_o9, s97_93, s97_94, s97_95_o0, s97_98_o1, s97_101_o22, s97_104, s97_105, s97_106_o0, s97_109_o1, s97_112_o28, s97_115, s97_116, s97_117_o0, s97_120_o73, s97_123_o74, s97_126, s97_127, s97_128_o0, s97_131_o1, s97_134, s97_135, s97_136, s97_137_o0, s97_140, x1, simprocAttr, if_true, if_false, true_and, and_true, false_and, and_false, not_false_eq_true, not_true_eq_false, gd_T, kont_i, kont_v], by simp only [c212, s212_0, s212_1, s212_48, s212_49, s212_50_o87, s212_53, s212_54, s212_55_o87, s212_58, s212_59_o88, s212_60, s212_61, s212_62_o87, s212_65, s212_67_o88, s212_68, s212_69, s212_70_o87, s212_73, s212_74_o88, s212_75, s212_76, s212_77_o87, s212_80, s212_81_o88, s212_82, s212_83, s212_84_o87, s212_87, s212_88_o88, s212_89, s212_90, s212_91_o87, s212_94, s212_95, s212_96_o87, s212_99, s212_100_o88, s212_101, s212_102, s212_103, s212_105_o87, s212_108, vp_lit, simprocAttr, if_true, if_false, true_and, and_true, false_and, and_false, not_false_eq_true, not_true_eq_false, gd_T, kont_i, kont_v], h.same⟩
  by_cases h2 : v = 2
  · subst h2
    exact ⟨nI m, σ, σ, by simp only [c97, s97_0, s97_1, s97_48, s97_49_o0, s97_52_o1, s97_55_o2, s97_58, s97_59, s97_60_o0, s97_63_o1, s97_66_o2, s97_69, s97_70, s97_71_o0, s97_74_o1, s97_77_o24, s97_80, s97_81, s97_82_o0, s97_85_o1, s97_88_o2, s97_91, s97_92_o9, s97_93, s97_94, s97_95_o0, s97_98_o1, s97_101_o22, s97_104, s97_105, s97_106_o0, s97_109_o1, s97_112_o28, s97_115, s97_116, s97_117_o0, s97_120_o73, s97_123_o74, s97_126, s97_127, s97_128_o0, s97_131_o1, s97_134, s97_135, s97_136, s97_137_o0, s97_140, x2, simprocAttr, if_true, if_false, true_and, and_true, false_and, and_false, not_false_eq_true, not_true_eq_false, gd_T, kont_i, kont_v], by simp only [c212, s212_0, s212_1, s212_48, s212_49, s212_50_o87, s212_53, s212_54, s212_55_o87, s212_58, s212_59_o88, s212_60, s212_61, s212_62_o87, s212_65, s212_67_o88, s212_68, s212_69, s212_70_o87, s212_73, s212_74_o88, s212_75, s212_76, s212_77_o87, s212_80, s212_81_o88, s212_82, s212_83, s212_84_o87, s212_87, s212_88_o88, s212_89, s212_90, s212_91_o87, s212_94, s212_95, s212_96_o87, s212_99, s212_100_o88, s212_101, s212_102, s212_103, s212_105_o87, s212_108, vp_lit, m2, simprocAttr, if_true, if_false, true_and, and_true, false_and, and_false, not_false_eq_true, not_true_eq_false, gd_T, kont_i, kont_v], h.same⟩
  by_cases h3 : v = 3
  · subst h3
    exact ⟨σ 88 4, σ, σ, by simp only [c97, s97_0, s97_1, s97_48, s97_49_o0, s97_52_o1, s97_55_o2, s97_58, s97_59, s97_60_o0, s97_63_o1, s97_66_o2, s97_69, s97_70, s97_71_o0, s97_74_o1, s97_77_o24, s97_80, s97_81, s97_82_o0, s97_85_o1, s97_88_o2, s97_91, s97_92_o9, s97_93, s97_94, s97_95_o0, s97_98_o1, s97_101_o22, s97_104, s97_105, s97_106_o0, s97_109_o1, s97_112_o28, s97_115, s97_116, s97_117_o0, s97_120_o73, s97_123_o74, s97_126, s97_127, s97_128_o0, s97_131_o1, s97_134, s97_135, s97_136, s97_137_o0, s97_140, vp_lit, x3, simprocAttr, if_true, if_false, true_and, and_true, false_and, and_false, not_false_eq_true, not_true_eq_false, gd_T, kont_i, kont_v], by simp only [c212, s212_0, s212_1, s212_48, s212_49, s212_50_o87, s212_53, s212_54, s212_55_o87, s212_58, s212_59_o88, s212_60, s212_61, s212_62_o87, s212_65, s212_67_o88, s212_68, s212_69, s212_70_o87, s212_73, s212_74_o88, s212_75, s212_76, s212_77_o87, s212_80, s212_81_o88, s212_82, s212_83, s212_84_o87, s212_87, s212_88_o88, s212_89, s212_90, s212_91_o87, s212_94, s212_95, s212_96_o87, s212_99, s212_100_o88, s212_101, s212_102, s212_103, s212_105_o87, s212_108, vp_lit, simprocAttr, if_true, if_false, true_and, and_true, false_and, and_false, not_false_eq_true, not_true_eq_false, gd_T, kont_i, kont_v], h.same⟩
  by_cases h4 : v = 4
  · subst h4
    exact ⟨nI t, σ, σ, by simp only [c97, s97_0, s97_1, s97_48, s97_49_o0, s97_52_o1, s97_55_o2, s97_58, s97_59, s97_60_o0, s97_63_o1, s97_66_o2, s97_69, s97_70, s97_71_o0, s97_74_o1, s97_77_o24, s97_80, s97_81, s97_82_o0, s97_85_o1, s97_88_o2, s97_91, s97_92_o9, s97_93, s97_94, s97_95_o0, s97_98_o1, s97_101_o22, s97_104, s97_105, s97_106_o0, s97_109_o1, s97_112_o28, s97_115, s97_116, s97_117_o0, s97_120_o73, s97_123_o74, s97_126, s97_127, s97_128_o0, s97_131_o1, s97_134, s97_135, s97_136, s97_137_o0, s97_140, x4, simprocAttr, if_true, if_false, true_and, and_true, false_and, and_false, not_false_eq_true, not_true_eq_false, gd_T, kont_i, kont_v], by simp only [c212, s212_0, s212_1, s212_48, s212_49, s212_50_o87, s212_53, s212_54, s212_55_o87, s212_58, s212_59_o88, s212_60, s212_61, s212_62_o87, s212_65, s212_67_o88, s212_68, s212_69, s212_70_o87, s212_73, s212_74_o88, s212_75, s212_76, s212_77_o87, s212_80, s212_81_o88, s212_82, s212_83, s212_84_o87, s212_87, s212_88_o88, s212_89, s212_90, s212_91_o87, s212_94, s212_95, s212_96_o87, s212_99, s212_100_o88, s212_101, s212_102, s212_103, s212_105_o87, s212_108, vp_lit, t2, simprocAttr, if_true, if_false, true_and, and_true, false_and, and_false, not_false_eq_true, not_true_eq_false, gd_T, kont_i, kont_v], h.same⟩
  by_cases h5 : v = 5
  · subst h5
    exact ⟨nI n, σ, σ, by simp only [c97, s97_0, s97_1, s97_48, s97_49_o0, s97_52_o1, s97_55_o2, s97_58, s97_59, s97_60_o0, s97_63_o1, s97_66_o2, s97_69, s97_70, s97_71_o0, s97_74_o1, s97_77_o24, s97_80, s97_81, s97_82_o0, s97_85_o1, s97_88_o2, s97_91, s97_92_o9, s97_93, s97_94, s97_95_o0, s97_98_o1, s97_101_o22, s97_104, s97_105, s97_106_o0, s97_109_o1, s97_112_o28, s97_115, s97_116, s97_117_o0, s97_120_o73, s97_123_o74, s97_126, s97_127, s97_128_o0, s97_131_o1, s97_134, s97_135, s97_136, s97_137_o0, s97_140, x5, simprocAttr, if_true, if_false, true_and, and_true, false_and, and_false, not_false_eq_true, not_true_eq_false, gd_T, kont_i, kont_v], by simp only [c212, s212_0, s212_1, s212_48, s212_49, s212_50_o87, s212_53, s212_54, s212_55_o87, s212_58, s212_59_o88, s212_60, s212_61, s212_62_o87, s212_65, s212_67_o88, s212_68, s212_69, s212_70_o87, s212_73, s212_74_o88, s212_75, s212_76, s212_77_o87, s212_80, s212_81_o88, s212_82, s212_83, s212_84_o87, s212_87, s212_88_o88, s212_89, s212_90, s212_91_o87, s212_94, s212_95, s212_96_o87, s212_99, s212_100_o88, s212_101, s212_102, s212_103, s212_105_o87, s212_108, vp_lit, n2, simprocAttr, if_true, if_false, true_and, and_true, false_and, and_false, not_false_eq_true, not_true_eq_false, gd_T, kont_i, kont_v], h.same⟩
  by_cases h6 : v = 6
  · subst h6
    exact ⟨nI q, σ, σ, by simp only [c97, s97_0, s97_1, s97_48, s97_49_o0, s97_52_o1, s97_55_o2, s97_58, s97_59, s97_60_o0, s97_63_o1, s97_66_o2, s97_69, s97_70, s97_71_o0, s97_74_o1, s97_77_o24, s97_80, s97_81, s97_82_o0, s97_85_o1, s97_88_o2, s97_91, s97_92_o9, s97_93, s97_94, s97_95_o0, s97_98_o1, s97_101_o22, s97_104, s97_105, s97_106_o0, s97_109_o1, s97_112_o28, s97_115, s97_116, s97_117_o0, s97_120_o73, s97_123_o74, s97_126, s97_127, s97_128_o0, s97_131_o1, s97_134, s97_135, s97_136, s97_137_o0, s97_140, q2, simprocAttr, if_true, if_false, true_and, and_true, false_and, and_false, not_false_eq_true, not_true_eq_false, gd_T, kont_i, kont_v], by simp only [c212, s212_0, s212_1, s212_48, s212_49, s212_50_o87, s212_53, s212_54, s212_55_o87, s212_58, s212_59_o88, s212_60, s212_61, s212_62_o87, s212_65, s212_67_o88, s212_68, s212_69, s212_70_o87, s212_73, s212_74_o88, s212_75, s212_76, s212_77_o87, s212_80, s212_81_o88, s212_82, s212_83, s212_84_o87, s212_87, s212_88_o88, s212_89, s212_90, s212_91_o87, s212_94, s212_95, s212_96_o87, s212_99, s212_100_o88, s212_101, s212_102, s212_103, s212_105_o87, s212_108, q3, simprocAttr, if_true, if_false, true_and, and_true, false_and, and_false, not_false_eq_true, not_true_eq_false, gd_T, kont_i, kont_v], h.same⟩
  by_cases h7 : v = 7
  · subst h7
    exact ⟨σ 88 3, σ, σ, by simp only [c97, s97_0, s97_1, s97_48, s97_49_o0, s97_52_o1, s97_55_o2, s97_58, s97_59, s97_60_o0, s97_63_o1, s97_66_o2, s97_69, s97_70, s97_71_o0, s97_74_o1, s97_77_o24, s97_80, s97_81, s97_82_o0, s97_85_o1, s97_88_o2, s97_91, s97_92_o9, s97_93, s97_94, s97_95_o0, s97_98_o1, s97_101_o22, s97_104, s97_105, s97_106_o0, s97_109_o1, s97_112_o28, s97_115, s97_116, s97_117_o0, s97_120_o73, s97_123_o74, s97_126, s97_127, s97_128_o0, s97_131_o1, s97_134, s97_135, s97_136, s97_137_o0, s97_140, x7, simprocAttr, if_true, if_false, true_and, and_true, false_and, and_false, not_false_eq_true, not_true_eq_false, gd_T, kont_i, kont_v], by simp only [c212, s212_0, s212_1, s212_48, s212_49, s212_50_o87, s212_53, s212_54, s212_55_o87, s212_58, s212_59_o88, s212_60, s212_61, s212_62_o87, s212_65, s212_67_o88, s212_68, s212_69, s212_70_o87, s212_73, s212_74_o88, s212_75, s212_76, s212_77_o87, s212_80, s212_81_o88, s212_82, s212_83, s212_84_o87, s212_87, s212_88_o88, s212_89, s212_90, s212_91_o87, s212_94, s212_95, s212_96_o87, s212_99, s212_100_o88, s212_101, s212_102, s212_103, s212_105_o87, s212_108, vp_lit, simprocAttr, if_true, if_false, true_and, and_true, false_and, and_false, not_false_eq_true, not_true_eq_false, gd_T, kont_i, kont_v], h.same⟩
  refine Step_err h 1 (v := -1000001) ?_ ?_
  · simp only [c97, s97_0, s97_1, s97_48, s97_49_o0, s97_52_o1, s97_55_o2, s97_58, s97_59, s97_60_o0, s97_63_o1, s97_66_o2, s97_69, s97_70, s97_71_o0, s97_74_o1, s97_77_o24, s97_80, s97_81, s97_82_o0, s97_85_o1, s97_88_o2, s97_91, s97_92_o9, s97_93, s97_94, s97_95_o0, s97_98_o1, s97_101_o22, s97_104, s97_105, s97_106_o0, s97_109_o1, s97_112_o28, s97_115, s97_116, s97_117_o0, s97_120_o73, s97_123_o74, s97_126, s97_127, s97_128_o0, s97_131_o1, s97_134, s97_135, s97_136, s97_137_o0, s97_140, h0, h1, h2, h3, h4, h5, h6, h7, k_failed_1, simprocAttr, if_true, if_false, true_and, and_true, false_and, and_false, not_false_eq_true, not_true_eq_false, gd_T, kont_i, kont_v]
  · simp only [c212, s212_0, s212_1, s212_48, s212_49, s212_50_o87, s212_53, s212_54, s212_55_o87, s212_58, s212_59_o88, s212_60, s212_61, s212_62_o87, s212_65, s212_67_o88, s212_68, s212_69, s212_70_o87, s212_73, s212_74_o88, s212_75, s212_76, s212_77_o87, s212_80, s212_81_o88, s212_82, s212_83, s212_84_o87, s212_87, s212_88_o88, s212_89, s212_90, s212_91_o87, s212_94, s212_95, s212_96_o87, s212_99, s212_100_o88, s212_101, s212_102, s212_103, s212_105_o87, s212_108, h0, h1, h2, h3, h4, h5, h6, h7, m_fin_1, simprocAttr, if_true, if_false, true_and, and_true, false_and, and_false, not_false_eq_true, not_true_eq_false, gd_T, kont_i, kont_v]
/-- a law changes -/
theorem SR.law {σ σ' : Hs} {T T' : Nat → Int32} (h : SR 1 σ T) (hL : LQ 16 σ' T') (f : ∀ o, ((1 ≤ o ∧ o ≤ 12) ∨ (22 ≤ o ∧ o ≤ 29)) → σ' o = σ o) (e : ∀ a, a < 359 → T' a = T a) : SR 1 σ' T' := by
  obtain ⟨h1, -, ⟨t, t1, t2, t3⟩, ⟨m, m1, m2, m3, m4⟩, ⟨n, n1, n2, n3⟩, h6⟩ := h
  refine ⟨(h1.fr (fun o o1 o2 => f o (by omega))).cg (fun a ha => e a (by omega)), hL, ⟨t, t1, ?_, ?_⟩, ⟨m, m1, ?_, ?_, ?_⟩, ⟨n, n1, ?_, ?_⟩, ?_⟩
  · rw [e _ (by omega)]; exact t2
  · exact (t3.fr (σ' := σ') (fun o o1 o2 => f o (by omega))).cg (fun j hj => e _ (by omega))
  · rw [e _ (by omega)]; exact m2
  · exact (m3.fr (σ' := σ') (fun o o1 o2 => f o (by omega))).cg (fun j hj => e _ (by omega))
  · exact (m4.fr (σ' := σ') (fun o o1 o2 => f o (by omega))).cg (fun j hj => e _ (by omega))
  · rw [e _ (by omega)]; exact n2
  · exact (n3.fr (σ' := σ') (fun o o1 o2 => f o (by omega))).cg (fun j hj => e _ (by omega))
  · rw [f 1 (by omega), e _ (by omega)]; exact h6
theorem TI.law {T T' : Nat → Int32} (h : TI T) (hL : LWT T' 0 ∧ LWT T' 1 ∧ LWT T' 2) (e : ∀ a, a < 359 → T' a = T a) : TI T' := by
  obtain ⟨⟨hW, ⟨-, -, ⟨g, g1, g2⟩, w, w1, w2⟩, hG, h11, h12⟩, h2, h3⟩ := h
  have ef : ∀ p f, p < 30 → f < 7 → ofT T' p f = ofT T p f := fun p f hp hf => e _ (by omega)
  have hW' : WI T' := hW.of ef
  refine ⟨⟨hW', ⟨hL, hW'.K, ⟨g, g1, (e 8 (by omega)).trans g2⟩, w, w1, (e 6 (by omega)).trans w2⟩, fun q hq => ?_, ?_, ?_⟩, fun n hn en k hk => ?_, fun n hn en k hk => ?_⟩
  · rw [e _ (by omega), e _ (by omega)]; exact hG q hq
  · rw [e _ (by omega)]; exact h11
  · rw [e _ (by omega)]; exact h12
  · rw [e _ (by omega)] at en
    rw [e _ (by omega)]; exact h2 n hn en k hk
  · rw [e _ (by omega)] at en
    rw [e _ (by omega), e _ (by omega)]; exact h3 n hn en k hk
