/-! ===== the class: burnAt, burn ===== -/
theorem glS_lo {T : Nat → Int32} {p s a : Nat} (h : a < 14) : glS T p s a = T a := by
  cases hb : besN p s with
  | none => rw [glS_none hb]
  | some x =>
    rw [glS_some hb]
    unfold gvT
    split
    · unfold waT
      rw [teT_lo h, teT_lo h]
    · rfl
theorem glF_lo {T : Nat → Int32} {p a : Nat} (h : a < 14) : ∀ n, glF T p n a = T a
  | 0 => rfl
  | n + 1 => (glS_lo h).trans (glF_lo h n)
theorem gwT_lo {T : Nat → Int32} {p a : Nat} (h : a < 14) : gwT T p a = T a := coT_cases _ p (fun X => X a = T a) (fun X f v _ _ hx => (teT_lo h).trans hx) (glF_lo h 4)
theorem h2_burnAt (d p : Nat) (hp : p < 30) (σ : Hs) (T : Nat → Int32) (hB : BI 2 σ T) (hi : isT T p) : ∃ σ', callD (d + 3) 15 [.ref 2, .int (nI p), .ref 13] σ = some (some (.int (bOfT T p * (ofT T p 3 + 10) / 20)), σ') ∧ HR 2 σ' (buT T p) ∧ ∀ o, o ≠ 2 → o ≠ 4 → o ≠ 7 → o ≠ 15 → σ' o = σ o := by
  obtain ⟨h, hL, hW, hM, hC⟩ := hB
  have p31 : p < 2147483648 := by omega
  obtain ⟨k, ek, lk⟩ := hW.n hp hi 1 (by omega) (by omega)
  have lk : k < 7 := lk
  have k31 : k < 2147483648 := by omega
  obtain ⟨s, b, w, e, es, eb, ew, ee, l1, ls, lb, lw, le, eB⟩ := bu_n hW hp hi
  rw [ek, cl_nI k31] at ee
  obtain ⟨hh, h1, h2, h3, h4⟩ := bOf_n ek es lk l1 ls
  obtain ⟨v, hv1, hv2⟩ : ∃ v, (∀ σ, callD (d + 2) 16 [.int (nI k), .int (nI hh)] σ = some (some (.int v), σ)) ∧ jmin v (nI s) = nI (bN k hh s) := by
    obtain ⟨v, a1, a2⟩ := k_burnsAsKind (d + 1) k hh s lk h1 h2 ls σ
    refine ⟨v, fun σ0 => ?_, a2⟩
    obtain ⟨v', b1, b2⟩ := k_burnsAsKind (d + 1) k hh s lk h1 h2 ls σ0
    have : v' = v := by
      have q : callD (d + 1 + 1) 16 [.int (nI k), .int (nI hh)] σ0 = some (some (.int v'), σ0) := b1
      have hk : k = 0 ∨ k = 1 ∨ k = 2 ∨ k = 3 ∨ k = 4 ∨ k = 5 ∨ k = 6 := by omega
      have q2 : callD (d + 1 + 1) 16 [.int (nI k), .int (nI hh)] σ = some (some (.int v), σ) := a1
      clear a1 b1 a2 b2
      rcases hk with rfl | rfl | rfl | rfl | rfl | rfl | rfl <;> (simp only [c16, s16_0, s16_1, s16_40, s16_41, s16_42, s16_43, s16_44, s16_46, s16_47, s16_48, s16_49, s16_50, s16_51, s16_52, s16_53, s16_54, s16_55, s16_56, n_0, n_1, n_2, n_3, n_4, n_5, n_6, z2, not_false_eq_true, simprocAttr, if_true, if_false, true_and, and_true, false_and, and_false, not_false_eq_true, not_true_eq_false, gd_T, kont_i, kont_v] at q q2; cases q; cases q2; rfl)
    subst this
    exact b1
  have hbn : bN k hh s = b := by
    have := h4.symm.trans eb
    have lbn := bN_le (k := k) h2
    rw [nI_eq (by omega) (by omega)] at this
    exact this
  rw [hbn] at hv2
  have g1 : σ 3 p = nI k := (h.f hp hi 1 (by omega) (by omega)).trans ek
  have g2 : σ 4 p = nI s := (h.f hp hi 2 (by omega) (by omega)).trans es
  have g3 : σ 5 p = ofT T p 3 := h.f hp hi 3 (by omega) (by omega)
  have g5 : σ 7 p = nI w := (h.f hp hi 5 (by omega) (by omega)).trans ew
  have g11 : σ 2 11 = T 11 := h.2.2.2.2.2.1
  have hd : callD (d + 2) 12 [.ref 2, .int (nI p)] σ = some (some (.int (drT T p)), σ) := h2_draughtOf (d + 1) p hp σ T h hW.P hW.1 hi
  have hhas : callD (d + 2) 30 [.ref 13, .int 0] σ = _ := k_has_0 (d + 1) σ T hL.1
  have s1 : ∃ σ1, callD (d + 3) 15 [.ref 2, .int (nI p), .ref 13] σ = ru (d + 2) 15 53 [.ref 2, .int (nI p), .ref 13, .int (nI s), .int (drT T p), .int (givT T 0 (drT T p) (nI s) (ofT T p 3) (ofT T p 5)), uu, uu] [] σ1 ∧ ∀ o, o ≠ 15 → σ1 o = σ o := by
    unfold givT
    by_cases c : 0 < T 359
    · obtain ⟨σ1, e1, f1⟩ := k_work_0 d (drT T p) (nI s) (ofT T p 3) (ofT T p 5) σ T hL.1 hM c
      have e1' : callD (d + 2) 32 [.ref 13, .int 0, .int (drT T p), .int (nI s), .int (ofT T p 3), .int (nI w)] σ = some (some (.int (lawT T 0 (drT T p) (nI s) (ofT T p 3) (nI w))), σ1) := by rw [← ew]; exact e1
      refine ⟨σ1, ?_, f1⟩
      simp only [simprocAttr, if_true, if_false, true_and, and_true, false_and, and_false, not_false_eq_true, not_true_eq_false, gd_T, kont_i, kont_v]
      rw [if_neg (show ¬ T 359 ≤ 0 from Int32.not_le.mpr c), ew]
      simp only [c15, s15_0, s15_1_o2, s15_1_o59, s15_4, s15_5_o4, s15_5_o61, s15_6, s15_7, s15_8, s15_9_o2, s15_9_o59, s15_12, s15_14, s15_15, s15_16_o13, s15_19, s15_22, s15_23, s15_24, s15_26, s15_27, s15_28_o2, s15_28_o59, s15_31, s15_32_o5, s15_32_o62, s15_33, s15_34_o2, s15_34_o59, s15_37, s15_38_o7, s15_38_o64, s15_39_o13, s15_42, s15_45, s15_47, s15_48, s15_49, s15_50, s15_51, vp_nI hp, cl_nI p31, g2, g3, g5, hd, hhas, b2_T c, e1', simprocAttr, if_true, if_false, true_and, and_true, false_and, and_false, not_false_eq_true, not_true_eq_false, gd_T, kont_i, kont_v]
    · refine ⟨σ, ?_, fun _ _ => rfl⟩
      simp only [simprocAttr, if_true, if_false, true_and, and_true, false_and, and_false, not_false_eq_true, not_true_eq_false, gd_T, kont_i, kont_v]
      rw [if_pos (show T 359 ≤ 0 from Int32.not_lt.mp c)]
      simp only [c15, s15_0, s15_1_o2, s15_1_o59, s15_4, s15_5_o4, s15_5_o61, s15_6, s15_7, s15_8, s15_9_o2, s15_9_o59, s15_12, s15_14, s15_15, s15_16_o13, s15_19, s15_22, s15_23, s15_24, s15_26, s15_27, s15_28_o2, s15_28_o59, s15_31, s15_32_o5, s15_32_o62, s15_33, s15_34_o2, s15_34_o59, s15_37, s15_38_o7, s15_38_o64, s15_39_o13, s15_42, s15_45, s15_47, s15_48, s15_49, s15_50, s15_51, vp_nI hp, cl_nI p31, g2, g3, g5, hd, hhas, b2_F c, z4, not_false_eq_true, simprocAttr, if_true, if_false, true_and, and_true, false_and, and_false, not_false_eq_true, not_true_eq_false, gd_T, kont_i, kont_v]
  obtain ⟨σ1, e1, f1⟩ := s1
  have r0 : HR 2 σ1 T := h.fr (fun o o1 o2 => f1 o (by omega))
  have q1 : σ1 3 p = nI k := by rw [f1 _ (by decide)]; exact g1
  have q2 : σ1 4 p = nI s := by rw [f1 _ (by decide)]; exact g2
  have q3 : σ1 5 p = ofT T p 3 := by rw [f1 _ (by decide)]; exact g3
  have q5 : σ1 7 p = nI w := by rw [f1 _ (by decide)]; exact g5
  have q11 : σ1 2 11 = T 11 := by rw [f1 _ (by decide)]; exact g11
  have r1 := r0.te hp hi 2 (by omega) (by omega) (nI (s - b))
  have r2 := r1.te hp (by rw [isT_te (by omega) (by omega)]; exact hi) 5 (by omega) (by omega) (nI (min (w + b * e) 9999))
  rw [← eB] at r2
  have r3 := r2.up (k := 11) (a := 11) (Or.inr (Or.inl ⟨rfl, rfl⟩)) (moreI (T 11) (nI b))
  have e3 : jmin (T 11 + nI b) 1999999999 = moreI (T 11) (nI b) := more_j hC (by omega)
  have e5 : jmin (nI w + nI b * nI e) 9999 = nI (min (w + b * e) 9999) := by
    have m1 : b * e ≤ s * 8 := Nat.mul_le_mul lb le
    rw [pk_mul, nI_add, show (9999 : Int32) = nI 9999 from rfl, jmin_n (by omega) (by omega)]
  have es2 : nI s - nI b = nI (s - b) := pk_sub lb
  refine ⟨_, ?_, by unfold buT; rw [eb]; exact r3, ?_⟩
  · rw [e1, eb]
    simp only [s15_53, s15_54, s15_56, s15_57, s15_60, s15_63, s15_65, s15_66_o2, s15_66_o59, s15_69, s15_70_o3, s15_70_o60, s15_71, s15_73, s15_76, s15_77, s15_80, s15_82, s15_83_o2, s15_83_o59, s15_86, s15_87, s15_88, s15_90, s15_91_o4, s15_91_o61, s15_92, s15_93_o2, s15_93_o59, s15_96, s15_97, s15_98_o2, s15_98_o59, s15_101, s15_102_o7, s15_102_o64, s15_103, s15_105, s15_108, s15_109_o2, s15_109_o59, s15_112, s15_113_o3, s15_113_o60, s15_114_o105, s15_115, s15_116, s15_117, s15_120, s15_123_o7, s15_123_o64, s15_124, s15_125, s15_126_o2, s15_126_o59, s15_129, s15_131, s15_132, s15_134, s15_137_o2, s15_137_o59, s15_140, s15_142, s15_143_o2, s15_143_o59, s15_146, s15_147_o5, s15_147_o62, s15_148, s15_150, s15_151, s15_152, s15_154, s15_155, h3, vp_nI hp, cl_nI p31, vp_nI lk, cl_nI k31, heat_l lk, ee, hv1, hv2, q1, q2, q3, q5, q11, es2, e3, e5, up2_rep, rep_at, z20, not_false_eq_true, simprocAttr, if_true, if_false, true_and, and_true, false_and, and_false, not_false_eq_true, not_true_eq_false, gd_T, kont_i, kont_v]
  · intro o o1 o2 o3 o4
    rw [rep_ne o1, rep_ne o3, rep_ne o2]
    exact f1 o o4
theorem h2_burn_1 (d p : Nat) (hp : p < 30) (σ : Hs) (q : (Nat → Int32) × Int32) (hB : BI 2 σ q.1) : ∃ σ', ru (d + 3) 14 4 [.ref 2, .ref 13, .int q.2, .int (nI p)] [] σ = ru (d + 3) 14 4 [.ref 2, .ref 13, .int (mnS q p).2, .int (nI (p + 1))] [] σ' ∧ BI 2 σ' (mnS q p).1 ∧ ∀ o, (o < 2 ∨ 8 < o) → o ≠ 15 → σ' o = σ o := by
  have hB0 := hB
  obtain ⟨h, hL, hW, hM, hC⟩ := hB
  obtain ⟨T, s⟩ := q
  simp only [] at h hL hW hM hC hB0
  have p31 : p < 2147483648 := by omega
  have ez : (σ 4 p ≤ 0) = ¬ isT T p := h.le hW.P hp
  have keep : ∀ (σ' : Hs) (T' : Nat → Int32), (∀ o, (o < 2 ∨ 8 < o) → o ≠ 15 → σ' o = σ o) → Ne10 T T' → LR σ' T' ∧ LWT T' 0 := by
    intro σ' T' hf hn
    exact ⟨hL.fr (fun o o1 o2 => hf o (by omega) (by omega)) (fun j hj => hn j (Or.inr (by omega))), LWT_Ne hn hM⟩
  unfold mnS
  simp only []
  by_cases hi : isT T p
  · rw [if_pos hi]
    have g5 : σ 7 p = ofT T p 5 := h.f hp hi 5 (by omega) (by omega)
    have g6 : σ 8 p = ofT T p 6 := h.f hp hi 6 (by omega) (by omega)
    have g2 : σ 4 p = ofT T p 2 := h.f hp hi 2 (by omega) (by omega)
    by_cases hl : litT T p
    · rw [if_pos hl]
      have g6' : σ 8 p = 1 := g6.trans hl
      obtain ⟨σ1, e1, r1, f1⟩ := h2_burnAt d p hp σ T hB0 hi
      obtain ⟨ss, bb, ww, ee, es, eb, ew, ee2, l1, ls, lb, lw, le, eB⟩ := bu_n hW hp hi
      have h2 : ofT (buT T p) p 2 = nI (ss - bb) := by
        unfold buT
        rw [ofT_up (by omega), eB, ofT_tn (by omega) (by omega) (by omega), ofT_ts (by omega)]
      have ib : isT (buT T p) p := by rw [buT_is]; exact hi
      have k2 : σ1 4 p = nI (ss - bb) := (r1.f hp ib 2 (by omega) (by omega)).trans h2
      have wi : (0 < ofT (buT T p) p 2) = (0 < ss - bb) := by
        rw [h2, show (0 : Int32) = nI 0 from rfl, lt_nn (by omega) (by omega)]
      by_cases c : 0 < ofT (buT T p) p 2
      · rw [if_pos c]
        have wb := hW.bu hp hi c
        have ebR : buR T p = buT T p := by unfold buR; rw [if_pos c]
        rw [ebR]
        obtain ⟨σ2, e2, r2, f2⟩ := h2_warmNeighbours (d + 1) p hp σ1 (buT T p) r1 wb ib
        obtain ⟨σ3, e3, r3, f3⟩ := h2_dryAndCool (d + 2) p hp σ2 (glF (buT T p) p 4) r2 (wb.gf hp ib 4) (by rw [glF_is]; exact ib)
        have hf : ∀ o, (o < 2 ∨ 8 < o) → o ≠ 15 → σ3 o = σ o := fun o o1 o2 => (f3 o (by omega) (by omega) (by omega)).trans ((f2 o (by omega)).trans (f1 o (by omega) (by omega) (by omega) o2))
        have kp := keep σ3 (gwT (buT T p) p) hf ((Ne10_buT hp).tr (Ne10_gw hp))
        refine ⟨σ3, ?_, ⟨r3, kp.1, wb.gw hp ib, kp.2, ?_⟩, hf⟩
        · rw [wi] at c
          have cz : (nI (ss - bb) = 0) = False := eq_false (nI_ne0 c (by omega))
          generalize hR : ru (d + 3) 14 4 [.ref 2, .ref 13, .int (buS T p s), .int (nI (p + 1))] [] σ3 = R
          simp only [s14_4]
          simp only [s14_5, s14_7, s14_10, s14_11_o2, s14_11_o59, s14_14, s14_15_o4, s14_15_o61, s14_16, s14_19, s14_20_o2, s14_20_o59, s14_23, s14_24_o8, s14_24_o65, s14_25, s14_28, s14_29_o2, s14_29_o59, s14_32, s14_33_o7, s14_33_o64, s14_34, s14_37, s14_38, s14_39_o2, s14_39_o59, s14_42, s14_43_o8, s14_43_o65, s14_44, s14_47, s14_48, s14_49, s14_50_o2, s14_50_o59, s14_53, s14_56, s14_57, s14_58, s14_59, s14_60_o2, s14_60_o59, s14_63, s14_64_o4, s14_64_o61, s14_65, s14_68, s14_69, s14_70_o2, s14_70_o59, s14_73, s14_74, s14_75_o2, s14_75_o59, s14_78, s14_79, s14_80_o2, s14_80_o59, s14_83, s14_86, s14_87, s14_88_o2, s14_88_o59, s14_91, s14_92, s14_93_o2, s14_93_o59, s14_96, s14_99, le_nI_r p31, vp_nI hp, cl_nI p31, ez, g6', e1, k2, cz, e2, e3, nI_1, simprocAttr, if_true, if_false, true_and, and_true, false_and, and_false, not_false_eq_true, not_true_eq_false, gd_T, kont_i, kont_v]
          rw [if_neg (by omega), if_neg (fun x => x hi)]
          exact hR
        · show CA (gwT (buT T p) p 11)
          rw [gwT_lo (by omega)]
          exact CA_bu hW hC hp hi
      · rw [if_neg c]
        have e0 : ss - bb = 0 := by rw [wi] at c; omega
        have ebR : buR T p = upd (goT (buT T p) p) 10 (T 10 + 1) := by unfold buR; rw [if_neg c, goT_up (by omega)]
        rw [ebR]
        have hS1 : HS (buT T p) := fun q hq hh => by rw [buT_is] at hh ⊢; exact hW.1 q hq hh
        obtain ⟨σ2, e2, r2, f2⟩ := h2_remove (d + 1) p hp σ1 (buT T p) r1 hS1 ib (fun q h1 h2 h3 => by rw [buT_is] at h3; rw [buT_ne (by omega) (by omega)]; exact hW.P q h2 h3) (fun q h1 h2 h3 => by rw [buT_is] at h3; rw [buT_ne (by omega) (by omega)]; exact hW.B q h2 h3)
        have g10 : σ2 2 10 = T 10 := by
          rw [r2.2.2.2.2.1, goT_ne (Or.inl (by omega))]
          unfold buT bu1 waT
          rw [upd_at, if_neg (by omega), teT_lo (by omega), teT_lo (by omega)]
        have r3 := r2.up (k := 10) (a := 10) (Or.inl ⟨rfl, rfl⟩) (T 10 + 1)
        have hf : ∀ o, (o < 2 ∨ 8 < o) → o ≠ 15 → rep σ2 2 (upd (σ2 2) 10 (T 10 + 1)) o = σ o := fun o o1 o2 => (rep_ne (by omega)).trans ((f2 o (by omega)).trans (f1 o (by omega) (by omega) (by omega) o2))
        have kp := keep _ (upd (goT (buT T p) p) 10 (T 10 + 1)) hf ((Ne10_buT hp).tr (Ne10.go.tr (Ne10.up (Or.inl rfl))))
        refine ⟨_, ?_, ⟨r3, kp.1, ?_, kp.2, ?_⟩, hf⟩
        · have cz : (nI (ss - bb) = 0) = True := by rw [e0]; exact eq_true rfl
          generalize hR : ru (d + 3) 14 4 [.ref 2, .ref 13, .int (buS T p s), .int (nI (p + 1))] [] _ = R
          simp only [s14_4]
          simp only [s14_5, s14_7, s14_10, s14_11_o2, s14_11_o59, s14_14, s14_15_o4, s14_15_o61, s14_16, s14_19, s14_20_o2, s14_20_o59, s14_23, s14_24_o8, s14_24_o65, s14_25, s14_28, s14_29_o2, s14_29_o59, s14_32, s14_33_o7, s14_33_o64, s14_34, s14_37, s14_38, s14_39_o2, s14_39_o59, s14_42, s14_43_o8, s14_43_o65, s14_44, s14_47, s14_48, s14_49, s14_50_o2, s14_50_o59, s14_53, s14_56, s14_57, s14_58, s14_59, s14_60_o2, s14_60_o59, s14_63, s14_64_o4, s14_64_o61, s14_65, s14_68, s14_69, s14_70_o2, s14_70_o59, s14_73, s14_74, s14_75_o2, s14_75_o59, s14_78, s14_79, s14_80_o2, s14_80_o59, s14_83, s14_86, s14_87, s14_88_o2, s14_88_o59, s14_91, s14_92, s14_93_o2, s14_93_o59, s14_96, s14_99, le_nI_r p31, vp_nI hp, cl_nI p31, ez, g6', e1, k2, cz, e2, g10, up2_rep, nI_1, simprocAttr, if_true, if_false, true_and, and_true, false_and, and_false, not_false_eq_true, not_true_eq_false, gd_T, kont_i, kont_v]
          rw [if_neg (by omega), if_neg (fun x => x hi)]
          exact hR
        · rw [← ebR]; exact WI_buR hW hp hi
        · show CA (upd (goT (buT T p) p) 10 (T 10 + 1) 11)
          rw [upd_at, if_neg (by omega), goT_ne (Or.inl (by omega))]
          exact CA_bu hW hC hp hi
    · rw [if_neg hl]
      have g6' : σ 8 p = 0 := g6.trans ((hW.B p hp hi).resolve_right hl)
      by_cases c : ofT T p 5 ≤ 0
      · rw [gwT_cold hW hp hi hl c]
        refine ⟨σ, ?_, hB0, fun _ _ _ => rfl⟩
        have c' : (ofT T p 5 ≤ 0) = True := eq_true c
        generalize hR : ru (d + 3) 14 4 [.ref 2, .ref 13, .int s, .int (nI (p + 1))] [] σ = R
        simp only [s14_4]
        simp only [s14_5, s14_7, s14_10, s14_11_o2, s14_11_o59, s14_14, s14_15_o4, s14_15_o61, s14_16, s14_19, s14_20_o2, s14_20_o59, s14_23, s14_24_o8, s14_24_o65, s14_25, s14_28, s14_29_o2, s14_29_o59, s14_32, s14_33_o7, s14_33_o64, s14_34, s14_37, s14_38, s14_39_o2, s14_39_o59, s14_42, s14_43_o8, s14_43_o65, s14_44, s14_47, s14_48, s14_49, s14_50_o2, s14_50_o59, s14_53, s14_56, s14_57, s14_58, s14_59, s14_60_o2, s14_60_o59, s14_63, s14_64_o4, s14_64_o61, s14_65, s14_68, s14_69, s14_70_o2, s14_70_o59, s14_73, s14_74, s14_75_o2, s14_75_o59, s14_78, s14_79, s14_80_o2, s14_80_o59, s14_83, s14_86, s14_87, s14_88_o2, s14_88_o59, s14_91, s14_92, s14_93_o2, s14_93_o59, s14_96, s14_99, le_nI_r p31, vp_nI hp, cl_nI p31, ez, g6', g5, c', nI_1, simprocAttr, if_true, if_false, true_and, and_true, false_and, and_false, not_false_eq_true, not_true_eq_false, gd_T, kont_i, kont_v]
        rw [if_neg (by omega), if_neg (fun x => x hi)]
        exact hR
      · obtain ⟨σ2, e2, r2, f2⟩ := h2_warmNeighbours (d + 1) p hp σ T h hW hi
        obtain ⟨σ3, e3, r3, f3⟩ := h2_dryAndCool (d + 2) p hp σ2 (glF T p 4) r2 (hW.gf hp hi 4) (by rw [glF_is]; exact hi)
        have hf : ∀ o, (o < 2 ∨ 8 < o) → o ≠ 15 → σ3 o = σ o := fun o o1 o2 => (f3 o (by omega) (by omega) (by omega)).trans (f2 o (by omega))
        have kp := keep σ3 (gwT T p) hf (Ne10_gw hp)
        refine ⟨σ3, ?_, ⟨r3, kp.1, hW.gw hp hi, kp.2, ?_⟩, hf⟩
        · have c' : (ofT T p 5 ≤ 0) = False := eq_false c
          obtain ⟨n2, en2, l2, u2⟩ := hW.2 p hp hi 2 (by omega) (by omega)
          have cz : (ofT T p 2 = 0) = False := eq_false (fun x => absurd (hW.P p hp hi) (by rw [x]; decide))
          generalize hR : ru (d + 3) 14 4 [.ref 2, .ref 13, .int s, .int (nI (p + 1))] [] σ3 = R
          simp only [s14_4]
          simp only [s14_5, s14_7, s14_10, s14_11_o2, s14_11_o59, s14_14, s14_15_o4, s14_15_o61, s14_16, s14_19, s14_20_o2, s14_20_o59, s14_23, s14_24_o8, s14_24_o65, s14_25, s14_28, s14_29_o2, s14_29_o59, s14_32, s14_33_o7, s14_33_o64, s14_34, s14_37, s14_38, s14_39_o2, s14_39_o59, s14_42, s14_43_o8, s14_43_o65, s14_44, s14_47, s14_48, s14_49, s14_50_o2, s14_50_o59, s14_53, s14_56, s14_57, s14_58, s14_59, s14_60_o2, s14_60_o59, s14_63, s14_64_o4, s14_64_o61, s14_65, s14_68, s14_69, s14_70_o2, s14_70_o59, s14_73, s14_74, s14_75_o2, s14_75_o59, s14_78, s14_79, s14_80_o2, s14_80_o59, s14_83, s14_86, s14_87, s14_88_o2, s14_88_o59, s14_91, s14_92, s14_93_o2, s14_93_o59, s14_96, s14_99, le_nI_r p31, vp_nI hp, cl_nI p31, ez, g6', g5, g2, c', cz, e2, e3, nI_1, Int32.add_zero, simprocAttr, if_true, if_false, true_and, and_true, false_and, and_false, not_false_eq_true, not_true_eq_false, gd_T, kont_i, kont_v]
          rw [if_neg (by omega), if_neg (fun x => absurd (hW.P p hp hi) (Int32.not_lt.mpr x))]
          exact hR
        · show CA (gwT T p 11)
          rw [gwT_lo (by omega)]
          exact hC
  · rw [if_neg hi]
    refine ⟨σ, ?_, hB0, fun _ _ _ => rfl⟩
    generalize hR : ru (d + 3) 14 4 [.ref 2, .ref 13, .int s, .int (nI (p + 1))] [] σ = R
    simp only [s14_4]
    simp only [s14_5, s14_7, s14_10, s14_11_o2, s14_11_o59, s14_14, s14_15_o4, s14_15_o61, s14_16, s14_19, s14_20_o2, s14_20_o59, s14_23, s14_24_o8, s14_24_o65, s14_25, s14_28, s14_29_o2, s14_29_o59, s14_32, s14_33_o7, s14_33_o64, s14_34, s14_37, s14_38, s14_39_o2, s14_39_o59, s14_42, s14_43_o8, s14_43_o65, s14_44, s14_47, s14_48, s14_49, s14_50_o2, s14_50_o59, s14_53, s14_56, s14_57, s14_58, s14_59, s14_60_o2, s14_60_o59, s14_63, s14_64_o4, s14_64_o61, s14_65, s14_68, s14_69, s14_70_o2, s14_70_o59, s14_73, s14_74, s14_75_o2, s14_75_o59, s14_78, s14_79, s14_80_o2, s14_80_o59, s14_83, s14_86, s14_87, s14_88_o2, s14_88_o59, s14_91, s14_92, s14_93_o2, s14_93_o59, s14_96, s14_99, le_nI_r p31, vp_nI hp, cl_nI p31, ez, nI_1, simprocAttr, if_true, if_false, true_and, and_true, false_and, and_false, not_false_eq_true, not_true_eq_false, gd_T, kont_i, kont_v]
    rw [if_neg (by omega), if_pos hi]
    exact hR
theorem h2_burn_l (d : Nat) (T : Nat → Int32) : ∀ n p σ, p + n = 30 → BI 2 σ (mnL T p).1 → ∃ σ', ru (d + 3) 14 4 [.ref 2, .ref 13, .int (mnL T p).2, .int (nI p)] [] σ = some (some (.int (mnL T 30).2), σ') ∧ BI 2 σ' (mnL T 30).1 ∧ ∀ o, (o < 2 ∨ 8 < o) → o ≠ 15 → σ' o = σ o := by
  intro n
  induction n with
  | zero =>
    intro p σ hp hB
    obtain rfl : p = 30 := by omega
    refine ⟨σ, ?_, hB, fun _ _ _ => rfl⟩
    simp only [s14_4]
    simp only [s14_5, s14_7, s14_102, s14_103, show (30 : Int32) ≤ nI 30 from Int32.le_refl _, simprocAttr, if_true, if_false, true_and, and_true, false_and, and_false, not_false_eq_true, not_true_eq_false, gd_T, kont_i, kont_v]
  | succ n ih =>
    intro p σ hp hB
    obtain ⟨σ1, e1, r1, f1⟩ := h2_burn_1 d p (by omega) σ (mnL T p) hB
    obtain ⟨σ2, e2, r2, f2⟩ := ih (p + 1) σ1 (by omega) r1
    exact ⟨σ2, e1.trans e2, r2, fun o o1 o2 => (f2 o o1 o2).trans (f1 o o1 o2)⟩
theorem h2_burn (d : Nat) (σ : Hs) (T : Nat → Int32) (hB : BI 2 σ T) : ∃ σ', callD (d + 4) 14 [.ref 2, .ref 13] σ = some (some (.int (mnL T 30).2), σ') ∧ BI 2 σ' (mnL T 30).1 ∧ ∀ o, (o < 2 ∨ 8 < o) → o ≠ 15 → σ' o = σ o := by
  obtain ⟨σ', e, r, f⟩ := h2_burn_l d T 30 0 σ rfl hB
  refine ⟨σ', ?_, r, f⟩
  simp only [s14_0, s14_1, s14_2, s14_3, c14]
  exact e
theorem h59_burnAt (d p : Nat) (hp : p < 30) (σ : Hs) (T : Nat → Int32) (hB : BI 59 σ T) (hi : isT T p) : ∃ σ', callD (d + 3) 15 [.ref 59, .int (nI p), .ref 13] σ = some (some (.int (bOfT T p * (ofT T p 3 + 10) / 20)), σ') ∧ HR 59 σ' (buT T p) ∧ ∀ o, o ≠ 59 → o ≠ 61 → o ≠ 64 → o ≠ 15 → σ' o = σ o := by
  obtain ⟨h, hL, hW, hM, hC⟩ := hB
  have p31 : p < 2147483648 := by omega
  obtain ⟨k, ek, lk⟩ := hW.n hp hi 1 (by omega) (by omega)
  have lk : k < 7 := lk
  have k31 : k < 2147483648 := by omega
  obtain ⟨s, b, w, e, es, eb, ew, ee, l1, ls, lb, lw, le, eB⟩ := bu_n hW hp hi
  rw [ek, cl_nI k31] at ee
  obtain ⟨hh, h1, h2, h3, h4⟩ := bOf_n ek es lk l1 ls
  obtain ⟨v, hv1, hv2⟩ : ∃ v, (∀ σ, callD (d + 2) 16 [.int (nI k), .int (nI hh)] σ = some (some (.int v), σ)) ∧ jmin v (nI s) = nI (bN k hh s) := by
    obtain ⟨v, a1, a2⟩ := k_burnsAsKind (d + 1) k hh s lk h1 h2 ls σ
    refine ⟨v, fun σ0 => ?_, a2⟩
    obtain ⟨v', b1, b2⟩ := k_burnsAsKind (d + 1) k hh s lk h1 h2 ls σ0
    have : v' = v := by
      have q : callD (d + 1 + 1) 16 [.int (nI k), .int (nI hh)] σ0 = some (some (.int v'), σ0) := b1
      have hk : k = 0 ∨ k = 1 ∨ k = 2 ∨ k = 3 ∨ k = 4 ∨ k = 5 ∨ k = 6 := by omega
      have q2 : callD (d + 1 + 1) 16 [.int (nI k), .int (nI hh)] σ = some (some (.int v), σ) := a1
      clear a1 b1 a2 b2
      rcases hk with rfl | rfl | rfl | rfl | rfl | rfl | rfl <;> (simp only [c16, s16_0, s16_1, s16_40, s16_41, s16_42, s16_43, s16_44, s16_46, s16_47, s16_48, s16_49, s16_50, s16_51, s16_52, s16_53, s16_54, s16_55, s16_56, n_0, n_1, n_2, n_3, n_4, n_5, n_6, z2, not_false_eq_true, simprocAttr, if_true, if_false, true_and, and_true, false_and, and_false, not_false_eq_true, not_true_eq_false, gd_T, kont_i, kont_v] at q q2; cases q; cases q2; rfl)
    subst this
    exact b1
  have hbn : bN k hh s = b := by
    have := h4.symm.trans eb
    have lbn := bN_le (k := k) h2
    rw [nI_eq (by omega) (by omega)] at this
    exact this
  rw [hbn] at hv2
  have g1 : σ 60 p = nI k := (h.f hp hi 1 (by omega) (by omega)).trans ek
  have g2 : σ 61 p = nI s := (h.f hp hi 2 (by omega) (by omega)).trans es
  have g3 : σ 62 p = ofT T p 3 := h.f hp hi 3 (by omega) (by omega)
  have g5 : σ 64 p = nI w := (h.f hp hi 5 (by omega) (by omega)).trans ew
  have g11 : σ 59 11 = T 11 := h.2.2.2.2.2.1
  have hd : callD (d + 2) 12 [.ref 59, .int (nI p)] σ = some (some (.int (drT T p)), σ) := h59_draughtOf (d + 1) p hp σ T h hW.P hW.1 hi
  have hhas : callD (d + 2) 30 [.ref 13, .int 0] σ = _ := k_has_0 (d + 1) σ T hL.1
  have s1 : ∃ σ1, callD (d + 3) 15 [.ref 59, .int (nI p), .ref 13] σ = ru (d + 2) 15 53 [.ref 59, .int (nI p), .ref 13, .int (nI s), .int (drT T p), .int (givT T 0 (drT T p) (nI s) (ofT T p 3) (ofT T p 5)), uu, uu] [] σ1 ∧ ∀ o, o ≠ 15 → σ1 o = σ o := by
    unfold givT
    by_cases c : 0 < T 359
    · obtain ⟨σ1, e1, f1⟩ := k_work_0 d (drT T p) (nI s) (ofT T p 3) (ofT T p 5) σ T hL.1 hM c
      have e1' : callD (d + 2) 32 [.ref 13, .int 0, .int (drT T p), .int (nI s), .int (ofT T p 3), .int (nI w)] σ = some (some (.int (lawT T 0 (drT T p) (nI s) (ofT T p 3) (nI w))), σ1) := by rw [← ew]; exact e1
      refine ⟨σ1, ?_, f1⟩
      simp only [simprocAttr, if_true, if_false, true_and, and_true, false_and, and_false, not_false_eq_true, not_true_eq_false, gd_T, kont_i, kont_v]
      rw [if_neg (show ¬ T 359 ≤ 0 from Int32.not_le.mpr c), ew]
      simp only [c15, s15_0, s15_1_o2, s15_1_o59, s15_4, s15_5_o4, s15_5_o61, s15_6, s15_7, s15_8, s15_9_o2, s15_9_o59, s15_12, s15_14, s15_15, s15_16_o13, s15_19, s15_22, s15_23, s15_24, s15_26, s15_27, s15_28_o2, s15_28_o59, s15_31, s15_32_o5, s15_32_o62, s15_33, s15_34_o2, s15_34_o59, s15_37, s15_38_o7, s15_38_o64, s15_39_o13, s15_42, s15_45, s15_47, s15_48, s15_49, s15_50, s15_51, vp_nI hp, cl_nI p31, g2, g3, g5, hd, hhas, b2_T c, e1', simprocAttr, if_true, if_false, true_and, and_true, false_and, and_false, not_false_eq_true, not_true_eq_false, gd_T, kont_i, kont_v]
    · refine ⟨σ, ?_, fun _ _ => rfl⟩
      simp only [simprocAttr, if_true, if_false, true_and, and_true, false_and, and_false, not_false_eq_true, not_true_eq_false, gd_T, kont_i, kont_v]
      rw [if_pos (show T 359 ≤ 0 from Int32.not_lt.mp c)]
      simp only [c15, s15_0, s15_1_o2, s15_1_o59, s15_4, s15_5_o4, s15_5_o61, s15_6, s15_7, s15_8, s15_9_o2, s15_9_o59, s15_12, s15_14, s15_15, s15_16_o13, s15_19, s15_22, s15_23, s15_24, s15_26, s15_27, s15_28_o2, s15_28_o59, s15_31, s15_32_o5, s15_32_o62, s15_33, s15_34_o2, s15_34_o59, s15_37, s15_38_o7, s15_38_o64, s15_39_o13, s15_42, s15_45, s15_47, s15_48, s15_49, s15_50, s15_51, vp_nI hp, cl_nI p31, g2, g3, g5, hd, hhas, b2_F c, z4, not_false_eq_true, simprocAttr, if_true, if_false, true_and, and_true, false_and, and_false, not_false_eq_true, not_true_eq_false, gd_T, kont_i, kont_v]
  obtain ⟨σ1, e1, f1⟩ := s1
  have r0 : HR 59 σ1 T := h.fr (fun o o1 o2 => f1 o (by omega))
  have q1 : σ1 60 p = nI k := by rw [f1 _ (by decide)]; exact g1
  have q2 : σ1 61 p = nI s := by rw [f1 _ (by decide)]; exact g2
  have q3 : σ1 62 p = ofT T p 3 := by rw [f1 _ (by decide)]; exact g3
  have q5 : σ1 64 p = nI w := by rw [f1 _ (by decide)]; exact g5
  have q11 : σ1 59 11 = T 11 := by rw [f1 _ (by decide)]; exact g11
  have r1 := r0.te hp hi 2 (by omega) (by omega) (nI (s - b))
  have r2 := r1.te hp (by rw [isT_te (by omega) (by omega)]; exact hi) 5 (by omega) (by omega) (nI (min (w + b * e) 9999))
  rw [← eB] at r2
  have r3 := r2.up (k := 11) (a := 11) (Or.inr (Or.inl ⟨rfl, rfl⟩)) (moreI (T 11) (nI b))
  have e3 : jmin (T 11 + nI b) 1999999999 = moreI (T 11) (nI b) := more_j hC (by omega)
  have e5 : jmin (nI w + nI b * nI e) 9999 = nI (min (w + b * e) 9999) := by
    have m1 : b * e ≤ s * 8 := Nat.mul_le_mul lb le
    rw [pk_mul, nI_add, show (9999 : Int32) = nI 9999 from rfl, jmin_n (by omega) (by omega)]
  have es2 : nI s - nI b = nI (s - b) := pk_sub lb
  refine ⟨_, ?_, by unfold buT; rw [eb]; exact r3, ?_⟩
  · rw [e1, eb]
    simp only [s15_53, s15_54, s15_56, s15_57, s15_60, s15_63, s15_65, s15_66_o2, s15_66_o59, s15_69, s15_70_o3, s15_70_o60, s15_71, s15_73, s15_76, s15_77, s15_80, s15_82, s15_83_o2, s15_83_o59, s15_86, s15_87, s15_88, s15_90, s15_91_o4, s15_91_o61, s15_92, s15_93_o2, s15_93_o59, s15_96, s15_97, s15_98_o2, s15_98_o59, s15_101, s15_102_o7, s15_102_o64, s15_103, s15_105, s15_108, s15_109_o2, s15_109_o59, s15_112, s15_113_o3, s15_113_o60, s15_114_o105, s15_115, s15_116, s15_117, s15_120, s15_123_o7, s15_123_o64, s15_124, s15_125, s15_126_o2, s15_126_o59, s15_129, s15_131, s15_132, s15_134, s15_137_o2, s15_137_o59, s15_140, s15_142, s15_143_o2, s15_143_o59, s15_146, s15_147_o5, s15_147_o62, s15_148, s15_150, s15_151, s15_152, s15_154, s15_155, h3, vp_nI hp, cl_nI p31, vp_nI lk, cl_nI k31, heat_l lk, ee, hv1, hv2, q1, q2, q3, q5, q11, es2, e3, e5, up2_rep, rep_at, z20, not_false_eq_true, simprocAttr, if_true, if_false, true_and, and_true, false_and, and_false, not_false_eq_true, not_true_eq_false, gd_T, kont_i, kont_v]
  · intro o o1 o2 o3 o4
    rw [rep_ne o1, rep_ne o3, rep_ne o2]
    exact f1 o o4
theorem h59_burn_1 (d p : Nat) (hp : p < 30) (σ : Hs) (q : (Nat → Int32) × Int32) (hB : BI 59 σ q.1) : ∃ σ', ru (d + 3) 14 4 [.ref 59, .ref 13, .int q.2, .int (nI p)] [] σ = ru (d + 3) 14 4 [.ref 59, .ref 13, .int (mnS q p).2, .int (nI (p + 1))] [] σ' ∧ BI 59 σ' (mnS q p).1 ∧ ∀ o, (o < 59 ∨ 65 < o) → o ≠ 15 → σ' o = σ o := by
  have hB0 := hB
  obtain ⟨h, hL, hW, hM, hC⟩ := hB
  obtain ⟨T, s⟩ := q
  simp only [] at h hL hW hM hC hB0
  have p31 : p < 2147483648 := by omega
  have ez : (σ 61 p ≤ 0) = ¬ isT T p := h.le hW.P hp
  have keep : ∀ (σ' : Hs) (T' : Nat → Int32), (∀ o, (o < 59 ∨ 65 < o) → o ≠ 15 → σ' o = σ o) → Ne10 T T' → LR σ' T' ∧ LWT T' 0 := by
    intro σ' T' hf hn
    exact ⟨hL.fr (fun o o1 o2 => hf o (by omega) (by omega)) (fun j hj => hn j (Or.inr (by omega))), LWT_Ne hn hM⟩
  unfold mnS
  simp only []
  by_cases hi : isT T p
  · rw [if_pos hi]
    have g5 : σ 64 p = ofT T p 5 := h.f hp hi 5 (by omega) (by omega)
    have g6 : σ 65 p = ofT T p 6 := h.f hp hi 6 (by omega) (by omega)
    have g2 : σ 61 p = ofT T p 2 := h.f hp hi 2 (by omega) (by omega)
    by_cases hl : litT T p
    · rw [if_pos hl]
      have g6' : σ 65 p = 1 := g6.trans hl
      obtain ⟨σ1, e1, r1, f1⟩ := h59_burnAt d p hp σ T hB0 hi
      obtain ⟨ss, bb, ww, ee, es, eb, ew, ee2, l1, ls, lb, lw, le, eB⟩ := bu_n hW hp hi
      have h2 : ofT (buT T p) p 2 = nI (ss - bb) := by
        unfold buT
        rw [ofT_up (by omega), eB, ofT_tn (by omega) (by omega) (by omega), ofT_ts (by omega)]
      have ib : isT (buT T p) p := by rw [buT_is]; exact hi
      have k2 : σ1 61 p = nI (ss - bb) := (r1.f hp ib 2 (by omega) (by omega)).trans h2
      have wi : (0 < ofT (buT T p) p 2) = (0 < ss - bb) := by
        rw [h2, show (0 : Int32) = nI 0 from rfl, lt_nn (by omega) (by omega)]
      by_cases c : 0 < ofT (buT T p) p 2
      · rw [if_pos c]
        have wb := hW.bu hp hi c
        have ebR : buR T p = buT T p := by unfold buR; rw [if_pos c]
        rw [ebR]
        obtain ⟨σ2, e2, r2, f2⟩ := h59_warmNeighbours (d + 1) p hp σ1 (buT T p) r1 wb ib
        obtain ⟨σ3, e3, r3, f3⟩ := h59_dryAndCool (d + 2) p hp σ2 (glF (buT T p) p 4) r2 (wb.gf hp ib 4) (by rw [glF_is]; exact ib)
        have hf : ∀ o, (o < 59 ∨ 65 < o) → o ≠ 15 → σ3 o = σ o := fun o o1 o2 => (f3 o (by omega) (by omega) (by omega)).trans ((f2 o (by omega)).trans (f1 o (by omega) (by omega) (by omega) o2))
        have kp := keep σ3 (gwT (buT T p) p) hf ((Ne10_buT hp).tr (Ne10_gw hp))
        refine ⟨σ3, ?_, ⟨r3, kp.1, wb.gw hp ib, kp.2, ?_⟩, hf⟩
        · rw [wi] at c
          have cz : (nI (ss - bb) = 0) = False := eq_false (nI_ne0 c (by omega))
          generalize hR : ru (d + 3) 14 4 [.ref 59, .ref 13, .int (buS T p s), .int (nI (p + 1))] [] σ3 = R
          simp only [s14_4]
          simp only [s14_5, s14_7, s14_10, s14_11_o2, s14_11_o59, s14_14, s14_15_o4, s14_15_o61, s14_16, s14_19, s14_20_o2, s14_20_o59, s14_23, s14_24_o8, s14_24_o65, s14_25, s14_28, s14_29_o2, s14_29_o59, s14_32, s14_33_o7, s14_33_o64, s14_34, s14_37, s14_38, s14_39_o2, s14_39_o59, s14_42, s14_43_o8, s14_43_o65, s14_44, s14_47, s14_48, s14_49, s14_50_o2, s14_50_o59, s14_53, s14_56, s14_57, s14_58, s14_59, s14_60_o2, s14_60_o59, s14_63, s14_64_o4, s14_64_o61, s14_65, s14_68, s14_69, s14_70_o2, s14_70_o59, s14_73, s14_74, s14_75_o2, s14_75_o59, s14_78, s14_79, s14_80_o2, s14_80_o59, s14_83, s14_86, s14_87, s14_88_o2, s14_88_o59, s14_91, s14_92, s14_93_o2, s14_93_o59, s14_96, s14_99, le_nI_r p31, vp_nI hp, cl_nI p31, ez, g6', e1, k2, cz, e2, e3, nI_1, simprocAttr, if_true, if_false, true_and, and_true, false_and, and_false, not_false_eq_true, not_true_eq_false, gd_T, kont_i, kont_v]
          rw [if_neg (by omega), if_neg (fun x => x hi)]
          exact hR
        · show CA (gwT (buT T p) p 11)
          rw [gwT_lo (by omega)]
          exact CA_bu hW hC hp hi
      · rw [if_neg c]
        have e0 : ss - bb = 0 := by rw [wi] at c; omega
        have ebR : buR T p = upd (goT (buT T p) p) 10 (T 10 + 1) := by unfold buR; rw [if_neg c, goT_up (by omega)]
        rw [ebR]
        have hS1 : HS (buT T p) := fun q hq hh => by rw [buT_is] at hh ⊢; exact hW.1 q hq hh
        obtain ⟨σ2, e2, r2, f2⟩ := h59_remove (d + 1) p hp σ1 (buT T p) r1 hS1 ib (fun q h1 h2 h3 => by rw [buT_is] at h3; rw [buT_ne (by omega) (by omega)]; exact hW.P q h2 h3) (fun q h1 h2 h3 => by rw [buT_is] at h3; rw [buT_ne (by omega) (by omega)]; exact hW.B q h2 h3)
        have g10 : σ2 59 10 = T 10 := by
          rw [r2.2.2.2.2.1, goT_ne (Or.inl (by omega))]
          unfold buT bu1 waT
          rw [upd_at, if_neg (by omega), teT_lo (by omega), teT_lo (by omega)]
        have r3 := r2.up (k := 10) (a := 10) (Or.inl ⟨rfl, rfl⟩) (T 10 + 1)
        have hf : ∀ o, (o < 59 ∨ 65 < o) → o ≠ 15 → rep σ2 59 (upd (σ2 59) 10 (T 10 + 1)) o = σ o := fun o o1 o2 => (rep_ne (by omega)).trans ((f2 o (by omega)).trans (f1 o (by omega) (by omega) (by omega) o2))
        have kp := keep _ (upd (goT (buT T p) p) 10 (T 10 + 1)) hf ((Ne10_buT hp).tr (Ne10.go.tr (Ne10.up (Or.inl rfl))))
        refine ⟨_, ?_, ⟨r3, kp.1, ?_, kp.2, ?_⟩, hf⟩
        · have cz : (nI (ss - bb) = 0) = True := by rw [e0]; exact eq_true rfl
          generalize hR : ru (d + 3) 14 4 [.ref 59, .ref 13, .int (buS T p s), .int (nI (p + 1))] [] _ = R
          simp only [s14_4]
          simp only [s14_5, s14_7, s14_10, s14_11_o2, s14_11_o59, s14_14, s14_15_o4, s14_15_o61, s14_16, s14_19, s14_20_o2, s14_20_o59, s14_23, s14_24_o8, s14_24_o65, s14_25, s14_28, s14_29_o2, s14_29_o59, s14_32, s14_33_o7, s14_33_o64, s14_34, s14_37, s14_38, s14_39_o2, s14_39_o59, s14_42, s14_43_o8, s14_43_o65, s14_44, s14_47, s14_48, s14_49, s14_50_o2, s14_50_o59, s14_53, s14_56, s14_57, s14_58, s14_59, s14_60_o2, s14_60_o59, s14_63, s14_64_o4, s14_64_o61, s14_65, s14_68, s14_69, s14_70_o2, s14_70_o59, s14_73, s14_74, s14_75_o2, s14_75_o59, s14_78, s14_79, s14_80_o2, s14_80_o59, s14_83, s14_86, s14_87, s14_88_o2, s14_88_o59, s14_91, s14_92, s14_93_o2, s14_93_o59, s14_96, s14_99, le_nI_r p31, vp_nI hp, cl_nI p31, ez, g6', e1, k2, cz, e2, g10, up2_rep, nI_1, simprocAttr, if_true, if_false, true_and, and_true, false_and, and_false, not_false_eq_true, not_true_eq_false, gd_T, kont_i, kont_v]
          rw [if_neg (by omega), if_neg (fun x => x hi)]
          exact hR
        · rw [← ebR]; exact WI_buR hW hp hi
        · show CA (upd (goT (buT T p) p) 10 (T 10 + 1) 11)
          rw [upd_at, if_neg (by omega), goT_ne (Or.inl (by omega))]
          exact CA_bu hW hC hp hi
    · rw [if_neg hl]
      have g6' : σ 65 p = 0 := g6.trans ((hW.B p hp hi).resolve_right hl)
      by_cases c : ofT T p 5 ≤ 0
      · rw [gwT_cold hW hp hi hl c]
        refine ⟨σ, ?_, hB0, fun _ _ _ => rfl⟩
        have c' : (ofT T p 5 ≤ 0) = True := eq_true c
        generalize hR : ru (d + 3) 14 4 [.ref 59, .ref 13, .int s, .int (nI (p + 1))] [] σ = R
        simp only [s14_4]
        simp only [s14_5, s14_7, s14_10, s14_11_o2, s14_11_o59, s14_14, s14_15_o4, s14_15_o61, s14_16, s14_19, s14_20_o2, s14_20_o59, s14_23, s14_24_o8, s14_24_o65, s14_25, s14_28, s14_29_o2, s14_29_o59, s14_32, s14_33_o7, s14_33_o64, s14_34, s14_37, s14_38, s14_39_o2, s14_39_o59, s14_42, s14_43_o8, s14_43_o65, s14_44, s14_47, s14_48, s14_49, s14_50_o2, s14_50_o59, s14_53, s14_56, s14_57, s14_58, s14_59, s14_60_o2, s14_60_o59, s14_63, s14_64_o4, s14_64_o61, s14_65, s14_68, s14_69, s14_70_o2, s14_70_o59, s14_73, s14_74, s14_75_o2, s14_75_o59, s14_78, s14_79, s14_80_o2, s14_80_o59, s14_83, s14_86, s14_87, s14_88_o2, s14_88_o59, s14_91, s14_92, s14_93_o2, s14_93_o59, s14_96, s14_99, le_nI_r p31, vp_nI hp, cl_nI p31, ez, g6', g5, c', nI_1, simprocAttr, if_true, if_false, true_and, and_true, false_and, and_false, not_false_eq_true, not_true_eq_false, gd_T, kont_i, kont_v]
        rw [if_neg (by omega), if_neg (fun x => x hi)]
        exact hR
      · obtain ⟨σ2, e2, r2, f2⟩ := h59_warmNeighbours (d + 1) p hp σ T h hW hi
        obtain ⟨σ3, e3, r3, f3⟩ := h59_dryAndCool (d + 2) p hp σ2 (glF T p 4) r2 (hW.gf hp hi 4) (by rw [glF_is]; exact hi)
        have hf : ∀ o, (o < 59 ∨ 65 < o) → o ≠ 15 → σ3 o = σ o := fun o o1 o2 => (f3 o (by omega) (by omega) (by omega)).trans (f2 o (by omega))
        have kp := keep σ3 (gwT T p) hf (Ne10_gw hp)
        refine ⟨σ3, ?_, ⟨r3, kp.1, hW.gw hp hi, kp.2, ?_⟩, hf⟩
        · have c' : (ofT T p 5 ≤ 0) = False := eq_false c
          obtain ⟨n2, en2, l2, u2⟩ := hW.2 p hp hi 2 (by omega) (by omega)
          have cz : (ofT T p 2 = 0) = False := eq_false (fun x => absurd (hW.P p hp hi) (by rw [x]; decide))
          generalize hR : ru (d + 3) 14 4 [.ref 59, .ref 13, .int s, .int (nI (p + 1))] [] σ3 = R
          simp only [s14_4]
          simp only [s14_5, s14_7, s14_10, s14_11_o2, s14_11_o59, s14_14, s14_15_o4, s14_15_o61, s14_16, s14_19, s14_20_o2, s14_20_o59, s14_23, s14_24_o8, s14_24_o65, s14_25, s14_28, s14_29_o2, s14_29_o59, s14_32, s14_33_o7, s14_33_o64, s14_34, s14_37, s14_38, s14_39_o2, s14_39_o59, s14_42, s14_43_o8, s14_43_o65, s14_44, s14_47, s14_48, s14_49, s14_50_o2, s14_50_o59, s14_53, s14_56, s14_57, s14_58, s14_59, s14_60_o2, s14_60_o59, s14_63, s14_64_o4, s14_64_o61, s14_65, s14_68, s14_69, s14_70_o2, s14_70_o59, s14_73, s14_74, s14_75_o2, s14_75_o59, s14_78, s14_79, s14_80_o2, s14_80_o59, s14_83, s14_86, s14_87, s14_88_o2, s14_88_o59, s14_91, s14_92, s14_93_o2, s14_93_o59, s14_96, s14_99, le_nI_r p31, vp_nI hp, cl_nI p31, ez, g6', g5, g2, c', cz, e2, e3, nI_1, Int32.add_zero, simprocAttr, if_true, if_false, true_and, and_true, false_and, and_false, not_false_eq_true, not_true_eq_false, gd_T, kont_i, kont_v]
          rw [if_neg (by omega), if_neg (fun x => absurd (hW.P p hp hi) (Int32.not_lt.mpr x))]
          exact hR
        · show CA (gwT T p 11)
          rw [gwT_lo (by omega)]
          exact hC
  · rw [if_neg hi]
    refine ⟨σ, ?_, hB0, fun _ _ _ => rfl⟩
    generalize hR : ru (d + 3) 14 4 [.ref 59, .ref 13, .int s, .int (nI (p + 1))] [] σ = R
    simp only [s14_4]
    simp only [s14_5, s14_7, s14_10, s14_11_o2, s14_11_o59, s14_14, s14_15_o4, s14_15_o61, s14_16, s14_19, s14_20_o2, s14_20_o59, s14_23, s14_24_o8, s14_24_o65, s14_25, s14_28, s14_29_o2, s14_29_o59, s14_32, s14_33_o7, s14_33_o64, s14_34, s14_37, s14_38, s14_39_o2, s14_39_o59, s14_42, s14_43_o8, s14_43_o65, s14_44, s14_47, s14_48, s14_49, s14_50_o2, s14_50_o59, s14_53, s14_56, s14_57, s14_58, s14_59, s14_60_o2, s14_60_o59, s14_63, s14_64_o4, s14_64_o61, s14_65, s14_68, s14_69, s14_70_o2, s14_70_o59, s14_73, s14_74, s14_75_o2, s14_75_o59, s14_78, s14_79, s14_80_o2, s14_80_o59, s14_83, s14_86, s14_87, s14_88_o2, s14_88_o59, s14_91, s14_92, s14_93_o2, s14_93_o59, s14_96, s14_99, le_nI_r p31, vp_nI hp, cl_nI p31, ez, nI_1, simprocAttr, if_true, if_false, true_and, and_true, false_and, and_false, not_false_eq_true, not_true_eq_false, gd_T, kont_i, kont_v]
    rw [if_neg (by omega), if_pos hi]
    exact hR
theorem h59_burn_l (d : Nat) (T : Nat → Int32) : ∀ n p σ, p + n = 30 → BI 59 σ (mnL T p).1 → ∃ σ', ru (d + 3) 14 4 [.ref 59, .ref 13, .int (mnL T p).2, .int (nI p)] [] σ = some (some (.int (mnL T 30).2), σ') ∧ BI 59 σ' (mnL T 30).1 ∧ ∀ o, (o < 59 ∨ 65 < o) → o ≠ 15 → σ' o = σ o := by
  intro n
  induction n with
  | zero =>
    intro p σ hp hB
    obtain rfl : p = 30 := by omega
    refine ⟨σ, ?_, hB, fun _ _ _ => rfl⟩
    simp only [s14_4]
    simp only [s14_5, s14_7, s14_102, s14_103, show (30 : Int32) ≤ nI 30 from Int32.le_refl _, simprocAttr, if_true, if_false, true_and, and_true, false_and, and_false, not_false_eq_true, not_true_eq_false, gd_T, kont_i, kont_v]
  | succ n ih =>
    intro p σ hp hB
    obtain ⟨σ1, e1, r1, f1⟩ := h59_burn_1 d p (by omega) σ (mnL T p) hB
    obtain ⟨σ2, e2, r2, f2⟩ := ih (p + 1) σ1 (by omega) r1
    exact ⟨σ2, e1.trans e2, r2, fun o o1 o2 => (f2 o o1 o2).trans (f1 o o1 o2)⟩
theorem h59_burn (d : Nat) (σ : Hs) (T : Nat → Int32) (hB : BI 59 σ T) : ∃ σ', callD (d + 4) 14 [.ref 59, .ref 13] σ = some (some (.int (mnL T 30).2), σ') ∧ BI 59 σ' (mnL T 30).1 ∧ ∀ o, (o < 59 ∨ 65 < o) → o ≠ 15 → σ' o = σ o := by
  obtain ⟨σ', e, r, f⟩ := h59_burn_l d T 30 0 σ rfl hB
  refine ⟨σ', ?_, r, f⟩
  simp only [s14_0, s14_1, s14_2, s14_3, c14]
  exact e
