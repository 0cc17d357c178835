/-! ===== the model: a minute ===== -/
theorem LWT_Ne {T T' : Nat → Int32} {u : Nat} (h : Ne10 T T') (hL : LWT T u) : LWT T' u := LWT_congr (fun j hj => h j (Or.inr (by omega))) hL
theorem FM.rg {σ σ' : Hs} {T : Nat → Int32} {sm : Int32} (h : FM σ σ' T sm) (G : Nat → Int32) : FM σ (rep σ' 88 G) G sm := by
  refine ⟨rep_self _ _ _, ?_, ?_, ?_⟩
  · rw [rep_ne (by decide)]; exact h.2.1
  · intro k hk; rw [rep_ne (by decide)]; exact h.2.2.1 k hk
  · intro o o1 o2 o3 o4; rw [rep_ne o2]; exact h.2.2.2 o o1 o2 o3 o4
theorem glF_k {T : Nat → Int32} {p : Nat} (h : ∃ k, k < 7 ∧ ofT T p 1 = nI k) : ∃ k, k < 7 ∧ ofT (glF T p 4) p 1 = nI k := by
  obtain ⟨k, hk, h1⟩ := h
  exact ⟨k, hk, (glF_01 (by omega) (by omega) 4).trans h1⟩
theorem mn_step (d p : Nat) (hp : p < 30) (σ : Hs) (l0 : Hs) (q : (Nat → Int32) × Int32) (hF : FM l0 σ q.1 q.2) (hM : LWT q.1 0) (hk : KOK q.1) (hH : Hot l0) : ∃ σ', ru (d + 7) 169 7 [.ref 87, .int (nI p)] [] σ = ru (d + 7) 169 7 [.ref 87, .int (nI (p + 1))] [] σ' ∧ FM l0 σ' (mnS q p).1 (mnS q p).2 := by
  have p31 : p < 2147483648 := by omega
  have h88 : σ 88 = q.1 := hF.1
  have h17 : σ 87 17 = q.2 := hF.2.1
  have hHs := hH.fm hF
  obtain ⟨T, s⟩ := q
  simp only [] at h88 h17 hF hM hk
  unfold mnS
  simp only []
  by_cases hi : isT T p
  · rw [if_pos hi]
    have hkk := hk p hp hi
    by_cases hl : litT T p
    · rw [if_pos hl]
      obtain ⟨σ1, e1, f1⟩ : ∃ σ', callD (d + 7) 165 [.ref 87, .int (nI p)] σ = some (some (.int (b2 (0 < ofT (buT (σ 88) p) p 2))), σ') ∧ FM σ σ' (buR (σ 88) p) (buS (σ 88) p (σ 87 17)) := m_burns (d + 1) p hp σ (by rw [h88]; exact hM) (by rw [h88]; exact hkk) hHs.1
      rw [h88, h17] at f1
      rw [h88] at e1
      have ft := hF.tr f1
      by_cases c : 0 < ofT (buT T p) p 2
      · rw [if_pos c]
        have hg : callD (d + 7) 166 [.ref 87, .int (nI p)] σ1 = some (none, rep σ1 88 (gwT (σ1 88) p)) := m_glows (d + 3) p hp σ1 (by
          rw [f1.1]
          refine glF_k ?_
          obtain ⟨k, k7, k1⟩ := hkk
          exact ⟨k, k7, (buR_1 c (by omega) (by omega) (by omega) p).trans k1⟩) ((hH.fm ft).2)
        rw [f1.1] at hg
        refine ⟨rep σ1 88 (gwT (buR T p) p), ?_, ft.rg _⟩
        generalize hR : ru (d + 7) 169 7 [.ref 87, .int (nI (p + 1))] [] (rep σ1 88 (gwT (buR T p) p)) = R
        simp only [s169_7]
        simp only [s169_8, s169_10, s169_13, s169_14, s169_15_o87, s169_18, s169_21, s169_22, s169_23_o87, s169_26, s169_29, s169_30, s169_31_o87, s169_34, s169_37, s169_38, s169_39_o87, s169_42, s169_45, le_nI_r p31, m_is _ _ hp, m_isLit _ _ hp, h88, b2_T hi, b2_T hl, e1, b2_T c, hg, nI_1, simprocAttr, if_true, if_false, true_and, and_true, false_and, and_false, not_false_eq_true, not_true_eq_false, gd_T, kont_i, kont_v]
        rw [if_neg (by omega)]
        exact hR
      · rw [if_neg c]
        refine ⟨σ1, ?_, ft⟩
        generalize hR : ru (d + 7) 169 7 [.ref 87, .int (nI (p + 1))] [] σ1 = R
        simp only [s169_7]
        simp only [s169_8, s169_10, s169_13, s169_14, s169_15_o87, s169_18, s169_21, s169_22, s169_23_o87, s169_26, s169_29, s169_30, s169_31_o87, s169_34, s169_37, s169_38, s169_39_o87, s169_42, s169_45, le_nI_r p31, m_is _ _ hp, m_isLit _ _ hp, h88, b2_T hi, b2_T hl, e1, b2_F c, nI_1, simprocAttr, if_true, if_false, true_and, and_true, false_and, and_false, not_false_eq_true, not_true_eq_false, gd_T, kont_i, kont_v]
        rw [if_neg (by omega)]
        exact hR
    · rw [if_neg hl]
      have hg : callD (d + 7) 166 [.ref 87, .int (nI p)] σ = some (none, rep σ 88 (gwT (σ 88) p)) := m_glows (d + 3) p hp σ (by rw [h88]; exact glF_k hkk) hHs.2
      rw [h88] at hg
      refine ⟨rep σ 88 (gwT T p), ?_, hF.rg _⟩
      generalize hR : ru (d + 7) 169 7 [.ref 87, .int (nI (p + 1))] [] (rep σ 88 (gwT T p)) = R
      simp only [s169_7]
      simp only [s169_8, s169_10, s169_13, s169_14, s169_15_o87, s169_18, s169_21, s169_22, s169_23_o87, s169_26, s169_29, s169_30, s169_31_o87, s169_34, s169_37, s169_38, s169_39_o87, s169_42, s169_45, le_nI_r p31, m_is _ _ hp, m_isLit _ _ hp, h88, b2_T hi, b2_F hl, hg, nI_1, simprocAttr, if_true, if_false, true_and, and_true, false_and, and_false, not_false_eq_true, not_true_eq_false, gd_T, kont_i, kont_v]
      rw [if_neg (by omega)]
      exact hR
  · rw [if_neg hi]
    refine ⟨σ, ?_, hF⟩
    generalize hR : ru (d + 7) 169 7 [.ref 87, .int (nI (p + 1))] [] σ = R
    simp only [s169_7]
    simp only [s169_8, s169_10, s169_13, s169_14, s169_15_o87, s169_18, s169_21, s169_22, s169_23_o87, s169_26, s169_29, s169_30, s169_31_o87, s169_34, s169_37, s169_38, s169_39_o87, s169_42, s169_45, le_nI_r p31, m_is _ _ hp, h88, b2_F hi, nI_1, simprocAttr, if_true, if_false, true_and, and_true, false_and, and_false, not_false_eq_true, not_true_eq_false, gd_T, kont_i, kont_v]
    rw [if_neg (by omega)]
    exact hR
theorem mn_loop (d : Nat) (l0 : Hs) (T : Nat → Int32) (hM : LWT T 0) (hk : KOK T) (hH : Hot l0) : ∀ n p σ, p + n = 30 → FM l0 σ (mnL T p).1 (mnL T p).2 → ∃ σ', ru (d + 7) 169 7 [.ref 87, .int (nI p)] [] σ = ru (d + 7) 169 48 [.ref 87, .int (nI 30)] [] σ' ∧ FM l0 σ' (mnL T 30).1 (mnL T 30).2 := by
  intro n
  induction n with
  | zero =>
    intro p σ hp hF
    obtain rfl : p = 30 := by omega
    refine ⟨σ, ?_, hF⟩
    have p31 : 30 < 2147483648 := by omega
    generalize hR : ru (d + 7) 169 48 [.ref 87, .int (nI 30)] [] σ = R
    simp only [s169_7]
    simp only [s169_8, s169_10, le_nI_r p31, simprocAttr, if_true, if_false, true_and, and_true, false_and, and_false, not_false_eq_true, not_true_eq_false, gd_T, kont_i, kont_v]
    exact hR
  | succ n ih =>
    intro p σ hp hF
    obtain ⟨i1, i2⟩ := mnL_inv T hk p (by omega)
    obtain ⟨σ1, e1, f1⟩ := mn_step d p (by omega) σ l0 (mnL T p) hF (LWT_Ne i2 hM) i1 hH
    obtain ⟨σ2, e2, f2⟩ := ih (p + 1) σ1 (by omega) f1
    exact ⟨σ2, e1.trans e2, f2⟩
theorem z1440 : ((1440 : Int32) = 0) = False := by decide +kernel
theorem m_minute (d : Nat) (σ : Hs) (hM : MOK (σ 88)) (hH : Hot σ) : ∃ σ', callD (d + 8) 169 [.ref 87] σ = some (none, σ') ∧ FM σ σ' (minT (σ 88)) (mnL (σ 88) 30).2 := by
  obtain ⟨T, hT⟩ : ∃ T, T = σ 88 := ⟨_, rfl⟩
  rw [← hT] at hM ⊢
  have hz : FM σ (up2 σ 87 17 0) T 0 := by
    rw [up2_rep]
    refine ⟨(rep_ne (by decide)).trans hT.symm, ?_, ?_, ?_⟩
    · rw [rep_self]; simp only [upd_at, simprocAttr, if_true, if_false, true_and, and_true, false_and, and_false, not_false_eq_true, not_true_eq_false, gd_T, kont_i, kont_v]
    · intro k hk; rw [rep_self, upd_at, if_neg hk]
    · intro o o1 o2 o3 o4; rw [rep_ne o1]
  obtain ⟨σ1, e1, f1⟩ := mn_loop d σ T hM.1.1 hM.2.1 hH 30 0 (up2 σ 87 17 0) rfl hz
  obtain ⟨k1, n1⟩ := mnL_inv T hM.2.1 30 (Nat.le_refl _)
  have hM1 : MOK (σ1 88) := by
    rw [f1.1]
    exact MOK_congr (fun j h1 h2 => n1 j (Or.inr h1)) (n1 6 (Or.inl (by omega))) (n1 8 (Or.inl (by omega))) k1 hM
  obtain ⟨σ2, e2, f2⟩ := m_lies (d + 3) σ1 hM1
  rw [f1.1, f1.2.1] at f2
  have ft := f1.tr f2
  refine ⟨rep σ2 88 (minT T), ?_, ft.rg _⟩
  have g88 : σ2 88 = minA T := f2.1
  have g17 : σ2 87 17 = (mnL T 30).2 := f2.2.1
  unfold minT
  simp only [s169_0, s169_1, s169_2_o87, s169_5, s169_6, c169, simprocAttr, if_true, if_false, true_and, and_true, false_and, and_false, not_false_eq_true, not_true_eq_false, gd_T, kont_i, kont_v]
  rw [show (0 : Int32) = nI 0 from rfl] at *
  rw [e1]
  simp only [s169_48, s169_49_o87, s169_52, s169_53_o87, s169_56, s169_58, s169_59_o87, s169_62, s169_64_o88, s169_65, s169_66_o87, s169_69, s169_72_o88, s169_73, s169_74_o87, s169_77, s169_78, s169_79_o87, s169_82, s169_83_o88, s169_84, s169_85, s169_86, s169_89, s169_90_o88, s169_91, s169_92_o87, s169_95, s169_96, s169_97_o88, s169_98, s169_99, s169_100_o88, s169_101, e2, g88, g17, m_more, vp_lit, z1440, rep_at, rep_rep, up2_rep, simprocAttr, if_true, if_false, true_and, and_true, false_and, and_false, not_false_eq_true, not_true_eq_false, gd_T, kont_i, kont_v]
