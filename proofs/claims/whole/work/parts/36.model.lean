/-! ===== the model: a place burns, glows ===== -/
def heatF : Nat → Int32 := fun k => ([4, 5, 8, 3, 5, 3, 3] : List Int32).getD k 0
def catF : Nat → Int32 := fun k => ([60, 30, 120, 6, 120, 90, 10000] : List Int32).getD k 0
/-- one place burns: what is left, the smoke, whether something is left -/
noncomputable def bu1 (T : Nat → Int32) (p : Nat) : Nat → Int32 := waT (teT T p 2 (ofT T p 2 - bOfT T p)) p (bOfT T p * heatF (ofT T p 1).toNatClampNeg)
noncomputable def buT (T : Nat → Int32) (p : Nat) : Nat → Int32 := upd (bu1 T p) 11 (moreI (T 11) (bOfT T p))
noncomputable def buS (T : Nat → Int32) (p : Nat) (sm : Int32) : Int32 := sm + bOfT T p * (ofT T p 3 + 10) / 20
noncomputable def buR (T : Nat → Int32) (p : Nat) : Nat → Int32 := if 0 < ofT (buT T p) p 2 then buT T p else goT (upd (buT T p) 10 (T 10 + 1)) p
def FM (σ σ' : Hs) (T' : Nat → Int32) (sm : Int32) : Prop := σ' 88 = T' ∧ σ' 87 17 = sm ∧ (∀ k, k ≠ 17 → σ' 87 k = σ 87 k) ∧ ∀ o, o ≠ 87 → o ≠ 88 → o ≠ 97 → o ≠ 98 → σ' o = σ o
theorem ofT_up {T : Nat → Int32} {p f a : Nat} {v : Int32} (h : a < 14) : ofT (upd T a v) p f = ofT T p f := by
  simp only [ofT, upd]
  rw [if_neg (by omega)]
theorem m_burns (d p : Nat) (hp : p < 30) (σ : Hs) (hM : LWT (σ 88) 0) (hk : ∃ k, k < 7 ∧ ofT (σ 88) p 1 = nI k) (h92 : ∀ k, k < 7 → σ 92 k = heatF k) : ∃ σ', callD (d + 6) 165 [.ref 87, .int (nI p)] σ = some (some (.int (b2 (0 < ofT (buT (σ 88) p) p 2))), σ') ∧ FM σ σ' (buR (σ 88) p) (buS (σ 88) p (σ 87 17)) := by
  obtain ⟨k, hk7, hk1⟩ := hk
  have hk31 : k < 2147483648 := by omega
  obtain ⟨σ1, h1, h2⟩ := m_burnsOf d p hp σ hM
  have h88 : σ1 88 = σ 88 := h2 88 (by decide) (by decide)
  have h87 : σ1 87 = σ 87 := h2 87 (by decide) (by decide)
  have h92' : σ1 92 k = heatF k := by rw [h2 92 (by decide) (by decide)]; exact h92 k hk7
  have e1 : bu1 (σ 88) p = waT (teT (σ 88) p 2 (ofT (σ 88) p 2 - bOfT (σ 88) p)) p (bOfT (σ 88) p * heatF k) := by unfold bu1; rw [hk1, cl_nI hk31]
  have e2 : ∀ f, f < 7 → f ≠ 2 → f ≠ 5 → ofT (bu1 (σ 88) p) p f = ofT (σ 88) p f := by
    intro f hf h2 h5
    rw [e1]
    unfold waT
    rw [ofT_te (by omega) hf, if_neg (fun q => h5 q.2), ofT_te (by omega) hf, if_neg (fun q => h2 q.2)]
  obtain ⟨T1, hT1⟩ : ∃ T1, T1 = bu1 (σ 88) p := ⟨_, rfl⟩
  have s1 : callD (d + 6) 165 [.ref 87, .int (nI p)] σ = ru (d + 5) 165 38 [.ref 87, .int (nI p), .int (bOfT (σ 88) p)] [] (rep σ1 88 T1) := by
    simp only [c165, s165_0, s165_1, s165_2_o87, s165_5, s165_6, s165_7, s165_8, s165_9, s165_10, s165_11, s165_12_o87, s165_15, s165_16, s165_17_o87, s165_20, s165_21, s165_22, s165_23, s165_24_o87, s165_27, s165_28, s165_29, s165_30_o87, s165_33_o92, s165_34, s165_35_o87, h1, h88, m_of_2 _ _ hp, m_of_1 _ _ hp, m_tells_2 _ _ hp, m_warms _ _ hp, rep_at, rep_rep, ofT_te, hk1, vp_nI hk7, cl_nI hk31, h92', simprocAttr, if_true, if_false, true_and, and_true, false_and, and_false, not_false_eq_true, not_true_eq_false, gd_T, kont_i, kont_v]
    rw [hT1, e1]
  have hb : buT (σ 88) p = upd T1 11 (moreI (σ 88 11) (bOfT (σ 88) p)) := by unfold buT; rw [hT1]
  have e3 : ofT T1 p 3 = ofT (σ 88) p 3 := by rw [hT1]; exact e2 3 (by omega) (by omega) (by omega)
  have e11 : T1 11 = σ 88 11 := by rw [hT1, e1]; unfold waT; rw [teT_lo (by omega), teT_lo (by omega)]
  have e10 : T1 10 = σ 88 10 := by rw [hT1, e1]; unfold waT; rw [teT_lo (by omega), teT_lo (by omega)]
  have eb : ∀ f, ofT (buT (σ 88) p) p f = ofT T1 p f := by intro f; rw [hb, ofT_up (by omega)]
  obtain ⟨b, hbb⟩ : ∃ b, b = bOfT (σ 88) p := ⟨_, rfl⟩
  have s2 : ru (d + 5) 165 38 [.ref 87, .int (nI p), .int b] [] (rep σ1 88 T1) = ru (d + 5) 165 79 [.ref 87, .int (nI p), .int b] [] (rep (rep σ1 87 (upd (σ 87) 17 (σ 87 17 + b * (ofT (σ 88) p 3 + 10) / 20))) 88 (upd T1 11 (moreI (σ 88 11) b))) := by
    simp only [s165_38, s165_39, s165_40_o87, s165_43, s165_44, s165_45, s165_46, s165_47_o87, s165_50, s165_52, s165_53, s165_54, s165_56, s165_57, s165_58_o87, s165_61, s165_62_o87, s165_65, s165_67, s165_68_o87, s165_71, s165_73_o88, s165_74, s165_75, s165_78_o88, h87, m_of_3 _ _ hp, m_more, rep_at, rep_rep, e3, e11, up2_rep, vp_lit, z20, not_false_eq_true, simprocAttr, if_true, if_false, true_and, and_true, false_and, and_false, not_false_eq_true, not_true_eq_false, gd_T, kont_i, kont_v]
    congr 1
    funext q
    simp only [rep]
    by_cases q1 : q = 88
    · subst q1; simp
    · by_cases q2 : q = 87
      · subst q2; simp
      · simp [q1, q2]
  rw [s1, ← hbb, s2]
  have hfr : ∀ (G : Nat → Int32), FM σ (rep (rep σ1 87 (upd (σ 87) 17 (σ 87 17 + b * (ofT (σ 88) p 3 + 10) / 20))) 88 G) G (buS (σ 88) p (σ 87 17)) := by
    intro G
    refine ⟨rep_self _ _ _, ?_, ?_, ?_⟩
    · simp only [rep_at, upd_at, simprocAttr, if_true, if_false, true_and, and_true, false_and, and_false, not_false_eq_true, not_true_eq_false, gd_T, kont_i, kont_v]
      unfold buS
      rw [hbb]
    · intro k hk
      simp only [rep_at, upd_at, simprocAttr, if_true, if_false, true_and, and_true, false_and, and_false, not_false_eq_true, not_true_eq_false, gd_T, kont_i, kont_v]
      rw [if_neg hk]
    · intro o o1 o2 o3 o4
      rw [rep_ne o2, rep_ne o1]
      exact h2 o o3 o4
  unfold buR
  rw [eb 2, hb, ← hbb]
  by_cases hs : 0 < ofT T1 p 2
  · rw [if_pos hs, b2_T hs]
    refine ⟨_, ?_, hfr _⟩
    simp only [s165_79, s165_80, s165_81, s165_82_o87, s165_85, s165_88, s165_89, m_of_2 _ _ hp, rep_at, ofT_up (show 11 < 14 by omega), isB_1, eq_false (Int32.not_le.mpr hs), simprocAttr, if_true, if_false, true_and, and_true, false_and, and_false, not_false_eq_true, not_true_eq_false, gd_T, kont_i, kont_v]
  · rw [if_neg hs, b2_F hs]
    refine ⟨_, ?_, hfr _⟩
    have e10' : upd T1 11 (moreI (σ 88 11) b) 10 = σ 88 10 := by simp only [upd]; rw [if_neg (by omega)]; exact e10
    simp only [s165_79, s165_80, s165_81, s165_82_o87, s165_85, s165_88, s165_89, s165_90, s165_91_o87, s165_94, s165_96, s165_97_o88, s165_98, s165_99, s165_100_o88, s165_101, s165_102, s165_103_o87, s165_106, s165_107, m_of_2 _ _ hp, m_goes _ _ hp, rep_at, rep_rep, ofT_up (show 11 < 14 by omega), isB_0, eq_true (Int32.not_lt.mp hs), vp_lit, up2_rep, e10', simprocAttr, if_true, if_false, true_and, and_true, false_and, and_false, not_false_eq_true, not_true_eq_false, gd_T, kont_i, kont_v]
/-! glowing -/
def glS (T : Nat → Int32) (p s : Nat) : Nat → Int32 := match besN p s with
  | some x => if isT T x then waT (waT T p (-(ofT T p 5 / 8))) x (ofT T p 5 / 8) else T
  | none => T
def glF (T : Nat → Int32) (p : Nat) : Nat → Nat → Int32
  | 0 => T
  | s + 1 => glS (glF T p s) p s
theorem m_glows_l (d p : Nat) (hp : p < 30) (T : Nat → Int32) (σ : Hs) : ∀ k s (l3 l4 : Value), s + k = 4 → l3.category = 1 → ∃ l3' l4' : Value, l3'.category = 1 ∧ ru (d + 3) 166 2 [.ref 87, .int (nI p), .int (nI s), l3, l4] [] (rep σ 88 (glF T p s)) = ru (d + 3) 166 57 [.ref 87, .int (nI p), .int (nI 4), l3', l4'] [] (rep σ 88 (glF T p 4)) := by
  intro k
  induction k with
  | zero =>
    intro s l3 l4 hs hl3
    have h31 : s < 2147483648 := by omega
    refine ⟨l3, l4, hl3, ?_⟩
    simp only [s166_2]
    simp only [s166_3, s166_4, le_nI_r h31, simprocAttr, if_true, if_false, true_and, and_true, false_and, and_false, not_false_eq_true, not_true_eq_false, gd_T, kont_i, kont_v]
    rw [if_pos (by omega), show s = 4 by omega]
  | succ k ih =>
    intro s l3 l4 hs hl3
    have h31 : s < 2147483648 := by omega
    have h4 : s < 4 := by omega
    have hb := m_beside (d + 2) p s hp h4 (rep σ 88 (glF T p s))
    have heq : glF T p (s + 1) = glS (glF T p s) p s := rfl
    unfold glS at heq
    unfold besI at hb
    cases hn : besN p s with
    | some x =>
      rw [hn] at hb heq
      simp only [] at hb heq
      have hx := besN_lt hp hn
      have hx31 : x < 2147483648 := by omega
      by_cases hi : isT (glF T p s) x
      · rw [if_pos hi] at heq
        obtain ⟨l3', l4', c3, hr⟩ := ih (s + 1) (.int (nI x)) (.int (ofT (glF T p s) p 5 / 8)) (by omega) rfl
        refine ⟨l3', l4', c3, ?_⟩
        rw [heq] at hr
        simp only [s166_2]
        simp only [s166_3, s166_4, s166_7, s166_8, s166_9, s166_12, s166_13, s166_14, s166_17, s166_18, s166_19_o87, s166_22, s166_25, s166_26, s166_27, s166_28_o87, s166_31, s166_33, s166_34, s166_36, s166_37, s166_38, s166_40, s166_41_o87, s166_44, s166_45, s166_46, s166_48_o87, s166_51, s166_54, le_nI_r h31, hb, nI_pos hx31, m_is _ _ hx, rep_at, rep_rep, b2_T hi, m_of_5 _ _ hp, m_warms _ _ hp, m_warms _ _ hx, z8, nI_1, z1, simprocAttr, if_true, if_false, true_and, and_true, false_and, and_false, not_false_eq_true, not_true_eq_false, gd_T, kont_i, kont_v]
        rw [if_neg (by omega)]
        exact hr
      · rw [if_neg hi] at heq
        obtain ⟨l3', l4', c3, hr⟩ := ih (s + 1) (.int (nI x)) l4 (by omega) rfl
        refine ⟨l3', l4', c3, ?_⟩
        rw [heq] at hr
        simp only [s166_2]
        simp only [s166_3, s166_4, s166_7, s166_8, s166_9, s166_12, s166_13, s166_14, s166_17, s166_18, s166_19_o87, s166_22, s166_25, s166_26, s166_27, s166_28_o87, s166_31, s166_33, s166_34, s166_36, s166_37, s166_38, s166_40, s166_41_o87, s166_44, s166_45, s166_46, s166_48_o87, s166_51, s166_54, le_nI_r h31, hb, nI_pos hx31, m_is _ _ hx, rep_at, b2_F hi, nI_1, simprocAttr, if_true, if_false, true_and, and_true, false_and, and_false, not_false_eq_true, not_true_eq_false, gd_T, kont_i, kont_v]
        rw [if_neg (by omega)]
        exact hr
    | none =>
      rw [hn] at hb heq
      simp only [] at hb heq
      obtain ⟨l3', l4', c3, hr⟩ := ih (s + 1) (.int (if s = 3 then -2 else -1)) l4 (by omega) rfl
      refine ⟨l3', l4', c3, ?_⟩
      rw [heq] at hr
      simp only [s166_2]
      simp only [s166_3, s166_4, s166_7, s166_8, s166_9, s166_12, s166_13, s166_14, s166_17, s166_18, s166_19_o87, s166_22, s166_25, s166_26, s166_27, s166_28_o87, s166_31, s166_33, s166_34, s166_36, s166_37, s166_38, s166_40, s166_41_o87, s166_44, s166_45, s166_46, s166_48_o87, s166_51, s166_54, le_nI_r h31, hb, nI_1, simprocAttr, if_true, if_false, true_and, and_true, false_and, and_false, not_false_eq_true, not_true_eq_false, gd_T, kont_i, kont_v]
      rw [if_neg (by omega)]
      by_cases h3 : s = 3
      · rw [if_pos h3] at hr ⊢
        simp only [simprocAttr, if_true, if_false, true_and, and_true, false_and, and_false, not_false_eq_true, not_true_eq_false, gd_T, kont_i, kont_v]
        exact hr
      · rw [if_neg h3] at hr ⊢
        simp only [simprocAttr, if_true, if_false, true_and, and_true, false_and, and_false, not_false_eq_true, not_true_eq_false, gd_T, kont_i, kont_v]
        exact hr
/-- drying, catching, cooling -/
def coT (T : Nat → Int32) (p : Nat) : Nat → Int32 :=
  let w := ofT T p 5
  let T1 := teT T p 3 (jmax 0 (ofT T p 3 - w / 20))
  let T2 := if litT T1 p then T1 else if T1 7 < ofT T1 p 3 then T1 else if w < catF (ofT T1 p 1).toNatClampNeg then T1 else teT T1 p 6 1
  let T3 := waT T2 p (-(w / 10 + 1))
  if litT T3 p then (if ofT T3 p 5 < 5 then teT T3 p 6 0 else if ofT T3 p 3 ≤ 700 then T3 else teT T3 p 6 0) else T3
def gwT (T : Nat → Int32) (p : Nat) : Nat → Int32 := coT (glF T p 4) p
theorem m_glows (d p : Nat) (hp : p < 30) (σ : Hs) (hk : ∃ k, k < 7 ∧ ofT (glF (σ 88) p 4) p 1 = nI k) (h93 : ∀ k, k < 7 → σ 93 k = catF k) : callD (d + 4) 166 [.ref 87, .int (nI p)] σ = some (none, rep σ 88 (gwT (σ 88) p)) := by
  obtain ⟨k, hk7, hk1⟩ := hk
  have hk31 : k < 2147483648 := by omega
  obtain ⟨l3', l4', c3, hl⟩ := m_glows_l d p hp (σ 88) σ 4 0 uu uu rfl rfl
  rw [show glF (σ 88) p 0 = σ 88 from rfl, rep_same] at hl
  simp only [s166_0, s166_1, c166]
  rw [show (0 : Int32) = nI 0 from rfl, hl]
  unfold gwT
  generalize hT : glF (σ 88) p 4 = T at hk1
  obtain ⟨w, hw⟩ : ∃ w, w = ofT T p 5 := ⟨_, rfl⟩
  obtain ⟨T1, hT1⟩ : ∃ T1, T1 = teT T p 3 (jmax 0 (ofT T p 3 - w / 20)) := ⟨_, rfl⟩
  have k1 : ofT T1 p 1 = nI k := by rw [hT1, ofT_te (by omega) (by omega), if_neg (fun q => absurd q.2 (by omega))]; exact hk1
  have s1 : ru (d + 3) 166 57 [.ref 87, .int (nI p), .int (nI 4), l3', l4'] [] (rep σ 88 T) = ru (d + 3) 166 85 [.ref 87, .int (nI p), .int w, l3', l4'] [] (rep σ 88 T1) := by
    simp only [s166_57, s166_58, s166_59, s166_60_o87, s166_63, s166_64, s166_65, s166_66, s166_67, s166_68, s166_69, s166_70, s166_71_o87, s166_74, s166_75, s166_77, s166_78, s166_79, s166_82_o87, m_of_5 _ _ hp, m_of_3 _ _ hp, m_tells_3 _ _ hp, rep_at, rep_rep, z20, ← hw, ← hT1, simprocAttr, if_true, if_false, true_and, and_true, false_and, and_false, not_false_eq_true, not_true_eq_false, gd_T, kont_i, kont_v]
  obtain ⟨T2, hT2⟩ : ∃ T2, T2 = if litT T1 p then T1 else if T1 7 < ofT T1 p 3 then T1 else if w < catF k then T1 else teT T1 p 6 1 := ⟨_, rfl⟩
  have s2 : ru (d + 3) 166 85 [.ref 87, .int (nI p), .int w, l3', l4'] [] (rep σ 88 T1) = ru (d + 3) 166 132 [.ref 87, .int (nI p), .int w, l3', l4'] [] (rep σ 88 T2) := by
    simp only [s166_85, s166_86, s166_87_o87, s166_90, s166_93, s166_94, s166_95, s166_96_o87, s166_99, s166_100_o87, s166_103, s166_105_o88, s166_106, s166_109, s166_110, s166_111_o87, s166_114, s166_115, s166_116, s166_117_o87, s166_120_o93, s166_121, s166_124, s166_125, s166_126, s166_128, s166_129_o87, m_isLit _ _ hp, m_of_3 _ _ hp, m_of_1 _ _ hp, m_tells_6 _ _ hp, rep_at, rep_rep, b2_0, vp_lit, k1, vp_nI hk7, cl_nI hk31, h93 k hk7, simprocAttr, if_true, if_false, true_and, and_true, false_and, and_false, not_false_eq_true, not_true_eq_false, gd_T, kont_i, kont_v]
    rw [hT2]
    by_cases c1 : litT T1 p
    · rw [if_neg (fun q => q c1), if_pos c1]
    · rw [if_pos c1, if_neg c1]
      by_cases c2 : T1 7 < ofT T1 p 3
      · rw [if_pos c2, if_pos c2]
      · rw [if_neg c2, if_neg c2]
        by_cases c3 : w < catF k
        · rw [if_pos c3, if_pos c3]
        · rw [if_neg c3, if_neg c3]
  obtain ⟨T3, hT3⟩ : ∃ T3, T3 = waT T2 p (-(w / 10 + 1)) := ⟨_, rfl⟩
  have s3 : ru (d + 3) 166 132 [.ref 87, .int (nI p), .int w, l3', l4'] [] (rep σ 88 T2) = ru (d + 3) 166 144 [.ref 87, .int (nI p), .int w, l3', l4'] [] (rep σ 88 T3) := by
    simp only [s166_132, s166_133, s166_134, s166_135, s166_137, s166_138, s166_139, s166_140, s166_141_o87, m_warms _ _ hp, rep_at, rep_rep, z10, ← hT3, simprocAttr, if_true, if_false, true_and, and_true, false_and, and_false, not_false_eq_true, not_true_eq_false, gd_T, kont_i, kont_v]
  rw [s1, s2, s3]
  have e : coT T p = if litT T3 p then (if ofT T3 p 5 < 5 then teT T3 p 6 0 else if ofT T3 p 3 ≤ 700 then T3 else teT T3 p 6 0) else T3 := by
    unfold coT
    simp only []
    rw [← hw, ← hT1, k1, cl_nI hk31, ← hT2, ← hT3]
  rw [e]
  simp only [s166_144, s166_145, s166_146_o87, s166_149, s166_152, s166_153, s166_154, s166_155_o87, s166_158, s166_159, s166_162, s166_163, s166_164, s166_165_o87, s166_168, s166_171, s166_174, s166_175, s166_176, s166_178, s166_179_o87, s166_182, m_isLit _ _ hp, m_of_5 _ _ hp, m_of_3 _ _ hp, m_tells_6 _ _ hp, rep_at, rep_rep, b2_0, simprocAttr, if_true, if_false, true_and, and_true, false_and, and_false, not_false_eq_true, not_true_eq_false, gd_T, kont_i, kont_v]
  by_cases c1 : litT T3 p
  · rw [if_neg (fun q => q c1), if_pos c1]
    by_cases c2 : ofT T3 p 5 < 5
    · rw [if_pos c2, if_pos c2]
    · rw [if_neg c2, if_neg c2]
      by_cases c3 : ofT T3 p 3 ≤ 700
      · rw [if_pos c3, if_pos c3]
      · rw [if_neg c3, if_neg c3]
  · rw [if_pos c1, if_neg c1]
