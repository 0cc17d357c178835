/-! ===== the calls: set, light, may, heap, garden, seed, minutes ===== -/
theorem mnL_1x {T : Nat → Int32} {a : Nat} (ha : a = 12 ∨ a = 13) : ∀ n, (mnL T n).1 a = T a := by
  intro n
  induction n with
  | zero => rfl
  | succ n ih =>
    have bT : buT (mnL T n).1 n a = (mnL T n).1 a := by
      unfold buT bu1 waT
      rw [upd_at, if_neg (by omega), teT_lo (by omega), teT_lo (by omega)]
    have bR : buR (mnL T n).1 n a = (mnL T n).1 a := by
      unfold buR
      split
      · exact bT
      · rw [goT_ne (Or.inl (by omega)), upd_at, if_neg (by omega), bT]
    show (mnS (mnL T n) n).1 a = T a
    unfold mnS
    split
    · split
      · split
        · show gwT (buR (mnL T n).1 n) n a = T a
          rw [gwT_lo (by omega), bR]; exact ih
        · show buR (mnL T n).1 n a = T a
          rw [bR]; exact ih
      · show gwT (mnL T n).1 n a = T a
        rw [gwT_lo (by omega)]; exact ih
    · exact ih
theorem minT_13 {T : Nat → Int32} (hM : MOK T) : minT T 13 = T 13 := by
  rw [minT_A (by omega) (by omega) (by omega)]
  unfold minA
  rw [laT_ne (MOK_mnL hM) (by omega), mnL_1x (Or.inr rfl)]
/-- what a state's rows hang on -/
def QlT (T T' : Nat → Int32) : Prop := ∀ a, (a = 1 ∨ a = 2 ∨ a = 3 ∨ a = 13 ∨ 251 ≤ a) → T' a = T a
theorem QlT.rf (T : Nat → Int32) : QlT T T := fun _ _ => rfl
theorem QlT.tr {A B C : Nat → Int32} (h1 : QlT A B) (h2 : QlT B C) : QlT A C := fun a ha => (h2 a ha).trans (h1 a ha)
theorem PlT.ql {T T' : Nat → Int32} (h : PlT T T') : QlT T T' := fun a ha => h a (by omega)
theorem QlT.min {T : Nat → Int32} (hM : MOK T) : QlT T (minT T) := by
  intro a ha
  by_cases c : a = 13
  · subst c; exact minT_13 hM
  · exact minT_ne hM (by omega)
theorem QlT.it : ∀ n (T : Nat → Int32), MOK T → QlT T (itT n T)
  | 0, T, _ => QlT.rf T
  | n + 1, T, h => (QlT.min h).tr (QlT.it n (minT T) (MOK_min h))
theorem TI.ql {T T' : Nat → Int32} (h : TI T) (hM : MI T') (e : QlT T T') : TI T' := by
  obtain ⟨-, h6, h7⟩ := h
  refine ⟨hM, fun n hn en k hk => ?_, fun n hn en k hk => ?_⟩
  · rw [e _ (by omega)] at en
    rw [e _ (by omega)]; exact h6 n hn en k hk
  · rw [e _ (by omega)] at en
    rw [e _ (by omega), e _ (by omega)]; exact h7 n hn en k hk
theorem SR.ql {σ σ' : Hs} {T T' : Nat → Int32} (h : SR 1 σ T) (hH : HR 2 σ' T') (e : QlT T T') (f : ∀ o, (o = 1 ∨ (16 ≤ o ∧ o ≤ 29)) → σ' o = σ o) : SR 1 σ' T' := by
  obtain ⟨h1, h2, ⟨n, n1, n2, n3⟩, ⟨m, m1, m2, m3, m4⟩, ⟨k, k1, k2, k3⟩, h6⟩ := h
  refine ⟨hH, fun u hu cnt hc ec => ?_, ⟨n, n1, ?_, ?_⟩, ⟨m, m1, ?_, ?_, ?_⟩, ⟨k, k1, ?_, ?_⟩, ?_⟩
  · rw [e _ (by omega)] at ec
    exact ((h2 u hu cnt hc ec).fr (σ' := σ') (fun o o1 o2 => f o (by omega))).cg (fun j hj => congrArg enI (e _ (by omega)))
  · rw [e _ (by omega)]; exact n2
  · exact (n3.fr (σ' := σ') (fun o o1 o2 => f o (by omega))).cg (fun j hj => e _ (by omega))
  · rw [e _ (by omega)]; exact m2
  · exact (m3.fr (σ' := σ') (fun o o1 o2 => f o (by omega))).cg (fun j hj => e _ (by omega))
  · exact (m4.fr (σ' := σ') (fun o o1 o2 => f o (by omega))).cg (fun j hj => e _ (by omega))
  · rw [e _ (by omega)]; exact k2
  · exact (k3.fr (σ' := σ') (fun o o1 o2 => f o (by omega))).cg (fun j hj => e _ (by omega))
  · rw [f 1 (by omega), e _ (by omega)]; exact h6
theorem RR.ql {i : Nat} {σ σ2 : Hs} {T' : Nat → Int32} (h : RR i σ) (e88 : σ2 88 = T') (hH : HR 2 σ2 T') (hM : MI T') (e : QlT (σ 88) T') (hP : PH (306000 * (i + 1)) T') (hW : WB σ2) (f : ∀ o, (o = 1 ∨ (16 ≤ o ∧ o ≤ 29) ∨ kpO o ∨ o = 85 ∨ o = 91) → σ2 o = σ o) (f3 : σ2 87 3 = σ 87 3) (f19 : σ2 87 19 = σ 87 19) : RR (i + 1) σ2 := by
  subst e88
  exact h.nx (h.sr.ql hH e (fun o ho => f o (by omega))) (h.ti.ql hM e) hP (h.er.fr (f 85 (by omega)) (f 91 (by omega))) hW (fun o ho => f o (Or.inr (Or.inr (Or.inl ho)))) f3 f19
theorem ofT_st {T : Nat → Int32} {k p f : Nat} {v : Int32} (hk : k < 5) : ofT (upd T (4 + k) v) p f = ofT T p f := ofT_up (by omega)
theorem MI.st {T : Nat → Int32} (h : MI T) {k n : Nat} (hk : k < 5) (h2 : k = 2 → n < 4) (h4 : k = 4 → n < 9) : MI (upd T (4 + k) (nI n)) := by
  obtain ⟨hW, ⟨⟨l0, l1, l2⟩, hK, ⟨g, g1, g2⟩, w, w1, w2⟩, hG, h11, h12⟩ := h
  have hh : ∀ j, 359 ≤ j → upd T (4 + k) (nI n) j = T j := fun j hj => by rw [upd_at, if_neg (by omega)]
  refine ⟨hW.up (Or.inl (by omega)), ⟨⟨LWT_congr hh l0, LWT_congr hh l1, LWT_congr hh l2⟩, KOK_up (Or.inl (by omega)) hK, ?_, ?_⟩, fun q hq => ?_, ?_, ?_⟩
  · by_cases c : k = 4
    · exact ⟨n, h4 c, by rw [upd_at, if_pos (by omega)]⟩
    · exact ⟨g, g1, by rw [upd_at, if_neg (by omega)]; exact g2⟩
  · by_cases c : k = 2
    · exact ⟨n, h2 c, by rw [upd_at, if_pos (by omega)]⟩
    · exact ⟨w, w1, by rw [upd_at, if_neg (by omega)]; exact w2⟩
  · rw [upd_at, upd_at, if_neg (by omega), if_neg (by omega)]; exact hG q hq
  · rw [upd_at, if_neg (by omega)]; exact h11
  · rw [upd_at, if_neg (by omega)]; exact h12
theorem QlT.st {T : Nat → Int32} {k : Nat} {v : Int32} (hk : k < 5) : QlT T (upd T (4 + k) v) := fun a ha => by rw [upd_at, if_neg (by omega)]
theorem PH.st {T : Nat → Int32} {B k : Nat} {v : Int32} (hk : k < 5) (h : PH B T) : PH B (upd T (4 + k) v) := by
  intro g hg
  obtain ⟨n, e, l⟩ := h g hg
  refine ⟨n, by rw [upd_at, if_neg (by omega)]; exact e, ?_⟩
  rw [sN_eq (T := T) (fun q _ => stN_of (ofT_st hk) (ofT_st hk))]
  exact l
theorem L_set {i : Nat} {σ : Hs} (h : RR i σ) (d : Nat) (v w : Int32) : Step d i 66 142 [.int v, .int w] σ := by
  by_cases hv : 0 ≤ v ∧ v ≤ 4
  · obtain ⟨k, -, lk, rfl⟩ := within_n (a := 0) (b := 4) hv rfl rfl (by omega) (by omega)
    have lk5 : k < 5 := by omega
    have k31 : k < 2147483648 := by omega
    have hvt := eq_true hv
    have hmo := h.most lk5
    have hst : (([1439, 99, 3, 999, 8] : List Int32).getD k 0) = mostF k := rfl
    by_cases hw : 0 ≤ w ∧ w ≤ mostF k
    · have hwt := eq_true hw
      have hn : ∃ n, w = nI n ∧ (k = 2 → n < 4) ∧ (k = 4 → n < 9) := by
        have hk : k = 0 ∨ k = 1 ∨ k = 2 ∨ k = 3 ∨ k = 4 := by omega
        have gen : ∀ b, b < 2000 → mostF k = nI b → ∃ n, n ≤ b ∧ w = nI n := by
          intro b hb e
          rw [e] at hw
          obtain ⟨n, -, l, e2⟩ := within_n (a := 0) (b := b) hw rfl rfl (by omega) (by omega)
          exact ⟨n, l, e2⟩
        rcases hk with rfl | rfl | rfl | rfl | rfl
        · obtain ⟨n, l, e⟩ := gen 1439 (by omega) rfl; exact ⟨n, e, by omega, by omega⟩
        · obtain ⟨n, l, e⟩ := gen 99 (by omega) rfl; exact ⟨n, e, by omega, by omega⟩
        · obtain ⟨n, l, e⟩ := gen 3 (by omega) rfl; exact ⟨n, e, by omega, by omega⟩
        · obtain ⟨n, l, e⟩ := gen 999 (by omega) rfl; exact ⟨n, e, by omega, by omega⟩
        · obtain ⟨n, l, e⟩ := gen 8 (by omega) rfl; exact ⟨n, e, by omega, by omega⟩
      obtain ⟨n, rfl, n2, n4⟩ := hn
      have g : σ 9 k = (σ 88) (4 + k) := h.hr.2.2.1 k lk5
      have c1 : callD (d + 100) 66 [.ref 0, .int (nI k), .int (nI n)] σ = some (some (.int (σ 88 (4 + k))), rep σ 9 (upd (σ 9) k (nI n))) := by
        simp only [c66, s66_0, s66_1, s66_2, s66_3, s66_6, s66_9, s66_10, s66_11, s66_14, s66_15_o107, s66_16, s66_19, s66_22, s66_23, s66_24_o0, s66_27, s66_28, s66_29_o0, s66_32_o1, s66_35_o2, s66_38, s66_39_o9, s66_40, s66_41, s66_42_o0, s66_45_o1, s66_48_o2, s66_51, s66_52, s66_53_o9, s66_54, s66_55, k_within, hvt, hwt, hst, b2_t, vp_nI lk5, cl_nI k31, g, up2_rep, simprocAttr, if_true, if_false, true_and, and_true, false_and, and_false, not_false_eq_true, not_true_eq_false, gd_T, kont_i, kont_v]
      have hc := m_comes (d + 98) (4 + k) (by omega) (nI n) (rep σ 9 (upd (σ 9) k (nI n)))
      rw [rep_ne (show 88 ≠ 9 by omega)] at hc
      have hix : (4 : Int32) + nI k = nI (4 + k) := nI_add 4 k
      have c2 : callD (d + 100) 142 [.ref 87, .int (nI k), .int (nI n)] (rep σ 9 (upd (σ 9) k (nI n))) = some (some (.int (σ 88 (4 + k))), rep (rep σ 9 (upd (σ 9) k (nI n))) 88 (upd (σ 88) (4 + k) (nI n))) := by
        have h94 : (rep σ 9 (upd (σ 9) k (nI n))) 94 k = mostF k := by rw [rep_ne (by omega)]; exact hmo
        simp only [c142, s142_0, s142_1, s142_2, s142_3, s142_6, s142_9, s142_10, s142_11, s142_12_o87, s142_15, s142_16_o94, s142_17, s142_20, s142_23, s142_24, s142_25, s142_26, s142_27, s142_28_o87, s142_31, s142_34, s142_35, s142_37_o87, s142_40, m_within, hvt, b2_t, vp_nI lk5, cl_nI k31, h94, hwt, hix, hc, simprocAttr, if_true, if_false, true_and, and_true, false_and, and_false, not_false_eq_true, not_true_eq_false, gd_T, kont_i, kont_v]
      refine ⟨_, _, _, c1, c2, h.ql (rep_self _ _ _) ?_ (h.mi.st lk5 n2 n4) (QlT.st lk5) (PH.st lk5 (h.ph.mono (by omega))) (h.wb.two c1 c2) ?_ ?_ ?_⟩
      · exact (h.hr.st lk5 (nI n)).fr (fun o o1 o2 => rep_ne (by omega))
      · intro o ho
        unfold kpO at ho
        rw [rep_ne (by omega), rep_ne (by omega)]
      · rw [rep_ne (by omega), rep_ne (by omega)]
      · rw [rep_ne (by omega), rep_ne (by omega)]
    · have hwf := eq_false hw
      refine Step_err h 1 (v := -1000001) ?_ ?_
      · simp only [c66, s66_0, s66_1, s66_2, s66_3, s66_6, s66_9, s66_10, s66_11, s66_14, s66_15_o107, s66_16, s66_19, s66_22, s66_23, s66_24_o0, s66_27, s66_28, s66_29_o0, s66_32_o1, s66_35_o2, s66_38, s66_39_o9, s66_40, s66_41, s66_42_o0, s66_45_o1, s66_48_o2, s66_51, s66_52, s66_53_o9, s66_54, s66_55, k_within, hvt, hwf, hst, b2_t, b2_f, vp_nI lk5, cl_nI k31, k_failed_1, simprocAttr, if_true, if_false, true_and, and_true, false_and, and_false, not_false_eq_true, not_true_eq_false, gd_T, kont_i, kont_v]
      · have h94 : (erC σ 1) 94 k = mostF k := by rw [show erC σ 1 94 = σ 94 from rep_ne (by omega)]; exact hmo
        simp only [c142, s142_0, s142_1, s142_2, s142_3, s142_6, s142_9, s142_10, s142_11, s142_12_o87, s142_15, s142_16_o94, s142_17, s142_20, s142_23, s142_24, s142_25, s142_26, s142_27, s142_28_o87, s142_31, s142_34, s142_35, s142_37_o87, s142_40, m_within, hvt, b2_t, b2_f, vp_nI lk5, cl_nI k31, h94, hwf, m_fin_1, simprocAttr, if_true, if_false, true_and, and_true, false_and, and_false, not_false_eq_true, not_true_eq_false, gd_T, kont_i, kont_v]
  · have hvf := eq_false hv
    refine Step_err h 1 (v := -1000001) ?_ ?_
    · simp only [c66, s66_0, s66_1, s66_2, s66_3, s66_6, s66_9, s66_10, s66_11, s66_14, s66_15_o107, s66_16, s66_19, s66_22, s66_23, s66_24_o0, s66_27, s66_28, s66_29_o0, s66_32_o1, s66_35_o2, s66_38, s66_39_o9, s66_40, s66_41, s66_42_o0, s66_45_o1, s66_48_o2, s66_51, s66_52, s66_53_o9, s66_54, s66_55, k_within, hvf, b2_f, k_failed_1, simprocAttr, if_true, if_false, true_and, and_true, false_and, and_false, not_false_eq_true, not_true_eq_false, gd_T, kont_i, kont_v]
    · simp only [c142, s142_0, s142_1, s142_2, s142_3, s142_6, s142_9, s142_10, s142_11, s142_12_o87, s142_15, s142_16_o94, s142_17, s142_20, s142_23, s142_24, s142_25, s142_26, s142_27, s142_28_o87, s142_31, s142_34, s142_35, s142_37_o87, s142_40, m_within, hvf, b2_f, m_fin_1, simprocAttr, if_true, if_false, true_and, and_true, false_and, and_false, not_false_eq_true, not_true_eq_false, gd_T, kont_i, kont_v]
/-- the by-law -/
def byI (T : Nat → Int32) : Int32 := givT T 1 (T 4 / 60) (T 5) (sumU T 6 30) (sumU T 0 30)
theorem k_bylawLets (d : Nat) (σ : Hs) (T : Nat → Int32) (h : HR 2 σ T) (hW : WI T) (hL : LR σ T) (hM : LWT T 1) : ∃ σ', callD (d + 3) 100 [.ref 0] σ = some (some (.int (b2 (¬ byI T = 0))), σ') ∧ ∀ o, o ≠ 15 → σ' o = σ o := by
  have hhas : callD (d + 2) 30 [.ref 13, .int 1] σ = _ := k_has_1 (d + 1) σ T hL.2.1
  have x7 : σ 9 1 = T 5 := h.2.2.1 1 (by omega)
  have hh : callD (d + 2) 5 [.ref 2] σ = some (some (.int (T 4 / 60)), σ) := h2_hourNow (d + 1) σ T h
  have hl := h2_howManyLit d σ T h hW.P hW.B
  have hm := h2_howMany d σ T h hW.P
  unfold byI givT
  by_cases c : 0 < T 421
  · obtain ⟨σ1, e1, f1⟩ := k_work_1 d (T 4 / 60) (T 5) (sumU T 6 30) (sumU T 0 30) σ T hL.2.1 hM c
    refine ⟨σ1, ?_, f1⟩
    simp only [simprocAttr, if_true, if_false, true_and, and_true, false_and, and_false, not_false_eq_true, not_true_eq_false, gd_T, kont_i, kont_v]
    rw [if_neg (show ¬ T 421 ≤ 0 from Int32.not_le.mpr c)]
    simp only [c100, c100, s100_0, s100_1_o0, s100_4_o1, s100_7, s100_8_o13, s100_11, s100_14, s100_15, s100_16, s100_17_o0, s100_20_o1, s100_23, s100_24, s100_25_o0, s100_28_o1, s100_31, s100_32, s100_33_o2, s100_36, s100_37_o2, s100_40, s100_41_o9, s100_42, s100_43_o2, s100_46, s100_47_o2, s100_50_o13, s100_53, s100_56, s100_57, s100_60, s100_61, vp_lit, hhas, b2_T c, hh, x7, hl, hm, e1, isB_0, isB_1, simprocAttr, if_true, if_false, true_and, and_true, false_and, and_false, not_false_eq_true, not_true_eq_false, gd_T, kont_i, kont_v]
    by_cases z : lawT T 1 (T 4 / 60) (T 5) (sumU T 6 30) (sumU T 0 30) = 0
    · rw [if_pos z, b2_F (fun q => q z)]
    · rw [if_neg z, b2_T z]
  · refine ⟨σ, ?_, fun _ _ => rfl⟩
    simp only [simprocAttr, if_true, if_false, true_and, and_true, false_and, and_false, not_false_eq_true, not_true_eq_false, gd_T, kont_i, kont_v]
    rw [if_pos (show T 421 ≤ 0 from Int32.not_lt.mp c)]
    simp only [c100, c100, s100_0, s100_1_o0, s100_4_o1, s100_7, s100_8_o13, s100_11, s100_14, s100_15, s100_16, s100_17_o0, s100_20_o1, s100_23, s100_24, s100_25_o0, s100_28_o1, s100_31, s100_32, s100_33_o2, s100_36, s100_37_o2, s100_40, s100_41_o9, s100_42, s100_43_o2, s100_46, s100_47_o2, s100_50_o13, s100_53, s100_56, s100_57, s100_60, s100_61, hhas, b2_F c, isB_1, simprocAttr, if_true, if_false, true_and, and_true, false_and, and_false, not_false_eq_true, not_true_eq_false, gd_T, kont_i, kont_v]
    rw [b2_T trivial]
theorem m_mayBe (d : Nat) (σ : Hs) (hM : LWT (σ 88) 1) : ∃ σ', callD (d + 4) 160 [.ref 87] σ = some (some (.int (b2 (¬ byI (σ 88) = 0))), σ') ∧ ∀ o, o ≠ 97 → o ≠ 98 → σ' o = σ o := by
  obtain ⟨σ1, e1, f1⟩ := m_given_1 d (σ 88 4 / 60) (σ 88 5) (sumU (σ 88) 6 30) (sumU (σ 88) 0 30) σ hM
  refine ⟨σ1, ?_, f1⟩
  unfold byI
  simp only [c160, s160_0, s160_1, s160_2, s160_3_o87, s160_6, s160_7_o88, s160_8, s160_10, s160_11, s160_12_o87, s160_15, s160_16_o88, s160_17, s160_18, s160_20_o87, s160_23, s160_24, s160_25_o87, s160_28_o87, s160_31, s160_34, s160_35, s160_38, s160_39, vp_lit, z60, m_sum_6, m_sum_0, e1, isB_0, isB_1, not_false_eq_true, simprocAttr, if_true, if_false, true_and, and_true, false_and, and_false, not_false_eq_true, not_true_eq_false, gd_T, kont_i, kont_v]
  by_cases z : givT (σ 88) 1 (σ 88 4 / 60) (σ 88 5) (sumU (σ 88) 6 30) (sumU (σ 88) 0 30) = 0
  · rw [if_pos z, b2_F (fun q => q z)]
  · rw [if_neg z, b2_T z]
/-- a call that changes what no one keeps -/
theorem RR.keep {i : Nat} {σ σ2 : Hs} (h : RR i σ) (hW : WB σ2) (f : ∀ o, (o = 88 ∨ (1 ≤ o ∧ o ≤ 14) ∨ (16 ≤ o ∧ o ≤ 29) ∨ kpO o ∨ o = 85 ∨ o = 91) → σ2 o = σ o) (f3 : σ2 87 3 = σ 87 3) (f19 : σ2 87 19 = σ 87 19) : RR (i + 1) σ2 := by
  refine h.ql (f 88 (Or.inl rfl)) ?_ h.mi (QlT.rf _) (h.ph.mono (by omega)) hW (fun o ho => f o (by unfold kpO at ho ⊢; omega)) f3 f19
  exact h.hr.fr (fun o o1 o2 => f o (by omega))
theorem L_may {i : Nat} {σ : Hs} (h : RR i σ) (d : Nat) : Step d i 76 161 [] σ := by
  obtain ⟨σ1, e1, f1⟩ := k_bylawLets (d + 96) σ (σ 88) h.hr h.wi h.lr h.ti.L.2.1
  have f88 : σ1 88 = σ 88 := f1 88 (by omega)
  obtain ⟨σ2, e2, f2⟩ := m_mayBe (d + 95) σ1 (by rw [f88]; exact h.ti.L.2.1)
  rw [f88] at e2
  have c1 : callD (d + 100) 76 [.ref 0] σ = some (some (.int (b2 (¬ byI (σ 88) = 0))), σ1) := by
    simp only [c76, s76_0, s76_1_o0, s76_4, s76_7, s76_8, s76_11, s76_12, e1, simprocAttr, if_true, if_false, true_and, and_true, false_and, and_false, not_false_eq_true, not_true_eq_false, gd_T, kont_i, kont_v]
    by_cases z : byI (σ 88) = 0
    · rw [b2_F (fun q => q z)]; simp only [simprocAttr, if_true, if_false, true_and, and_true, false_and, and_false, not_false_eq_true, not_true_eq_false, gd_T, kont_i, kont_v]
    · rw [b2_T z]; simp only [simprocAttr, if_true, if_false, true_and, and_true, false_and, and_false, not_false_eq_true, not_true_eq_false, gd_T, kont_i, kont_v]
  have c2 : callD (d + 100) 161 [.ref 87] σ1 = some (some (.int (b2 (¬ byI (σ 88) = 0))), σ2) := by
    simp only [c161, s161_0, s161_1_o87, s161_4, s161_7, s161_8, s161_11, s161_12, e2, simprocAttr, if_true, if_false, true_and, and_true, false_and, and_false, not_false_eq_true, not_true_eq_false, gd_T, kont_i, kont_v]
    by_cases z : byI (σ 88) = 0
    · rw [b2_F (fun q => q z)]; simp only [simprocAttr, if_true, if_false, true_and, and_true, false_and, and_false, not_false_eq_true, not_true_eq_false, gd_T, kont_i, kont_v]
    · rw [b2_T z]; simp only [simprocAttr, if_true, if_false, true_and, and_true, false_and, and_false, not_false_eq_true, not_true_eq_false, gd_T, kont_i, kont_v]
  have ff : ∀ o, o ≠ 15 → o ≠ 97 → o ≠ 98 → σ2 o = σ o := fun o o1 o2 o3 => (f2 o o2 o3).trans (f1 o o1)
  exact ⟨_, _, _, c1, c2, h.keep (h.wb.two c1 c2) (fun o ho => ff o (by unfold kpO at ho; omega) (by unfold kpO at ho; omega) (by unfold kpO at ho; omega)) (by rw [ff 87 (by omega) (by omega) (by omega)]) (by rw [ff 87 (by omega) (by omega) (by omega)])⟩
