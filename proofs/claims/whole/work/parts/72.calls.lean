/-! ===== the calls: set, light, may, heap, garden, seed, minutes ===== -/
theorem mnL_1x {T : Nat → Int32} {a : Nat} (ha : a = 12 ∨ a = 13) : ∀ n, (mnL T n).1 a = T a := by
  intro n
  induction n with
  | zero => rfl
  | succ n ih =>
    have bT : buT (mnL T n).1 n a = (mnL T n).1 a := by
      unfold buT bu1 waT
      rw [upd_at, if_neg (by omega), teT_lo (by omega), teT_lo (by omega)]
    have bR : buR (mnL T n).1 n a = (mnL T n).1 a := by
      unfold buR
      split
      · exact bT
      · rw [goT_ne (Or.inl (by omega)), upd_at, if_neg (by omega), bT]
    show (mnS (mnL T n) n).1 a = T a
    unfold mnS
    split
    · split
      · split
        · show gwT (buR (mnL T n).1 n) n a = T a
          rw [gwT_lo (by omega), bR]; exact ih
        · show buR (mnL T n).1 n a = T a
          rw [bR]; exact ih
      · show gwT (mnL T n).1 n a = T a
        rw [gwT_lo (by omega)]; exact ih
    · exact ih
theorem minT_13 {T : Nat → Int32} (hM : MOK T) : minT T 13 = T 13 := by
  rw [minT_A (by omega) (by omega) (by omega)]
  unfold minA
  rw [laT_ne (MOK_mnL hM) (by omega), mnL_1x (Or.inr rfl)]
/-- what a state's rows hang on -/
def QlT (T T' : Nat → Int32) : Prop := ∀ a, (a = 1 ∨ a = 2 ∨ a = 3 ∨ a = 13 ∨ 251 ≤ a) → T' a = T a
theorem QlT.rf (T : Nat → Int32) : QlT T T := fun _ _ => rfl
theorem QlT.tr {A B C : Nat → Int32} (h1 : QlT A B) (h2 : QlT B C) : QlT A C := fun a ha => (h2 a ha).trans (h1 a ha)
theorem PlT.ql {T T' : Nat → Int32} (h : PlT T T') : QlT T T' := fun a ha => h a (by omega)
theorem QlT.min {T : Nat → Int32} (hM : MOK T) : QlT T (minT T) := by
  intro a ha
  by_cases c : a = 13
  · subst c; exact minT_13 hM
  · exact minT_ne hM (by omega)
theorem QlT.it : ∀ n (T : Nat → Int32), MOK T → QlT T (itT n T)
  | 0, T, _ => QlT.rf T
  | n + 1, T, h => (QlT.min h).tr (QlT.it n (minT T) (MOK_min h))
theorem TI.ql {T T' : Nat → Int32} (h : TI T) (hM : MI T') (e : QlT T T') : TI T' := by
  obtain ⟨-, h6, h7⟩ := h
  refine ⟨hM, fun n hn en k hk => ?_, fun n hn en k hk => ?_⟩
  · rw [e _ (by omega)] at en
    rw [e _ (by omega)]; exact h6 n hn en k hk
  · rw [e _ (by omega)] at en
    rw [e _ (by omega), e _ (by omega)]; exact h7 n hn en k hk
theorem SR.ql {σ σ' : Hs} {T T' : Nat → Int32} (h : SR 1 σ T) (hH : HR 2 σ' T') (e : QlT T T') (f : ∀ o, (o = 1 ∨ (16 ≤ o ∧ o ≤ 29)) → σ' o = σ o) : SR 1 σ' T' := by
  obtain ⟨h1, h2, ⟨n, n1, n2, n3⟩, ⟨m, m1, m2, m3, m4⟩, ⟨k, k1, k2, k3⟩, h6⟩ := h
  refine ⟨hH, fun u hu cnt hc ec => ?_, ⟨n, n1, ?_, ?_⟩, ⟨m, m1, ?_, ?_, ?_⟩, ⟨k, k1, ?_, ?_⟩, ?_⟩
  · rw [e _ (by omega)] at ec
    exact ((h2 u hu cnt hc ec).fr (σ' := σ') (fun o o1 o2 => f o (by omega))).cg (fun j hj => congrArg enI (e _ (by omega)))
  · rw [e _ (by omega)]; exact n2
  · exact (n3.fr (σ' := σ') (fun o o1 o2 => f o (by omega))).cg (fun j hj => e _ (by omega))
  · rw [e _ (by omega)]; exact m2
  · exact (m3.fr (σ' := σ') (fun o o1 o2 => f o (by omega))).cg (fun j hj => e _ (by omega))
  · exact (m4.fr (σ' := σ') (fun o o1 o2 => f o (by omega))).cg (fun j hj => e _ (by omega))
  · rw [e _ (by omega)]; exact k2
  · exact (k3.fr (σ' := σ') (fun o o1 o2 => f o (by omega))).cg (fun j hj => e _ (by omega))
  · rw [f 1 (by omega), e _ (by omega)]; exact h6
theorem RR.ql {i : Nat} {σ σ2 : Hs} {T' : Nat → Int32} (h : RR i σ) (e88 : σ2 88 = T') (hH : HR 2 σ2 T') (hM : MI T') (e : QlT (σ 88) T') (hP : PH (306000 * (i + 1)) T') (hW : WB σ2) (f : ∀ o, (o = 1 ∨ (16 ≤ o ∧ o ≤ 29) ∨ kpO o ∨ o = 85 ∨ o = 91) → σ2 o = σ o) (f3 : σ2 87 3 = σ 87 3) (f19 : σ2 87 19 = σ 87 19) : RR (i + 1) σ2 := by
  subst e88
  exact h.nx (h.sr.ql hH e (fun o ho => f o (by omega))) (h.ti.ql hM e) hP (h.er.fr (f 85 (by omega)) (f 91 (by omega))) hW (fun o ho => f o (Or.inr (Or.inr (Or.inl ho)))) f3 f19
theorem ofT_st {T : Nat → Int32} {k p f : Nat} {v : Int32} (hk : k < 5) : ofT (upd T (4 + k) v) p f = ofT T p f := ofT_up (by omega)
theorem MI.st {T : Nat → Int32} (h : MI T) {k n : Nat} (hk : k < 5) (h2 : k = 2 → n < 4) (h4 : k = 4 → n < 9) : MI (upd T (4 + k) (nI n)) := by
  obtain ⟨hW, ⟨⟨l0, l1, l2⟩, hK, ⟨g, g1, g2⟩, w, w1, w2⟩, hG, h11, h12⟩ := h
  have hh : ∀ j, 359 ≤ j → upd T (4 + k) (nI n) j = T j := fun j hj => by rw [upd_at, if_neg (by omega)]
  refine ⟨hW.up (Or.inl (by omega)), ⟨⟨LWT_congr hh l0, LWT_congr hh l1, LWT_congr hh l2⟩, KOK_up (Or.inl (by omega)) hK, ?_, ?_⟩, fun q hq => ?_, ?_, ?_⟩
  · by_cases c : k = 4
    · exact ⟨n, h4 c, by rw [upd_at, if_pos (by omega)]⟩
    · exact ⟨g, g1, by rw [upd_at, if_neg (by omega)]; exact g2⟩
  · by_cases c : k = 2
    · exact ⟨n, h2 c, by rw [upd_at, if_pos (by omega)]⟩
    · exact ⟨w, w1, by rw [upd_at, if_neg (by omega)]; exact w2⟩
  · rw [upd_at, upd_at, if_neg (by omega), if_neg (by omega)]; exact hG q hq
  · rw [upd_at, if_neg (by omega)]; exact h11
  · rw [upd_at, if_neg (by omega)]; exact h12
theorem QlT.st {T : Nat → Int32} {k : Nat} {v : Int32} (hk : k < 5) : QlT T (upd T (4 + k) v) := fun a ha => by rw [upd_at, if_neg (by omega)]
theorem PH.st {T : Nat → Int32} {B k : Nat} {v : Int32} (hk : k < 5) (h : PH B T) : PH B (upd T (4 + k) v) := by
  intro g hg
  obtain ⟨n, e, l⟩ := h g hg
  refine ⟨n, by rw [upd_at, if_neg (by omega)]; exact e, ?_⟩
  rw [sN_eq (T := T) (fun q _ => stN_of (ofT_st hk) (ofT_st hk))]
  exact l
theorem L_set {i : Nat} {σ : Hs} (h : RR i σ) (d : Nat) (v w : Int32) : Step d i 67 143 [.int v, .int w] σ := by
  by_cases hv : 0 ≤ v ∧ v ≤ 4
  · obtain ⟨k, -, lk, rfl⟩ := within_n (a := 0) (b := 4) hv rfl rfl (by omega) (by omega)
    have lk5 : k < 5 := by omega
    have k31 : k < 2147483648 := by omega
    have hvt := eq_true hv
    have hmo := h.most lk5
    have hst : (([1439, 99, 3, 999, 8] : List Int32).getD k 0) = mostF k := rfl
    by_cases hw : 0 ≤ w ∧ w ≤ mostF k
    · have hwt := eq_true hw
      have hn : ∃ n, w = nI n ∧ (k = 2 → n < 4) ∧ (k = 4 → n < 9) := by
        have hk : k = 0 ∨ k = 1 ∨ k = 2 ∨ k = 3 ∨ k = 4 := by omega
        have gen : ∀ b, b < 2000 → mostF k = nI b → ∃ n, n ≤ b ∧ w = nI n := by
          intro b hb e
          rw [e] at hw
          obtain ⟨n, -, l, e2⟩ := within_n (a := 0) (b := b) hw rfl rfl (by omega) (by omega)
          exact ⟨n, l, e2⟩
        rcases hk with rfl | rfl | rfl | rfl | rfl
        · obtain ⟨n, l, e⟩ := gen 1439 (by omega) rfl; exact ⟨n, e, by omega, by omega⟩
        · obtain ⟨n, l, e⟩ := gen 99 (by omega) rfl; exact ⟨n, e, by omega, by omega⟩
        · obtain ⟨n, l, e⟩ := gen 3 (by omega) rfl; exact ⟨n, e, by omega, by omega⟩
        · obtain ⟨n, l, e⟩ := gen 999 (by omega) rfl; exact ⟨n, e, by omega, by omega⟩
        · obtain ⟨n, l, e⟩ := gen 8 (by omega) rfl; exact ⟨n, e, by omega, by omega⟩
      obtain ⟨n, rfl, n2, n4⟩ := hn
      have g : σ 9 k = (σ 88) (4 + k) := h.hr.2.2.1 k lk5
      have c1 : callD (d + 100) 67 [.ref 0, .int (nI k), .int (nI n)] σ = some (some (.int (σ 88 (4 + k))), rep σ 9 (upd (σ 9) k (nI n))) := by
        simp only [c67, s67_0, s67_1, s67_2, s67_3, s67_6, s67_9, s67_10, s67_11, s67_14, s67_15_o107, s67_16, s67_19, s67_22, s67_23, s67_24_o0, s67_27, s67_28, s67_29_o0, s67_32_o1, s67_35_o2, s67_38, s67_39_o9, s67_40, s67_41, s67_42_o0, s67_45_o1, s67_48_o2, s67_51, s67_52, s67_53_o9, s67_54, s67_55, k_within, hvt, hwt, hst, b2_t, vp_nI lk5, cl_nI k31, g, up2_rep, simprocAttr, if_true, if_false, true_and, and_true, false_and, and_false, not_false_eq_true, not_true_eq_false, gd_T, kont_i, kont_v]
      have hc := m_comes (d + 98) (4 + k) (by omega) (nI n) (rep σ 9 (upd (σ 9) k (nI n)))
      rw [rep_ne (show 88 ≠ 9 by omega)] at hc
      have hix : (4 : Int32) + nI k = nI (4 + k) := nI_add 4 k
      have c2 : callD (d + 100) 143 [.ref 87, .int (nI k), .int (nI n)] (rep σ 9 (upd (σ 9) k (nI n))) = some (some (.int (σ 88 (4 + k))), rep (rep σ 9 (upd (σ 9) k (nI n))) 88 (upd (σ 88) (4 + k) (nI n))) := by
        have h94 : (rep σ 9 (upd (σ 9) k (nI n))) 94 k = mostF k := by rw [rep_ne (by omega)]; exact hmo
        simp only [c143, s143_0, s143_1, s143_2, s143_3, s143_6, s143_9, s143_10, s143_11, s143_12_o87, s143_15, s143_16_o94, s143_17, s143_20, s143_23, s143_24, s143_25, s143_26, s143_27, s143_28_o87, s143_31, s143_34, s143_35, s143_37_o87, s143_40, m_within, hvt, b2_t, vp_nI lk5, cl_nI k31, h94, hwt, hix, hc, simprocAttr, if_true, if_false, true_and, and_true, false_and, and_false, not_false_eq_true, not_true_eq_false, gd_T, kont_i, kont_v]
      refine ⟨_, _, _, c1, c2, h.ql (rep_self _ _ _) ?_ (h.mi.st lk5 n2 n4) (QlT.st lk5) (PH.st lk5 (h.ph.mono (by omega))) (h.wb.two c1 c2) ?_ ?_ ?_⟩
      · exact (h.hr.st lk5 (nI n)).fr (fun o o1 o2 => rep_ne (by omega))
      · intro o ho
        unfold kpO at ho
        rw [rep_ne (by omega), rep_ne (by omega)]
      · rw [rep_ne (by omega), rep_ne (by omega)]
      · rw [rep_ne (by omega), rep_ne (by omega)]
    · have hwf := eq_false hw
      refine Step_err h 1 (v := -1000001) ?_ ?_
      · simp only [c67, s67_0, s67_1, s67_2, s67_3, s67_6, s67_9, s67_10, s67_11, s67_14, s67_15_o107, s67_16, s67_19, s67_22, s67_23, s67_24_o0, s67_27, s67_28, s67_29_o0, s67_32_o1, s67_35_o2, s67_38, s67_39_o9, s67_40, s67_41, s67_42_o0, s67_45_o1, s67_48_o2, s67_51, s67_52, s67_53_o9, s67_54, s67_55, k_within, hvt, hwf, hst, b2_t, b2_f, vp_nI lk5, cl_nI k31, k_failed_1, simprocAttr, if_true, if_false, true_and, and_true, false_and, and_false, not_false_eq_true, not_true_eq_false, gd_T, kont_i, kont_v]
      · have h94 : (erC σ 1) 94 k = mostF k := by rw [show erC σ 1 94 = σ 94 from rep_ne (by omega)]; exact hmo
        simp only [c143, s143_0, s143_1, s143_2, s143_3, s143_6, s143_9, s143_10, s143_11, s143_12_o87, s143_15, s143_16_o94, s143_17, s143_20, s143_23, s143_24, s143_25, s143_26, s143_27, s143_28_o87, s143_31, s143_34, s143_35, s143_37_o87, s143_40, m_within, hvt, b2_t, b2_f, vp_nI lk5, cl_nI k31, h94, hwf, m_fin_1, simprocAttr, if_true, if_false, true_and, and_true, false_and, and_false, not_false_eq_true, not_true_eq_false, gd_T, kont_i, kont_v]
  · have hvf := eq_false hv
    refine Step_err h 1 (v := -1000001) ?_ ?_
    · simp only [c67, s67_0, s67_1, s67_2, s67_3, s67_6, s67_9, s67_10, s67_11, s67_14, s67_15_o107, s67_16, s67_19, s67_22, s67_23, s67_24_o0, s67_27, s67_28, s67_29_o0, s67_32_o1, s67_35_o2, s67_38, s67_39_o9, s67_40, s67_41, s67_42_o0, s67_45_o1, s67_48_o2, s67_51, s67_52, s67_53_o9, s67_54, s67_55, k_within, hvf, b2_f, k_failed_1, simprocAttr, if_true, if_false, true_and, and_true, false_and, and_false, not_false_eq_true, not_true_eq_false, gd_T, kont_i, kont_v]
    · simp only [c143, s143_0, s143_1, s143_2, s143_3, s143_6, s143_9, s143_10, s143_11, s143_12_o87, s143_15, s143_16_o94, s143_17, s143_20, s143_23, s143_24, s143_25, s143_26, s143_27, s143_28_o87, s143_31, s143_34, s143_35, s143_37_o87, s143_40, m_within, hvf, b2_f, m_fin_1, simprocAttr, if_true, if_false, true_and, and_true, false_and, and_false, not_false_eq_true, not_true_eq_false, gd_T, kont_i, kont_v]
/-- the by-law -/
def byI (T : Nat → Int32) : Int32 := givT T 1 (T 4 / 60) (T 5) (sumU T 6 30) (sumU T 0 30)
theorem k_bylawLets (d : Nat) (σ : Hs) (T : Nat → Int32) (h : HR 2 σ T) (hW : WI T) (hL : LR σ T) (hM : LWT T 1) : ∃ σ', callD (d + 3) 101 [.ref 0] σ = some (some (.int (b2 (¬ byI T = 0))), σ') ∧ ∀ o, o ≠ 15 → σ' o = σ o := by
  have hhas : callD (d + 2) 31 [.ref 13, .int 1] σ = _ := k_has_1 (d + 1) σ T hL.2.1
  have x7 : σ 9 1 = T 5 := h.2.2.1 1 (by omega)
  have hh : callD (d + 2) 5 [.ref 2] σ = some (some (.int (T 4 / 60)), σ) := h2_hourNow (d + 1) σ T h
  have hl := h2_howManyLit d σ T h hW.P hW.B
  have hm := h2_howMany d σ T h hW.P
  unfold byI givT
  by_cases c : 0 < T 421
  · obtain ⟨σ1, e1, f1⟩ := k_work_1 d (T 4 / 60) (T 5) (sumU T 6 30) (sumU T 0 30) σ T hL.2.1 hM c
    refine ⟨σ1, ?_, f1⟩
    simp only [simprocAttr, if_true, if_false, true_and, and_true, false_and, and_false, not_false_eq_true, not_true_eq_false, gd_T, kont_i, kont_v]
    rw [if_neg (show ¬ T 421 ≤ 0 from Int32.not_le.mpr c)]
    simp only [c101, c101, s101_0, s101_1_o0, s101_4_o1, s101_7, s101_8_o13, s101_11, s101_14, s101_15, s101_16, s101_17_o0, s101_20_o1, s101_23, s101_24, s101_25_o0, s101_28_o1, s101_31, s101_32, s101_33_o2, s101_36, s101_37_o2, s101_40, s101_41_o9, s101_42, s101_43_o2, s101_46, s101_47_o2, s101_50_o13, s101_53, s101_56, s101_57, s101_60, s101_61, vp_lit, hhas, b2_T c, hh, x7, hl, hm, e1, isB_0, isB_1, simprocAttr, if_true, if_false, true_and, and_true, false_and, and_false, not_false_eq_true, not_true_eq_false, gd_T, kont_i, kont_v]
    by_cases z : lawT T 1 (T 4 / 60) (T 5) (sumU T 6 30) (sumU T 0 30) = 0
    · rw [if_pos z, b2_F (fun q => q z)]
    · rw [if_neg z, b2_T z]
  · refine ⟨σ, ?_, fun _ _ => rfl⟩
    simp only [simprocAttr, if_true, if_false, true_and, and_true, false_and, and_false, not_false_eq_true, not_true_eq_false, gd_T, kont_i, kont_v]
    rw [if_pos (show T 421 ≤ 0 from Int32.not_lt.mp c)]
    simp only [c101, c101, s101_0, s101_1_o0, s101_4_o1, s101_7, s101_8_o13, s101_11, s101_14, s101_15, s101_16, s101_17_o0, s101_20_o1, s101_23, s101_24, s101_25_o0, s101_28_o1, s101_31, s101_32, s101_33_o2, s101_36, s101_37_o2, s101_40, s101_41_o9, s101_42, s101_43_o2, s101_46, s101_47_o2, s101_50_o13, s101_53, s101_56, s101_57, s101_60, s101_61, hhas, b2_F c, isB_1, simprocAttr, if_true, if_false, true_and, and_true, false_and, and_false, not_false_eq_true, not_true_eq_false, gd_T, kont_i, kont_v]
    rw [b2_T trivial]
theorem m_mayBe (d : Nat) (σ : Hs) (hM : LWT (σ 88) 1) : ∃ σ', callD (d + 4) 161 [.ref 87] σ = some (some (.int (b2 (¬ byI (σ 88) = 0))), σ') ∧ ∀ o, o ≠ 97 → o ≠ 98 → σ' o = σ o := by
  obtain ⟨σ1, e1, f1⟩ := m_given_1 d (σ 88 4 / 60) (σ 88 5) (sumU (σ 88) 6 30) (sumU (σ 88) 0 30) σ hM
  refine ⟨σ1, ?_, f1⟩
  unfold byI
  simp only [c161, s161_0, s161_1, s161_2, s161_3_o87, s161_6, s161_7_o88, s161_8, s161_10, s161_11, s161_12_o87, s161_15, s161_16_o88, s161_17, s161_18, s161_20_o87, s161_23, s161_24, s161_25_o87, s161_28_o87, s161_31, s161_34, s161_35, s161_38, s161_39, vp_lit, z60, m_sum_6, m_sum_0, e1, isB_0, isB_1, not_false_eq_true, simprocAttr, if_true, if_false, true_and, and_true, false_and, and_false, not_false_eq_true, not_true_eq_false, gd_T, kont_i, kont_v]
  by_cases z : givT (σ 88) 1 (σ 88 4 / 60) (σ 88 5) (sumU (σ 88) 6 30) (sumU (σ 88) 0 30) = 0
  · rw [if_pos z, b2_F (fun q => q z)]
  · rw [if_neg z, b2_T z]
/-- a call that changes what no one keeps -/
theorem RR.keep {i : Nat} {σ σ2 : Hs} (h : RR i σ) (hW : WB σ2) (f : ∀ o, (o = 88 ∨ (1 ≤ o ∧ o ≤ 14) ∨ (16 ≤ o ∧ o ≤ 29) ∨ kpO o ∨ o = 85 ∨ o = 91) → σ2 o = σ o) (f3 : σ2 87 3 = σ 87 3) (f19 : σ2 87 19 = σ 87 19) : RR (i + 1) σ2 := by
  refine h.ql (f 88 (Or.inl rfl)) ?_ h.mi (QlT.rf _) (h.ph.mono (by omega)) hW (fun o ho => f o (by unfold kpO at ho ⊢; omega)) f3 f19
  exact h.hr.fr (fun o o1 o2 => f o (by omega))
theorem L_may {i : Nat} {σ : Hs} (h : RR i σ) (d : Nat) : Step d i 77 162 [] σ := by
  obtain ⟨σ1, e1, f1⟩ := k_bylawLets (d + 96) σ (σ 88) h.hr h.wi h.lr h.ti.L.2.1
  have f88 : σ1 88 = σ 88 := f1 88 (by omega)
  obtain ⟨σ2, e2, f2⟩ := m_mayBe (d + 95) σ1 (by rw [f88]; exact h.ti.L.2.1)
  rw [f88] at e2
  have c1 : callD (d + 100) 77 [.ref 0] σ = some (some (.int (b2 (¬ byI (σ 88) = 0))), σ1) := by
    simp only [c77, s77_0, s77_1_o0, s77_4, s77_7, s77_8, s77_11, s77_12, e1, simprocAttr, if_true, if_false, true_and, and_true, false_and, and_false, not_false_eq_true, not_true_eq_false, gd_T, kont_i, kont_v]
    by_cases z : byI (σ 88) = 0
    · rw [b2_F (fun q => q z)]; simp only [simprocAttr, if_true, if_false, true_and, and_true, false_and, and_false, not_false_eq_true, not_true_eq_false, gd_T, kont_i, kont_v]
    · rw [b2_T z]; simp only [simprocAttr, if_true, if_false, true_and, and_true, false_and, and_false, not_false_eq_true, not_true_eq_false, gd_T, kont_i, kont_v]
  have c2 : callD (d + 100) 162 [.ref 87] σ1 = some (some (.int (b2 (¬ byI (σ 88) = 0))), σ2) := by
    simp only [c162, s162_0, s162_1_o87, s162_4, s162_7, s162_8, s162_11, s162_12, e2, simprocAttr, if_true, if_false, true_and, and_true, false_and, and_false, not_false_eq_true, not_true_eq_false, gd_T, kont_i, kont_v]
    by_cases z : byI (σ 88) = 0
    · rw [b2_F (fun q => q z)]; simp only [simprocAttr, if_true, if_false, true_and, and_true, false_and, and_false, not_false_eq_true, not_true_eq_false, gd_T, kont_i, kont_v]
    · rw [b2_T z]; simp only [simprocAttr, if_true, if_false, true_and, and_true, false_and, and_false, not_false_eq_true, not_true_eq_false, gd_T, kont_i, kont_v]
  have ff : ∀ o, o ≠ 15 → o ≠ 97 → o ≠ 98 → σ2 o = σ o := fun o o1 o2 o3 => (f2 o o2 o3).trans (f1 o o1)
  exact ⟨_, _, _, c1, c2, h.keep (h.wb.two c1 c2) (fun o ho => ff o (by unfold kpO at ho; omega) (by unfold kpO at ho; omega) (by unfold kpO at ho; omega)) (by rw [ff 87 (by omega) (by omega) (by omega)]) (by rw [ff 87 (by omega) (by omega) (by omega)])⟩
