/-! ===== the call: text ===== -/
def txC (σ : Hs) (s : Int32) : Hs := rep σ 70 (upd (upd (σ 70) 1 22) 2 s)
def txM (τ : Hs) (u : Int32) : Hs := rep τ 87 (upd (τ 87) 11 u)
def txZ (τ : Hs) : Hs := rep τ 22 (upd (τ 22) 1 0)
theorem txC_o (σ : Hs) (s : Int32) {o : Nat} (h : o ≠ 70) : txC σ s o = σ o := rep_ne h
theorem txM_o (σ : Hs) (s : Int32) {o : Nat} (h : o ≠ 87) : txM σ s o = σ o := rep_ne h
theorem txC_1 (σ : Hs) (s : Int32) : txC σ s 70 1 = 22 := by
  unfold txC
  rw [rep_self, upd_at, if_neg (by omega), upd_at, if_pos rfl]
theorem txC_2 (σ : Hs) (s : Int32) : txC σ s 70 2 = s := by
  unfold txC
  rw [rep_self, upd_at, if_pos rfl]
theorem txM_u (σ : Hs) (s : Int32) : txM σ s 87 11 = s := by
  unfold txM
  rw [rep_self, upd_at, if_pos rfl]
theorem rcS_inj {σ0 : Hs} {a b : Nat} {X Y : List Int32} {w v : Bool} (e : rcS σ0 a X w = rcS σ0 b Y v) (ha : a ≤ 60) (hb : b ≤ 60) : a = b ∧ w = v ∧ sz6 X = sz6 Y := by
  refine ⟨?_, ?_, ?_⟩
  · have := congrFun (congrFun e 70) 3
    rw [rc_at, rc_at, nI_eq (by omega) (by omega)] at this
    exact this
  · have := congrFun (congrFun e 70) 4
    rw [rc_w, rc_w] at this
    exact pI_inj this
  · have := congrFun (congrFun e 71) 1
    rw [rc_71, rc_71, upd_at, upd_at, if_pos rfl, if_pos rfl] at this
    exact this
theorem sz6_inj {X Y : List Int32} (e : sz6 X = sz6 Y) (hx : X.length ≤ 60) (hy : Y.length ≤ 60) : X.length = Y.length := by
  unfold sz6 at e
  rw [nI_eq (by omega) (by omega)] at e
  omega
theorem fl6_rev (F : Nat → Int32) : ∀ (L : List Int32), L.length ≤ 60 → ∀ k, k < L.length → fl6 F L k = L.reverse.getD k 0 := by
  intro L
  induction L with
  | nil => intro _ k hk; exact absurd hk (Nat.not_lt_zero _)
  | cons v L ih =>
    intro hl k hk
    rw [List.length_cons] at hl hk
    rw [fl6, if_pos (by omega), upd_at, List.reverse_cons]
    by_cases c : k = L.length
    · rw [if_pos c, c, List.getD_eq_getElem?_getD, List.getElem?_append_right (by rw [List.length_reverse]; omega), List.length_reverse, Nat.sub_self]
      rfl
    · rw [if_neg c, ih (by omega) k (by omega), List.getD_eq_getElem?_getD, List.getD_eq_getElem?_getD, List.getElem?_append_left (by rw [List.length_reverse]; omega)]
theorem fl6_map (F G : Nat → Int32) : ∀ (C : List Int32), C.length ≤ 60 → ∀ k, k < C.length → fl6 F (C.map enI) k = enI (fl6 G C k) := by
  intro C
  induction C with
  | nil => intro _ k hk; exact absurd hk (Nat.not_lt_zero _)
  | cons v C ih =>
    intro hl k hk
    rw [List.length_cons] at hl hk
    rw [List.map_cons, fl6, fl6, List.length_map, if_pos (by omega), if_pos (by omega), upd_at, upd_at]
    by_cases c : k = C.length
    · rw [if_pos c, if_pos c]
    · rw [if_neg c, if_neg c]
      exact ih (by omega) k (by omega)
theorem cdL_eq : ∀ (L : List Int32) (T : Nat → Int32) (a : Nat), (∀ k, k < L.length → T (a + k) = L.getD k 0) → cdL T a L.length = L := by
  intro L
  induction L with
  | nil => intro T a _; rfl
  | cons v L ih =>
    intro T a h
    rw [List.length_cons, cdL]
    have h0 : T (a + 0) = v := h 0 (by rw [List.length_cons]; omega)
    rw [show T a = v from h0, ih T (a + 1) (fun k hk => by
      have := h (k + 1) (by rw [List.length_cons]; omega)
      rw [show a + 1 + k = a + (k + 1) by omega, this]
      rfl)]
theorem k_flt_0 (d : Nat) (σ : Hs) : callD (d + 99) 34 [.ref 70, .ref 22, .int 0] σ = kont (callD (d + 98) 38 [.ref 70, .int 0, .int 0] (rcS (txC σ 111) 0 [] false)) (d + 98) 34 37 [.ref 70, .ref 22, .int 0] [] := by
  have e : rep (rep σ 70 (upd (upd (upd (upd (σ 70) 1 22) 2 111) 3 0) 4 0)) 71 (upd (σ 71) 1 0) = rcS (txC σ 111) 0 [] false := by
    refine rc_ext ?_ ?_ ?_ (fun o ho => ?_)
    · rw [rep_ne (by omega), rep_self]
      unfold txC
      rw [rep_self]
      rfl
    · rw [rep_self, txC_o _ _ (by omega)]
      rfl
    · rw [rep_ne (by omega), rep_ne (by omega), txC_o _ _ (by omega)]
      rfl
    · rw [rep_ne (by omega), rep_ne (by omega), txC_o _ _ (by omega)]
  rw [← e]
  simp only [c34, s34_0, s34_1, s34_2_o70_22, s34_5, s34_6, s34_7, s34_10_o70_111, s34_10_o70_112, s34_10_o70_113, s34_13, s34_14, s34_15_o70, s34_18, s34_19, s34_20_o70, s34_23, s34_24_o70, s34_27, s34_28_o71, s34_31, s34_32, s34_33, s34_34_o70, c35, s35_0, s35_1, s35_28, s35_30, s35_31, s35_33, s35_34, s35_36, up2_rep, rep_at, rep_rep, isB_0, show ((1 : Int32) = 0) = False from eq_false (by decide), show ((2 : Int32) = 0) = False from eq_false (by decide), show ((2 : Int32) = 1) = False from eq_false (by decide), simprocAttr, if_true, if_false, true_and, and_true, false_and, and_false, not_false_eq_true, not_true_eq_false, gd_T, kont_i, kont_v]
theorem k_text_0 (d : Nat) (σ : Hs) (n a : Nat) (X : List Int32) (w : Bool) (hn : n ≤ 60) (ha : a ≤ n) (h22 : σ 22 1 = nI n) (x5 : callD (d + 98) 38 [.ref 70, .int 0, .int (nI 0)] (rcS (txC σ 111) 0 [] false) = some (none, rcS (txC σ 111) a X w)) (hb : w = true ∨ a < n) : callD (d + 100) 68 [.ref 0, .int 0] σ = some (some (.int (-10 - nI a)), txZ (rcS (txC σ 111) a X w)) := by
  rw [n_0] at x5
  have hv : ((0 : Int32) ≤ 0 ∧ (0 : Int32) ≤ 2) = True := eq_true (by decide)
  have f := k_flt_0 d σ
  rw [x5] at f
  have f4 := rc_w (txC σ 111) a X w
  have f3 := rc_at (txC σ 111) a X w
  have f1 : rcS (txC σ 111) a X w 70 1 = 22 := (rc_f _ _ _ _ (by omega) (by omega)).trans (txC_1 σ _)
  have c22 : (22 : Int32).toNatClampNeg = 22 := rfl
  have ft : rcS (txC σ 111) a X w 22 1 = nI n := by rw [rc_o _ _ _ _ (by omega), txC_o _ _ (by omega)]; exact h22
  have one : ((1 : Int32) = 0) = False := eq_false (by decide)
  have fv : callD (d + 99) 34 [.ref 70, .ref 22, .int 0] σ = some (some (.int (nI a)), rcS (txC σ 111) a X w) := by
    rw [f]
    cases w with
    | true =>
      have f4 : rcS (txC σ 111) a X true 70 4 = 1 := f4
      simp only [s34_37, s34_38_o70, s34_41, s34_44, s34_45_o70, s34_48, s34_49_o70, s34_52_o22, s34_55, s34_58, s34_59_o70, s34_62, s34_65, s34_66, f4, f3, one, simprocAttr, if_true, if_false, true_and, and_true, false_and, and_false, not_false_eq_true, not_true_eq_false, gd_T, kont_i, kont_v]
    | false =>
      have f4 : rcS (txC σ 111) a X false 70 4 = 0 := f4
      have an : a < n := by
        rcases hb with hb | hb
        · cases hb
        · exact hb
      have g : (nI n ≤ nI a) = False := by rw [le_nn (by omega) (by omega)]; exact eq_false (by omega)
      simp only [s34_37, s34_38_o70, s34_41, s34_44, s34_45_o70, s34_48, s34_49_o70, s34_52_o22, s34_55, s34_58, s34_59_o70, s34_62, s34_65, s34_66, f4, f3, f1, c22, ft, g, simprocAttr, if_true, if_false, true_and, and_true, false_and, and_false, not_false_eq_true, not_true_eq_false, gd_T, kont_i, kont_v]
  have g1 := nI_inj_m1 (x := a) (by omega)
  have ez : rep (rcS (txC σ 111) a X w) 22 (upd (rcS (txC σ 111) a X w 22) 1 0) = txZ (rcS (txC σ 111) a X w) := rfl
  simp only [c68, s68_0, s68_1, s68_4, s68_7, s68_8, s68_9_o0, s68_12, s68_13, s68_14_o0, s68_17, s68_18_o0, s68_21_o1, s68_24, s68_25_o70, s68_28, s68_29, s68_30_o0, s68_33_o1, s68_36, s68_37_o22, s68_40, s68_41, s68_42, s68_45, s68_47, s68_48, s68_49, k_isUse, hv, b2_t, one, fv, g1, up2_rep, ez, simprocAttr, if_true, if_false, true_and, and_true, false_and, and_false, not_false_eq_true, not_true_eq_false, gd_T, kont_i, kont_v]
theorem k_textg_0 (d : Nat) (σ σ1 : Hs) (n a : Nat) (X : List Int32) (hn : n ≤ 60) (ha : a ≤ n) (h22 : σ 22 1 = nI n) (x5 : callD (d + 98) 38 [.ref 70, .int 0, .int (nI 0)] (rcS (txC σ 111) 0 [] false) = some (none, rcS (txC σ 111) a X false)) (hb : n ≤ a) (hcp : callD (d + 99) 45 [.ref 16, .ref 71] (txZ (rcS (txC σ 111) a X false)) = some (none, σ1)) : callD (d + 100) 68 [.ref 0, .int 0] σ = some (some (.int 1), σ1) := by
  rw [n_0] at x5
  have hv : ((0 : Int32) ≤ 0 ∧ (0 : Int32) ≤ 2) = True := eq_true (by decide)
  have f := k_flt_0 d σ
  rw [x5] at f
  have f4 : rcS (txC σ 111) a X false 70 4 = 0 := rc_w (txC σ 111) a X false
  have f3 := rc_at (txC σ 111) a X false
  have f1 : rcS (txC σ 111) a X false 70 1 = 22 := (rc_f _ _ _ _ (by omega) (by omega)).trans (txC_1 σ _)
  have c22 : (22 : Int32).toNatClampNeg = 22 := rfl
  have ft : rcS (txC σ 111) a X false 22 1 = nI n := by rw [rc_o _ _ _ _ (by omega), txC_o _ _ (by omega)]; exact h22
  have one : ((1 : Int32) = 0) = False := eq_false (by decide)
  have g : (nI n ≤ nI a) = True := by rw [le_nn (by omega) (by omega)]; exact eq_true (by omega)
  have fv : callD (d + 99) 34 [.ref 70, .ref 22, .int 0] σ = some (some (.int (-1)), rcS (txC σ 111) a X false) := by
    rw [f]
    simp only [s34_37, s34_38_o70, s34_41, s34_44, s34_45_o70, s34_48, s34_49_o70, s34_52_o22, s34_55, s34_58, s34_59_o70, s34_62, s34_65, s34_66, f4, f3, f1, c22, ft, g, simprocAttr, if_true, if_false, true_and, and_true, false_and, and_false, not_false_eq_true, not_true_eq_false, gd_T, kont_i, kont_v]
  have ez : rep (rcS (txC σ 111) a X false) 22 (upd (rcS (txC σ 111) a X false 22) 1 0) = txZ (rcS (txC σ 111) a X false) := rfl
  simp only [c68, s68_0, s68_1, s68_4, s68_7, s68_8, s68_9_o0, s68_12, s68_13, s68_14_o0, s68_17, s68_18_o0, s68_21_o1, s68_24, s68_25_o70, s68_28, s68_29, s68_30_o0, s68_33_o1, s68_36, s68_37_o22, s68_40, s68_41, s68_42, s68_45, s68_47, s68_48, s68_49, s68_50, s68_51_o0, s68_54_o1, s68_57_o13, s68_60, s68_61_o14, s68_62, s68_63_o0, s68_66_o70, s68_69_o16, s68_69_o18, s68_69_o20, s68_72, s68_73, k_isUse, hv, b2_t, one, fv, up2_rep, ez, vp_lit, cr14_0, hcp, simprocAttr, if_true, if_false, true_and, and_true, false_and, and_false, not_false_eq_true, not_true_eq_false, gd_T, kont_i, kont_v]
theorem m_txp_0 (d : Nat) (τ : Hs) : callD (d + 100) 154 [.ref 87, .int 0] τ = kont (callD (d + 99) 147 [.ref 87] (rmS (txM τ 0) 0 [] false 0)) (d + 99) 154 45 [.ref 87, .int 0, uu] [] := by
  have hv : ((0 : Int32) ≤ 0 ∧ (0 : Int32) ≤ 2) = True := eq_true (by decide)
  have one : ((1 : Int32) = 0) = False := eq_false (by decide)
  have e : rep τ 87 (upd (upd (upd (upd (upd (τ 87) 11 0) 9 0) 10 0) 12 0) 14 0) = rmS (txM τ 0) 0 [] false 0 := by
    refine rm_ext ?_ ?_ (fun o ho => ?_)
    · rw [rep_self]
      unfold txM
      rw [rep_self]
      rfl
    · rw [rep_ne (by omega), txM_o _ _ (by omega)]
      rfl
    · rw [rep_ne (by omega), txM_o _ _ (by omega)]
  rw [← e]
  simp only [c154, s154_0, s154_1, s154_2, s154_3, s154_6, s154_9, s154_10, s154_12_o87, s154_15, s154_16, s154_17, s154_18_o87, s154_21, s154_22, s154_23_o87, s154_26, s154_27, s154_28_o87, s154_31, s154_32, s154_33_o87, s154_36, s154_37, s154_38_o87, s154_41, s154_42_o87, m_within, hv, b2_t, one, up2_rep, rep_at, rep_rep, isB_0, simprocAttr, if_true, if_false, true_and, and_true, false_and, and_false, not_false_eq_true, not_true_eq_false, gd_T, kont_i, kont_v]
theorem m_text_0 (d : Nat) (τ : Hs) (n a : Nat) (Y : List Int32) (w : Bool) (hn : n ≤ 60) (ha : a ≤ n) (h88 : τ 88 1 = nI n) (x6 : callD (d + 99) 147 [.ref 87] (rmS (txM τ 0) 0 [] false 0) = some (none, rmS (txM τ 0) a Y w 0)) (hb : w = true ∨ a < n) : callD (d + 100) 154 [.ref 87, .int 0] τ = some (some (.int (-10 - nI a)), rep (rmS (txM τ 0) a Y true 0) 88 (upd (τ 88) 1 0)) := by
  rw [m_txp_0 d τ, x6]
  have one : ((1 : Int32) = 0) = False := eq_false (by decide)
  have hw := rm_w (txM τ 0) a Y w 0
  have h9 := rm_at (txM τ 0) a Y w 0
  have e88 : rmS (txM τ 0) a Y w 0 88 = τ 88 := by rw [rm_o _ _ _ _ _ (by omega), txM_o _ _ (by omega)]
  have e88' : rmS (txM τ 0) a Y true 0 88 = τ 88 := by rw [rm_o _ _ _ _ _ (by omega), txM_o _ _ (by omega)]
  have sw : rep (rmS (txM τ 0) a Y w 0) 87 (upd (rmS (txM τ 0) a Y w 0 87) 12 1) = rmS (txM τ 0) a Y true 0 := rm_sw (txM τ 0) a Y w true 0
  have hw2 : rep (rmS (txM τ 0) a Y true 0) 88 (upd (τ 88) 1 0) 87 12 = 1 := by rw [rep_ne (by omega)]; exact rm_w _ _ _ _ _
  have h92 : rep (rmS (txM τ 0) a Y true 0) 88 (upd (τ 88) 1 0) 87 9 = nI a := by rw [rep_ne (by omega)]; exact rm_at _ _ _ _ _
  cases w with
  | true =>
    have hw : rmS (txM τ 0) a Y true 0 87 12 = 1 := hw
    simp only [s154_45, s154_46, s154_47_o87, s154_50, s154_53, s154_54_o87, s154_57, s154_58_o87, s154_61, s154_62_o88, s154_63, s154_66, s154_67, s154_70, s154_71_o87, s154_74, s154_75_o87, s154_78, s154_79, s154_80_o88, s154_81, s154_82_o87, s154_85, s154_88, s154_90, s154_91_o87, s154_94, s154_95, hw, one, isB_1, up2_rep, sw, vp_lit, e88, hw2, h92, simprocAttr, if_true, if_false, true_and, and_true, false_and, and_false, not_false_eq_true, not_true_eq_false, gd_T, kont_i, kont_v]
  | false =>
    have hw : rmS (txM τ 0) a Y false 0 87 12 = 0 := hw
    have an : a < n := by
      rcases hb with hb | hb
      · cases hb
      · exact hb
    have g : (nI n ≤ nI a) = False := by rw [le_nn (by omega) (by omega)]; exact eq_false (by omega)
    simp only [s154_45, s154_46, s154_47_o87, s154_50, s154_53, s154_54_o87, s154_57, s154_58_o87, s154_61, s154_62_o88, s154_63, s154_66, s154_67, s154_70, s154_71_o87, s154_74, s154_75_o87, s154_78, s154_79, s154_80_o88, s154_81, s154_82_o87, s154_85, s154_88, s154_90, s154_91_o87, s154_94, s154_95, hw, h9, one, isB_1, up2_rep, sw, vp_lit, e88, e88', h88, g, hw2, h92, simprocAttr, if_true, if_false, true_and, and_true, false_and, and_false, not_false_eq_true, not_true_eq_false, gd_T, kont_i, kont_v]
theorem m_txl_0 (d : Nat) (τ : Hs) (a : Nat) (C : List Int32) (hC : C.length ≤ 60) (T1 : Nat → Int32) : ∀ m k, k + m = C.length → ru (d + 99) 154 118 [.ref 87, .int 0, .int (nI k)] [] (rep (rmS (txM τ 0) a C false 0) 88 (cbF (fl6 (τ 96) C) T1 360 k)) = some (some (.int 1), rep (rmS (txM τ 0) a C false 0) 88 (cbF (fl6 (τ 96) C) T1 360 C.length)) := by
  intro m
  induction m with
  | zero =>
    intro k hk
    obtain rfl : k = C.length := by omega
    have h14 : rep (rmS (txM τ 0) a C false 0) 88 (cbF (fl6 (τ 96) C) T1 360 C.length) 87 14 = nI C.length := by
      rw [rep_ne (by omega), rm_n, sz6, Nat.min_eq_left hC]
    simp only [s154_118]
    simp only [s154_119, s154_120_o87, s154_123, s154_158, s154_159, h14, Int32.le_refl, simprocAttr, if_true, if_false, true_and, and_true, false_and, and_false, not_false_eq_true, not_true_eq_false, gd_T, kont_i, kont_v]
  | succ m ih =>
    intro k hk
    have h14 : rep (rmS (txM τ 0) a C false 0) 88 (cbF (fl6 (τ 96) C) T1 360 k) 87 14 = nI C.length := by
      rw [rep_ne (by omega), rm_n, sz6, Nat.min_eq_left hC]
    have h11 : rep (rmS (txM τ 0) a C false 0) 88 (cbF (fl6 (τ 96) C) T1 360 k) 87 11 = 0 := by
      rw [rep_ne (by omega), rm_use, txM_u]
    have h96 : rep (rmS (txM τ 0) a C false 0) 88 (cbF (fl6 (τ 96) C) T1 360 k) 96 = fl6 (τ 96) C := by
      rw [rep_ne (by omega), rm_96, txM_o _ _ (by omega)]
    have g : (nI C.length ≤ nI k) = False := by rw [le_nn (by omega) (by omega)]; exact eq_false (by omega)
    have ix : (360 : Int32) + nI k = nI (360 + k) := nI_add 360 k
    have n1 := nI_1 k
    have hs := cbF_s (fl6 (τ 96) C) T1 360 k
    have hi := ih (k + 1) (by omega)
    simp only [s154_118]
    simp only [s154_119, s154_120_o87, s154_123, s154_126, s154_127_o87, s154_130, s154_133, s154_135, s154_136_o87, s154_139, s154_140, s154_141, s154_142, s154_143, s154_144, s154_145, s154_146_o87, s154_149, s154_150_o96, s154_151_o88, s154_152, s154_155, h14, g, h11, show (62 * 0 : Int32) = 0 from rfl, show (359 + 0 : Int32) = 359 from rfl, show (359 + 1 : Int32) = 360 from rfl, ix, h96, vp_nI (show k < 60 by omega), cl_nI (show k < 2147483648 by omega), vp_nI (show 360 + k < 545 by omega), cl_nI (show 360 + k < 2147483648 by omega), up2_rep, rep_self, rep_rep, hs, n1, simprocAttr, if_true, if_false, true_and, and_true, false_and, and_false, not_false_eq_true, not_true_eq_false, gd_T, kont_i, kont_v]
    exact hi
theorem m_textg_0 (d : Nat) (τ : Hs) (n a : Nat) (C : List Int32) (hC : C.length ≤ 60) (hn : n ≤ 60) (ha : a ≤ n) (h88 : τ 88 1 = nI n) (x6 : callD (d + 99) 147 [.ref 87] (rmS (txM τ 0) 0 [] false 0) = some (none, rmS (txM τ 0) a C false 0)) (hb : n ≤ a) : callD (d + 100) 154 [.ref 87, .int 0] τ = some (some (.int 1), rep (rmS (txM τ 0) a C false 0) 88 (cbF (fl6 (τ 96) C) (upd (upd (τ 88) 1 0) 359 (nI C.length)) 360 C.length)) := by
  rw [m_txp_0 d τ, x6]
  have hw : rmS (txM τ 0) a C false 0 87 12 = 0 := rm_w _ _ _ _ _
  have h9 := rm_at (txM τ 0) a C false 0
  have e88 : rmS (txM τ 0) a C false 0 88 = τ 88 := by rw [rm_o _ _ _ _ _ (by omega), txM_o _ _ (by omega)]
  have sw : rep (rmS (txM τ 0) a C false 0) 87 (upd (rmS (txM τ 0) a C false 0 87) 12 0) = rmS (txM τ 0) a C false 0 := rm_sw (txM τ 0) a C false false 0
  have g : (nI n ≤ nI a) = True := by rw [le_nn (by omega) (by omega)]; exact eq_true (by omega)
  have f12 : ∀ T, rep (rmS (txM τ 0) a C false 0) 88 T 87 12 = 0 := fun T => by rw [rep_ne (by omega)]; exact hw
  have f11 : ∀ T, rep (rmS (txM τ 0) a C false 0) 88 T 87 11 = 0 := fun T => by rw [rep_ne (by omega), rm_use, txM_u]
  have f14 : ∀ T, rep (rmS (txM τ 0) a C false 0) 88 T 87 14 = nI C.length := fun T => by rw [rep_ne (by omega), rm_n, sz6, Nat.min_eq_left hC]
  have hl := m_txl_0 d τ a C hC (upd (upd (τ 88) 1 0) 359 (nI C.length)) C.length 0 (by omega)
  rw [cbF_0, n_0] at hl
  simp only [s154_45, s154_46, s154_47_o87, s154_50, s154_53, s154_54_o87, s154_57, s154_58_o87, s154_61, s154_62_o88, s154_63, s154_66, s154_67, s154_70, s154_71_o87, s154_74, s154_75_o87, s154_78, s154_79, s154_80_o88, s154_81, s154_82_o87, s154_85, s154_96, s154_97_o87, s154_100, s154_103, s154_105, s154_106_o87, s154_109, s154_110, s154_111, s154_112_o87, s154_115_o88, s154_116, s154_117, hw, h9, isB_0, up2_rep, sw, vp_lit, e88, h88, g, f12, f11, f14, show (62 * 0 : Int32) = 0 from rfl, show (359 + 0 : Int32) = 359 from rfl, rep_self, rep_rep, show (359 : Int32).toNatClampNeg = 359 from rfl, simprocAttr, if_true, if_false, true_and, and_true, false_and, and_false, not_false_eq_true, not_true_eq_false, gd_T, kont_i, kont_v]
  exact hl
theorem k_flt_1 (d : Nat) (σ : Hs) : callD (d + 99) 34 [.ref 70, .ref 22, .int 1] σ = kont (callD (d + 98) 38 [.ref 70, .int 0, .int 0] (rcS (txC σ 112) 0 [] false)) (d + 98) 34 37 [.ref 70, .ref 22, .int 1] [] := by
  have e : rep (rep σ 70 (upd (upd (upd (upd (σ 70) 1 22) 2 112) 3 0) 4 0)) 71 (upd (σ 71) 1 0) = rcS (txC σ 112) 0 [] false := by
    refine rc_ext ?_ ?_ ?_ (fun o ho => ?_)
    · rw [rep_ne (by omega), rep_self]
      unfold txC
      rw [rep_self]
      rfl
    · rw [rep_self, txC_o _ _ (by omega)]
      rfl
    · rw [rep_ne (by omega), rep_ne (by omega), txC_o _ _ (by omega)]
      rfl
    · rw [rep_ne (by omega), rep_ne (by omega), txC_o _ _ (by omega)]
  rw [← e]
  simp only [c34, s34_0, s34_1, s34_2_o70_22, s34_5, s34_6, s34_7, s34_10_o70_111, s34_10_o70_112, s34_10_o70_113, s34_13, s34_14, s34_15_o70, s34_18, s34_19, s34_20_o70, s34_23, s34_24_o70, s34_27, s34_28_o71, s34_31, s34_32, s34_33, s34_34_o70, c35, s35_0, s35_1, s35_28, s35_30, s35_31, s35_33, s35_34, s35_36, up2_rep, rep_at, rep_rep, isB_0, show ((1 : Int32) = 0) = False from eq_false (by decide), show ((2 : Int32) = 0) = False from eq_false (by decide), show ((2 : Int32) = 1) = False from eq_false (by decide), simprocAttr, if_true, if_false, true_and, and_true, false_and, and_false, not_false_eq_true, not_true_eq_false, gd_T, kont_i, kont_v]
theorem k_text_1 (d : Nat) (σ : Hs) (n a : Nat) (X : List Int32) (w : Bool) (hn : n ≤ 60) (ha : a ≤ n) (h22 : σ 22 1 = nI n) (x5 : callD (d + 98) 38 [.ref 70, .int 0, .int (nI 0)] (rcS (txC σ 112) 0 [] false) = some (none, rcS (txC σ 112) a X w)) (hb : w = true ∨ a < n) : callD (d + 100) 68 [.ref 0, .int 1] σ = some (some (.int (-10 - nI a)), txZ (rcS (txC σ 112) a X w)) := by
  rw [n_0] at x5
  have hv : ((0 : Int32) ≤ 1 ∧ (1 : Int32) ≤ 2) = True := eq_true (by decide)
  have f := k_flt_1 d σ
  rw [x5] at f
  have f4 := rc_w (txC σ 112) a X w
  have f3 := rc_at (txC σ 112) a X w
  have f1 : rcS (txC σ 112) a X w 70 1 = 22 := (rc_f _ _ _ _ (by omega) (by omega)).trans (txC_1 σ _)
  have c22 : (22 : Int32).toNatClampNeg = 22 := rfl
  have ft : rcS (txC σ 112) a X w 22 1 = nI n := by rw [rc_o _ _ _ _ (by omega), txC_o _ _ (by omega)]; exact h22
  have one : ((1 : Int32) = 0) = False := eq_false (by decide)
  have fv : callD (d + 99) 34 [.ref 70, .ref 22, .int 1] σ = some (some (.int (nI a)), rcS (txC σ 112) a X w) := by
    rw [f]
    cases w with
    | true =>
      have f4 : rcS (txC σ 112) a X true 70 4 = 1 := f4
      simp only [s34_37, s34_38_o70, s34_41, s34_44, s34_45_o70, s34_48, s34_49_o70, s34_52_o22, s34_55, s34_58, s34_59_o70, s34_62, s34_65, s34_66, f4, f3, one, simprocAttr, if_true, if_false, true_and, and_true, false_and, and_false, not_false_eq_true, not_true_eq_false, gd_T, kont_i, kont_v]
    | false =>
      have f4 : rcS (txC σ 112) a X false 70 4 = 0 := f4
      have an : a < n := by
        rcases hb with hb | hb
        · cases hb
        · exact hb
      have g : (nI n ≤ nI a) = False := by rw [le_nn (by omega) (by omega)]; exact eq_false (by omega)
      simp only [s34_37, s34_38_o70, s34_41, s34_44, s34_45_o70, s34_48, s34_49_o70, s34_52_o22, s34_55, s34_58, s34_59_o70, s34_62, s34_65, s34_66, f4, f3, f1, c22, ft, g, simprocAttr, if_true, if_false, true_and, and_true, false_and, and_false, not_false_eq_true, not_true_eq_false, gd_T, kont_i, kont_v]
  have g1 := nI_inj_m1 (x := a) (by omega)
  have ez : rep (rcS (txC σ 112) a X w) 22 (upd (rcS (txC σ 112) a X w 22) 1 0) = txZ (rcS (txC σ 112) a X w) := rfl
  simp only [c68, s68_0, s68_1, s68_4, s68_7, s68_8, s68_9_o0, s68_12, s68_13, s68_14_o0, s68_17, s68_18_o0, s68_21_o1, s68_24, s68_25_o70, s68_28, s68_29, s68_30_o0, s68_33_o1, s68_36, s68_37_o22, s68_40, s68_41, s68_42, s68_45, s68_47, s68_48, s68_49, k_isUse, hv, b2_t, one, fv, g1, up2_rep, ez, simprocAttr, if_true, if_false, true_and, and_true, false_and, and_false, not_false_eq_true, not_true_eq_false, gd_T, kont_i, kont_v]
theorem k_textg_1 (d : Nat) (σ σ1 : Hs) (n a : Nat) (X : List Int32) (hn : n ≤ 60) (ha : a ≤ n) (h22 : σ 22 1 = nI n) (x5 : callD (d + 98) 38 [.ref 70, .int 0, .int (nI 0)] (rcS (txC σ 112) 0 [] false) = some (none, rcS (txC σ 112) a X false)) (hb : n ≤ a) (hcp : callD (d + 99) 45 [.ref 18, .ref 71] (txZ (rcS (txC σ 112) a X false)) = some (none, σ1)) : callD (d + 100) 68 [.ref 0, .int 1] σ = some (some (.int 1), σ1) := by
  rw [n_0] at x5
  have hv : ((0 : Int32) ≤ 1 ∧ (1 : Int32) ≤ 2) = True := eq_true (by decide)
  have f := k_flt_1 d σ
  rw [x5] at f
  have f4 : rcS (txC σ 112) a X false 70 4 = 0 := rc_w (txC σ 112) a X false
  have f3 := rc_at (txC σ 112) a X false
  have f1 : rcS (txC σ 112) a X false 70 1 = 22 := (rc_f _ _ _ _ (by omega) (by omega)).trans (txC_1 σ _)
  have c22 : (22 : Int32).toNatClampNeg = 22 := rfl
  have ft : rcS (txC σ 112) a X false 22 1 = nI n := by rw [rc_o _ _ _ _ (by omega), txC_o _ _ (by omega)]; exact h22
  have one : ((1 : Int32) = 0) = False := eq_false (by decide)
  have g : (nI n ≤ nI a) = True := by rw [le_nn (by omega) (by omega)]; exact eq_true (by omega)
  have fv : callD (d + 99) 34 [.ref 70, .ref 22, .int 1] σ = some (some (.int (-1)), rcS (txC σ 112) a X false) := by
    rw [f]
    simp only [s34_37, s34_38_o70, s34_41, s34_44, s34_45_o70, s34_48, s34_49_o70, s34_52_o22, s34_55, s34_58, s34_59_o70, s34_62, s34_65, s34_66, f4, f3, f1, c22, ft, g, simprocAttr, if_true, if_false, true_and, and_true, false_and, and_false, not_false_eq_true, not_true_eq_false, gd_T, kont_i, kont_v]
  have ez : rep (rcS (txC σ 112) a X false) 22 (upd (rcS (txC σ 112) a X false 22) 1 0) = txZ (rcS (txC σ 112) a X false) := rfl
  simp only [c68, s68_0, s68_1, s68_4, s68_7, s68_8, s68_9_o0, s68_12, s68_13, s68_14_o0, s68_17, s68_18_o0, s68_21_o1, s68_24, s68_25_o70, s68_28, s68_29, s68_30_o0, s68_33_o1, s68_36, s68_37_o22, s68_40, s68_41, s68_42, s68_45, s68_47, s68_48, s68_49, s68_50, s68_51_o0, s68_54_o1, s68_57_o13, s68_60, s68_61_o14, s68_62, s68_63_o0, s68_66_o70, s68_69_o16, s68_69_o18, s68_69_o20, s68_72, s68_73, k_isUse, hv, b2_t, one, fv, up2_rep, ez, vp_lit, cr14_1, hcp, simprocAttr, if_true, if_false, true_and, and_true, false_and, and_false, not_false_eq_true, not_true_eq_false, gd_T, kont_i, kont_v]
theorem m_txp_1 (d : Nat) (τ : Hs) : callD (d + 100) 154 [.ref 87, .int 1] τ = kont (callD (d + 99) 147 [.ref 87] (rmS (txM τ 1) 0 [] false 0)) (d + 99) 154 45 [.ref 87, .int 1, uu] [] := by
  have hv : ((0 : Int32) ≤ 1 ∧ (1 : Int32) ≤ 2) = True := eq_true (by decide)
  have one : ((1 : Int32) = 0) = False := eq_false (by decide)
  have e : rep τ 87 (upd (upd (upd (upd (upd (τ 87) 11 1) 9 0) 10 0) 12 0) 14 0) = rmS (txM τ 1) 0 [] false 0 := by
    refine rm_ext ?_ ?_ (fun o ho => ?_)
    · rw [rep_self]
      unfold txM
      rw [rep_self]
      rfl
    · rw [rep_ne (by omega), txM_o _ _ (by omega)]
      rfl
    · rw [rep_ne (by omega), txM_o _ _ (by omega)]
  rw [← e]
  simp only [c154, s154_0, s154_1, s154_2, s154_3, s154_6, s154_9, s154_10, s154_12_o87, s154_15, s154_16, s154_17, s154_18_o87, s154_21, s154_22, s154_23_o87, s154_26, s154_27, s154_28_o87, s154_31, s154_32, s154_33_o87, s154_36, s154_37, s154_38_o87, s154_41, s154_42_o87, m_within, hv, b2_t, one, up2_rep, rep_at, rep_rep, isB_0, simprocAttr, if_true, if_false, true_and, and_true, false_and, and_false, not_false_eq_true, not_true_eq_false, gd_T, kont_i, kont_v]
theorem m_text_1 (d : Nat) (τ : Hs) (n a : Nat) (Y : List Int32) (w : Bool) (hn : n ≤ 60) (ha : a ≤ n) (h88 : τ 88 1 = nI n) (x6 : callD (d + 99) 147 [.ref 87] (rmS (txM τ 1) 0 [] false 0) = some (none, rmS (txM τ 1) a Y w 0)) (hb : w = true ∨ a < n) : callD (d + 100) 154 [.ref 87, .int 1] τ = some (some (.int (-10 - nI a)), rep (rmS (txM τ 1) a Y true 0) 88 (upd (τ 88) 1 0)) := by
  rw [m_txp_1 d τ, x6]
  have one : ((1 : Int32) = 0) = False := eq_false (by decide)
  have hw := rm_w (txM τ 1) a Y w 0
  have h9 := rm_at (txM τ 1) a Y w 0
  have e88 : rmS (txM τ 1) a Y w 0 88 = τ 88 := by rw [rm_o _ _ _ _ _ (by omega), txM_o _ _ (by omega)]
  have e88' : rmS (txM τ 1) a Y true 0 88 = τ 88 := by rw [rm_o _ _ _ _ _ (by omega), txM_o _ _ (by omega)]
  have sw : rep (rmS (txM τ 1) a Y w 0) 87 (upd (rmS (txM τ 1) a Y w 0 87) 12 1) = rmS (txM τ 1) a Y true 0 := rm_sw (txM τ 1) a Y w true 0
  have hw2 : rep (rmS (txM τ 1) a Y true 0) 88 (upd (τ 88) 1 0) 87 12 = 1 := by rw [rep_ne (by omega)]; exact rm_w _ _ _ _ _
  have h92 : rep (rmS (txM τ 1) a Y true 0) 88 (upd (τ 88) 1 0) 87 9 = nI a := by rw [rep_ne (by omega)]; exact rm_at _ _ _ _ _
  cases w with
  | true =>
    have hw : rmS (txM τ 1) a Y true 0 87 12 = 1 := hw
    simp only [s154_45, s154_46, s154_47_o87, s154_50, s154_53, s154_54_o87, s154_57, s154_58_o87, s154_61, s154_62_o88, s154_63, s154_66, s154_67, s154_70, s154_71_o87, s154_74, s154_75_o87, s154_78, s154_79, s154_80_o88, s154_81, s154_82_o87, s154_85, s154_88, s154_90, s154_91_o87, s154_94, s154_95, hw, one, isB_1, up2_rep, sw, vp_lit, e88, hw2, h92, simprocAttr, if_true, if_false, true_and, and_true, false_and, and_false, not_false_eq_true, not_true_eq_false, gd_T, kont_i, kont_v]
  | false =>
    have hw : rmS (txM τ 1) a Y false 0 87 12 = 0 := hw
    have an : a < n := by
      rcases hb with hb | hb
      · cases hb
      · exact hb
    have g : (nI n ≤ nI a) = False := by rw [le_nn (by omega) (by omega)]; exact eq_false (by omega)
    simp only [s154_45, s154_46, s154_47_o87, s154_50, s154_53, s154_54_o87, s154_57, s154_58_o87, s154_61, s154_62_o88, s154_63, s154_66, s154_67, s154_70, s154_71_o87, s154_74, s154_75_o87, s154_78, s154_79, s154_80_o88, s154_81, s154_82_o87, s154_85, s154_88, s154_90, s154_91_o87, s154_94, s154_95, hw, h9, one, isB_1, up2_rep, sw, vp_lit, e88, e88', h88, g, hw2, h92, simprocAttr, if_true, if_false, true_and, and_true, false_and, and_false, not_false_eq_true, not_true_eq_false, gd_T, kont_i, kont_v]
theorem m_txl_1 (d : Nat) (τ : Hs) (a : Nat) (C : List Int32) (hC : C.length ≤ 60) (T1 : Nat → Int32) : ∀ m k, k + m = C.length → ru (d + 99) 154 118 [.ref 87, .int 1, .int (nI k)] [] (rep (rmS (txM τ 1) a C false 0) 88 (cbF (fl6 (τ 96) C) T1 422 k)) = some (some (.int 1), rep (rmS (txM τ 1) a C false 0) 88 (cbF (fl6 (τ 96) C) T1 422 C.length)) := by
  intro m
  induction m with
  | zero =>
    intro k hk
    obtain rfl : k = C.length := by omega
    have h14 : rep (rmS (txM τ 1) a C false 0) 88 (cbF (fl6 (τ 96) C) T1 422 C.length) 87 14 = nI C.length := by
      rw [rep_ne (by omega), rm_n, sz6, Nat.min_eq_left hC]
    simp only [s154_118]
    simp only [s154_119, s154_120_o87, s154_123, s154_158, s154_159, h14, Int32.le_refl, simprocAttr, if_true, if_false, true_and, and_true, false_and, and_false, not_false_eq_true, not_true_eq_false, gd_T, kont_i, kont_v]
  | succ m ih =>
    intro k hk
    have h14 : rep (rmS (txM τ 1) a C false 0) 88 (cbF (fl6 (τ 96) C) T1 422 k) 87 14 = nI C.length := by
      rw [rep_ne (by omega), rm_n, sz6, Nat.min_eq_left hC]
    have h11 : rep (rmS (txM τ 1) a C false 0) 88 (cbF (fl6 (τ 96) C) T1 422 k) 87 11 = 1 := by
      rw [rep_ne (by omega), rm_use, txM_u]
    have h96 : rep (rmS (txM τ 1) a C false 0) 88 (cbF (fl6 (τ 96) C) T1 422 k) 96 = fl6 (τ 96) C := by
      rw [rep_ne (by omega), rm_96, txM_o _ _ (by omega)]
    have g : (nI C.length ≤ nI k) = False := by rw [le_nn (by omega) (by omega)]; exact eq_false (by omega)
    have ix : (422 : Int32) + nI k = nI (422 + k) := nI_add 422 k
    have n1 := nI_1 k
    have hs := cbF_s (fl6 (τ 96) C) T1 422 k
    have hi := ih (k + 1) (by omega)
    simp only [s154_118]
    simp only [s154_119, s154_120_o87, s154_123, s154_126, s154_127_o87, s154_130, s154_133, s154_135, s154_136_o87, s154_139, s154_140, s154_141, s154_142, s154_143, s154_144, s154_145, s154_146_o87, s154_149, s154_150_o96, s154_151_o88, s154_152, s154_155, h14, g, h11, show (62 * 1 : Int32) = 62 from rfl, show (359 + 62 : Int32) = 421 from rfl, show (421 + 1 : Int32) = 422 from rfl, ix, h96, vp_nI (show k < 60 by omega), cl_nI (show k < 2147483648 by omega), vp_nI (show 422 + k < 545 by omega), cl_nI (show 422 + k < 2147483648 by omega), up2_rep, rep_self, rep_rep, hs, n1, simprocAttr, if_true, if_false, true_and, and_true, false_and, and_false, not_false_eq_true, not_true_eq_false, gd_T, kont_i, kont_v]
    exact hi
theorem m_textg_1 (d : Nat) (τ : Hs) (n a : Nat) (C : List Int32) (hC : C.length ≤ 60) (hn : n ≤ 60) (ha : a ≤ n) (h88 : τ 88 1 = nI n) (x6 : callD (d + 99) 147 [.ref 87] (rmS (txM τ 1) 0 [] false 0) = some (none, rmS (txM τ 1) a C false 0)) (hb : n ≤ a) : callD (d + 100) 154 [.ref 87, .int 1] τ = some (some (.int 1), rep (rmS (txM τ 1) a C false 0) 88 (cbF (fl6 (τ 96) C) (upd (upd (τ 88) 1 0) 421 (nI C.length)) 422 C.length)) := by
  rw [m_txp_1 d τ, x6]
  have hw : rmS (txM τ 1) a C false 0 87 12 = 0 := rm_w _ _ _ _ _
  have h9 := rm_at (txM τ 1) a C false 0
  have e88 : rmS (txM τ 1) a C false 0 88 = τ 88 := by rw [rm_o _ _ _ _ _ (by omega), txM_o _ _ (by omega)]
  have sw : rep (rmS (txM τ 1) a C false 0) 87 (upd (rmS (txM τ 1) a C false 0 87) 12 0) = rmS (txM τ 1) a C false 0 := rm_sw (txM τ 1) a C false false 0
  have g : (nI n ≤ nI a) = True := by rw [le_nn (by omega) (by omega)]; exact eq_true (by omega)
  have f12 : ∀ T, rep (rmS (txM τ 1) a C false 0) 88 T 87 12 = 0 := fun T => by rw [rep_ne (by omega)]; exact hw
  have f11 : ∀ T, rep (rmS (txM τ 1) a C false 0) 88 T 87 11 = 1 := fun T => by rw [rep_ne (by omega), rm_use, txM_u]
  have f14 : ∀ T, rep (rmS (txM τ 1) a C false 0) 88 T 87 14 = nI C.length := fun T => by rw [rep_ne (by omega), rm_n, sz6, Nat.min_eq_left hC]
  have hl := m_txl_1 d τ a C hC (upd (upd (τ 88) 1 0) 421 (nI C.length)) C.length 0 (by omega)
  rw [cbF_0, n_0] at hl
  simp only [s154_45, s154_46, s154_47_o87, s154_50, s154_53, s154_54_o87, s154_57, s154_58_o87, s154_61, s154_62_o88, s154_63, s154_66, s154_67, s154_70, s154_71_o87, s154_74, s154_75_o87, s154_78, s154_79, s154_80_o88, s154_81, s154_82_o87, s154_85, s154_96, s154_97_o87, s154_100, s154_103, s154_105, s154_106_o87, s154_109, s154_110, s154_111, s154_112_o87, s154_115_o88, s154_116, s154_117, hw, h9, isB_0, up2_rep, sw, vp_lit, e88, h88, g, f12, f11, f14, show (62 * 1 : Int32) = 62 from rfl, show (359 + 62 : Int32) = 421 from rfl, rep_self, rep_rep, show (421 : Int32).toNatClampNeg = 421 from rfl, simprocAttr, if_true, if_false, true_and, and_true, false_and, and_false, not_false_eq_true, not_true_eq_false, gd_T, kont_i, kont_v]
  exact hl
theorem k_flt_2 (d : Nat) (σ : Hs) : callD (d + 99) 34 [.ref 70, .ref 22, .int 2] σ = kont (callD (d + 98) 38 [.ref 70, .int 0, .int 0] (rcS (txC σ 113) 0 [] false)) (d + 98) 34 37 [.ref 70, .ref 22, .int 2] [] := by
  have e : rep (rep σ 70 (upd (upd (upd (upd (σ 70) 1 22) 2 113) 3 0) 4 0)) 71 (upd (σ 71) 1 0) = rcS (txC σ 113) 0 [] false := by
    refine rc_ext ?_ ?_ ?_ (fun o ho => ?_)
    · rw [rep_ne (by omega), rep_self]
      unfold txC
      rw [rep_self]
      rfl
    · rw [rep_self, txC_o _ _ (by omega)]
      rfl
    · rw [rep_ne (by omega), rep_ne (by omega), txC_o _ _ (by omega)]
      rfl
    · rw [rep_ne (by omega), rep_ne (by omega), txC_o _ _ (by omega)]
  rw [← e]
  simp only [c34, s34_0, s34_1, s34_2_o70_22, s34_5, s34_6, s34_7, s34_10_o70_111, s34_10_o70_112, s34_10_o70_113, s34_13, s34_14, s34_15_o70, s34_18, s34_19, s34_20_o70, s34_23, s34_24_o70, s34_27, s34_28_o71, s34_31, s34_32, s34_33, s34_34_o70, c35, s35_0, s35_1, s35_28, s35_30, s35_31, s35_33, s35_34, s35_36, up2_rep, rep_at, rep_rep, isB_0, show ((1 : Int32) = 0) = False from eq_false (by decide), show ((2 : Int32) = 0) = False from eq_false (by decide), show ((2 : Int32) = 1) = False from eq_false (by decide), simprocAttr, if_true, if_false, true_and, and_true, false_and, and_false, not_false_eq_true, not_true_eq_false, gd_T, kont_i, kont_v]
theorem k_text_2 (d : Nat) (σ : Hs) (n a : Nat) (X : List Int32) (w : Bool) (hn : n ≤ 60) (ha : a ≤ n) (h22 : σ 22 1 = nI n) (x5 : callD (d + 98) 38 [.ref 70, .int 0, .int (nI 0)] (rcS (txC σ 113) 0 [] false) = some (none, rcS (txC σ 113) a X w)) (hb : w = true ∨ a < n) : callD (d + 100) 68 [.ref 0, .int 2] σ = some (some (.int (-10 - nI a)), txZ (rcS (txC σ 113) a X w)) := by
  rw [n_0] at x5
  have hv : ((0 : Int32) ≤ 2 ∧ (2 : Int32) ≤ 2) = True := eq_true (by decide)
  have f := k_flt_2 d σ
  rw [x5] at f
  have f4 := rc_w (txC σ 113) a X w
  have f3 := rc_at (txC σ 113) a X w
  have f1 : rcS (txC σ 113) a X w 70 1 = 22 := (rc_f _ _ _ _ (by omega) (by omega)).trans (txC_1 σ _)
  have c22 : (22 : Int32).toNatClampNeg = 22 := rfl
  have ft : rcS (txC σ 113) a X w 22 1 = nI n := by rw [rc_o _ _ _ _ (by omega), txC_o _ _ (by omega)]; exact h22
  have one : ((1 : Int32) = 0) = False := eq_false (by decide)
  have fv : callD (d + 99) 34 [.ref 70, .ref 22, .int 2] σ = some (some (.int (nI a)), rcS (txC σ 113) a X w) := by
    rw [f]
    cases w with
    | true =>
      have f4 : rcS (txC σ 113) a X true 70 4 = 1 := f4
      simp only [s34_37, s34_38_o70, s34_41, s34_44, s34_45_o70, s34_48, s34_49_o70, s34_52_o22, s34_55, s34_58, s34_59_o70, s34_62, s34_65, s34_66, f4, f3, one, simprocAttr, if_true, if_false, true_and, and_true, false_and, and_false, not_false_eq_true, not_true_eq_false, gd_T, kont_i, kont_v]
    | false =>
      have f4 : rcS (txC σ 113) a X false 70 4 = 0 := f4
      have an : a < n := by
        rcases hb with hb | hb
        · cases hb
        · exact hb
      have g : (nI n ≤ nI a) = False := by rw [le_nn (by omega) (by omega)]; exact eq_false (by omega)
      simp only [s34_37, s34_38_o70, s34_41, s34_44, s34_45_o70, s34_48, s34_49_o70, s34_52_o22, s34_55, s34_58, s34_59_o70, s34_62, s34_65, s34_66, f4, f3, f1, c22, ft, g, simprocAttr, if_true, if_false, true_and, and_true, false_and, and_false, not_false_eq_true, not_true_eq_false, gd_T, kont_i, kont_v]
  have g1 := nI_inj_m1 (x := a) (by omega)
  have ez : rep (rcS (txC σ 113) a X w) 22 (upd (rcS (txC σ 113) a X w 22) 1 0) = txZ (rcS (txC σ 113) a X w) := rfl
  simp only [c68, s68_0, s68_1, s68_4, s68_7, s68_8, s68_9_o0, s68_12, s68_13, s68_14_o0, s68_17, s68_18_o0, s68_21_o1, s68_24, s68_25_o70, s68_28, s68_29, s68_30_o0, s68_33_o1, s68_36, s68_37_o22, s68_40, s68_41, s68_42, s68_45, s68_47, s68_48, s68_49, k_isUse, hv, b2_t, one, fv, g1, up2_rep, ez, simprocAttr, if_true, if_false, true_and, and_true, false_and, and_false, not_false_eq_true, not_true_eq_false, gd_T, kont_i, kont_v]
theorem k_textg_2 (d : Nat) (σ σ1 : Hs) (n a : Nat) (X : List Int32) (hn : n ≤ 60) (ha : a ≤ n) (h22 : σ 22 1 = nI n) (x5 : callD (d + 98) 38 [.ref 70, .int 0, .int (nI 0)] (rcS (txC σ 113) 0 [] false) = some (none, rcS (txC σ 113) a X false)) (hb : n ≤ a) (hcp : callD (d + 99) 45 [.ref 20, .ref 71] (txZ (rcS (txC σ 113) a X false)) = some (none, σ1)) : callD (d + 100) 68 [.ref 0, .int 2] σ = some (some (.int 1), σ1) := by
  rw [n_0] at x5
  have hv : ((0 : Int32) ≤ 2 ∧ (2 : Int32) ≤ 2) = True := eq_true (by decide)
  have f := k_flt_2 d σ
  rw [x5] at f
  have f4 : rcS (txC σ 113) a X false 70 4 = 0 := rc_w (txC σ 113) a X false
  have f3 := rc_at (txC σ 113) a X false
  have f1 : rcS (txC σ 113) a X false 70 1 = 22 := (rc_f _ _ _ _ (by omega) (by omega)).trans (txC_1 σ _)
  have c22 : (22 : Int32).toNatClampNeg = 22 := rfl
  have ft : rcS (txC σ 113) a X false 22 1 = nI n := by rw [rc_o _ _ _ _ (by omega), txC_o _ _ (by omega)]; exact h22
  have one : ((1 : Int32) = 0) = False := eq_false (by decide)
  have g : (nI n ≤ nI a) = True := by rw [le_nn (by omega) (by omega)]; exact eq_true (by omega)
  have fv : callD (d + 99) 34 [.ref 70, .ref 22, .int 2] σ = some (some (.int (-1)), rcS (txC σ 113) a X false) := by
    rw [f]
    simp only [s34_37, s34_38_o70, s34_41, s34_44, s34_45_o70, s34_48, s34_49_o70, s34_52_o22, s34_55, s34_58, s34_59_o70, s34_62, s34_65, s34_66, f4, f3, f1, c22, ft, g, simprocAttr, if_true, if_false, true_and, and_true, false_and, and_false, not_false_eq_true, not_true_eq_false, gd_T, kont_i, kont_v]
  have ez : rep (rcS (txC σ 113) a X false) 22 (upd (rcS (txC σ 113) a X false 22) 1 0) = txZ (rcS (txC σ 113) a X false) := rfl
  simp only [c68, s68_0, s68_1, s68_4, s68_7, s68_8, s68_9_o0, s68_12, s68_13, s68_14_o0, s68_17, s68_18_o0, s68_21_o1, s68_24, s68_25_o70, s68_28, s68_29, s68_30_o0, s68_33_o1, s68_36, s68_37_o22, s68_40, s68_41, s68_42, s68_45, s68_47, s68_48, s68_49, s68_50, s68_51_o0, s68_54_o1, s68_57_o13, s68_60, s68_61_o14, s68_62, s68_63_o0, s68_66_o70, s68_69_o16, s68_69_o18, s68_69_o20, s68_72, s68_73, k_isUse, hv, b2_t, one, fv, up2_rep, ez, vp_lit, cr14_2, hcp, simprocAttr, if_true, if_false, true_and, and_true, false_and, and_false, not_false_eq_true, not_true_eq_false, gd_T, kont_i, kont_v]
theorem m_txp_2 (d : Nat) (τ : Hs) : callD (d + 100) 154 [.ref 87, .int 2] τ = kont (callD (d + 99) 147 [.ref 87] (rmS (txM τ 2) 0 [] false 0)) (d + 99) 154 45 [.ref 87, .int 2, uu] [] := by
  have hv : ((0 : Int32) ≤ 2 ∧ (2 : Int32) ≤ 2) = True := eq_true (by decide)
  have one : ((1 : Int32) = 0) = False := eq_false (by decide)
  have e : rep τ 87 (upd (upd (upd (upd (upd (τ 87) 11 2) 9 0) 10 0) 12 0) 14 0) = rmS (txM τ 2) 0 [] false 0 := by
    refine rm_ext ?_ ?_ (fun o ho => ?_)
    · rw [rep_self]
      unfold txM
      rw [rep_self]
      rfl
    · rw [rep_ne (by omega), txM_o _ _ (by omega)]
      rfl
    · rw [rep_ne (by omega), txM_o _ _ (by omega)]
  rw [← e]
  simp only [c154, s154_0, s154_1, s154_2, s154_3, s154_6, s154_9, s154_10, s154_12_o87, s154_15, s154_16, s154_17, s154_18_o87, s154_21, s154_22, s154_23_o87, s154_26, s154_27, s154_28_o87, s154_31, s154_32, s154_33_o87, s154_36, s154_37, s154_38_o87, s154_41, s154_42_o87, m_within, hv, b2_t, one, up2_rep, rep_at, rep_rep, isB_0, simprocAttr, if_true, if_false, true_and, and_true, false_and, and_false, not_false_eq_true, not_true_eq_false, gd_T, kont_i, kont_v]
theorem m_text_2 (d : Nat) (τ : Hs) (n a : Nat) (Y : List Int32) (w : Bool) (hn : n ≤ 60) (ha : a ≤ n) (h88 : τ 88 1 = nI n) (x6 : callD (d + 99) 147 [.ref 87] (rmS (txM τ 2) 0 [] false 0) = some (none, rmS (txM τ 2) a Y w 0)) (hb : w = true ∨ a < n) : callD (d + 100) 154 [.ref 87, .int 2] τ = some (some (.int (-10 - nI a)), rep (rmS (txM τ 2) a Y true 0) 88 (upd (τ 88) 1 0)) := by
  rw [m_txp_2 d τ, x6]
  have one : ((1 : Int32) = 0) = False := eq_false (by decide)
  have hw := rm_w (txM τ 2) a Y w 0
  have h9 := rm_at (txM τ 2) a Y w 0
  have e88 : rmS (txM τ 2) a Y w 0 88 = τ 88 := by rw [rm_o _ _ _ _ _ (by omega), txM_o _ _ (by omega)]
  have e88' : rmS (txM τ 2) a Y true 0 88 = τ 88 := by rw [rm_o _ _ _ _ _ (by omega), txM_o _ _ (by omega)]
  have sw : rep (rmS (txM τ 2) a Y w 0) 87 (upd (rmS (txM τ 2) a Y w 0 87) 12 1) = rmS (txM τ 2) a Y true 0 := rm_sw (txM τ 2) a Y w true 0
  have hw2 : rep (rmS (txM τ 2) a Y true 0) 88 (upd (τ 88) 1 0) 87 12 = 1 := by rw [rep_ne (by omega)]; exact rm_w _ _ _ _ _
  have h92 : rep (rmS (txM τ 2) a Y true 0) 88 (upd (τ 88) 1 0) 87 9 = nI a := by rw [rep_ne (by omega)]; exact rm_at _ _ _ _ _
  cases w with
  | true =>
    have hw : rmS (txM τ 2) a Y true 0 87 12 = 1 := hw
    simp only [s154_45, s154_46, s154_47_o87, s154_50, s154_53, s154_54_o87, s154_57, s154_58_o87, s154_61, s154_62_o88, s154_63, s154_66, s154_67, s154_70, s154_71_o87, s154_74, s154_75_o87, s154_78, s154_79, s154_80_o88, s154_81, s154_82_o87, s154_85, s154_88, s154_90, s154_91_o87, s154_94, s154_95, hw, one, isB_1, up2_rep, sw, vp_lit, e88, hw2, h92, simprocAttr, if_true, if_false, true_and, and_true, false_and, and_false, not_false_eq_true, not_true_eq_false, gd_T, kont_i, kont_v]
  | false =>
    have hw : rmS (txM τ 2) a Y false 0 87 12 = 0 := hw
    have an : a < n := by
      rcases hb with hb | hb
      · cases hb
      · exact hb
    have g : (nI n ≤ nI a) = False := by rw [le_nn (by omega) (by omega)]; exact eq_false (by omega)
    simp only [s154_45, s154_46, s154_47_o87, s154_50, s154_53, s154_54_o87, s154_57, s154_58_o87, s154_61, s154_62_o88, s154_63, s154_66, s154_67, s154_70, s154_71_o87, s154_74, s154_75_o87, s154_78, s154_79, s154_80_o88, s154_81, s154_82_o87, s154_85, s154_88, s154_90, s154_91_o87, s154_94, s154_95, hw, h9, one, isB_1, up2_rep, sw, vp_lit, e88, e88', h88, g, hw2, h92, simprocAttr, if_true, if_false, true_and, and_true, false_and, and_false, not_false_eq_true, not_true_eq_false, gd_T, kont_i, kont_v]
theorem m_txl_2 (d : Nat) (τ : Hs) (a : Nat) (C : List Int32) (hC : C.length ≤ 60) (T1 : Nat → Int32) : ∀ m k, k + m = C.length → ru (d + 99) 154 118 [.ref 87, .int 2, .int (nI k)] [] (rep (rmS (txM τ 2) a C false 0) 88 (cbF (fl6 (τ 96) C) T1 484 k)) = some (some (.int 1), rep (rmS (txM τ 2) a C false 0) 88 (cbF (fl6 (τ 96) C) T1 484 C.length)) := by
  intro m
  induction m with
  | zero =>
    intro k hk
    obtain rfl : k = C.length := by omega
    have h14 : rep (rmS (txM τ 2) a C false 0) 88 (cbF (fl6 (τ 96) C) T1 484 C.length) 87 14 = nI C.length := by
      rw [rep_ne (by omega), rm_n, sz6, Nat.min_eq_left hC]
    simp only [s154_118]
    simp only [s154_119, s154_120_o87, s154_123, s154_158, s154_159, h14, Int32.le_refl, simprocAttr, if_true, if_false, true_and, and_true, false_and, and_false, not_false_eq_true, not_true_eq_false, gd_T, kont_i, kont_v]
  | succ m ih =>
    intro k hk
    have h14 : rep (rmS (txM τ 2) a C false 0) 88 (cbF (fl6 (τ 96) C) T1 484 k) 87 14 = nI C.length := by
      rw [rep_ne (by omega), rm_n, sz6, Nat.min_eq_left hC]
    have h11 : rep (rmS (txM τ 2) a C false 0) 88 (cbF (fl6 (τ 96) C) T1 484 k) 87 11 = 2 := by
      rw [rep_ne (by omega), rm_use, txM_u]
    have h96 : rep (rmS (txM τ 2) a C false 0) 88 (cbF (fl6 (τ 96) C) T1 484 k) 96 = fl6 (τ 96) C := by
      rw [rep_ne (by omega), rm_96, txM_o _ _ (by omega)]
    have g : (nI C.length ≤ nI k) = False := by rw [le_nn (by omega) (by omega)]; exact eq_false (by omega)
    have ix : (484 : Int32) + nI k = nI (484 + k) := nI_add 484 k
    have n1 := nI_1 k
    have hs := cbF_s (fl6 (τ 96) C) T1 484 k
    have hi := ih (k + 1) (by omega)
    simp only [s154_118]
    simp only [s154_119, s154_120_o87, s154_123, s154_126, s154_127_o87, s154_130, s154_133, s154_135, s154_136_o87, s154_139, s154_140, s154_141, s154_142, s154_143, s154_144, s154_145, s154_146_o87, s154_149, s154_150_o96, s154_151_o88, s154_152, s154_155, h14, g, h11, show (62 * 2 : Int32) = 124 from rfl, show (359 + 124 : Int32) = 483 from rfl, show (483 + 1 : Int32) = 484 from rfl, ix, h96, vp_nI (show k < 60 by omega), cl_nI (show k < 2147483648 by omega), vp_nI (show 484 + k < 545 by omega), cl_nI (show 484 + k < 2147483648 by omega), up2_rep, rep_self, rep_rep, hs, n1, simprocAttr, if_true, if_false, true_and, and_true, false_and, and_false, not_false_eq_true, not_true_eq_false, gd_T, kont_i, kont_v]
    exact hi
theorem m_textg_2 (d : Nat) (τ : Hs) (n a : Nat) (C : List Int32) (hC : C.length ≤ 60) (hn : n ≤ 60) (ha : a ≤ n) (h88 : τ 88 1 = nI n) (x6 : callD (d + 99) 147 [.ref 87] (rmS (txM τ 2) 0 [] false 0) = some (none, rmS (txM τ 2) a C false 0)) (hb : n ≤ a) : callD (d + 100) 154 [.ref 87, .int 2] τ = some (some (.int 1), rep (rmS (txM τ 2) a C false 0) 88 (cbF (fl6 (τ 96) C) (upd (upd (τ 88) 1 0) 483 (nI C.length)) 484 C.length)) := by
  rw [m_txp_2 d τ, x6]
  have hw : rmS (txM τ 2) a C false 0 87 12 = 0 := rm_w _ _ _ _ _
  have h9 := rm_at (txM τ 2) a C false 0
  have e88 : rmS (txM τ 2) a C false 0 88 = τ 88 := by rw [rm_o _ _ _ _ _ (by omega), txM_o _ _ (by omega)]
  have sw : rep (rmS (txM τ 2) a C false 0) 87 (upd (rmS (txM τ 2) a C false 0 87) 12 0) = rmS (txM τ 2) a C false 0 := rm_sw (txM τ 2) a C false false 0
  have g : (nI n ≤ nI a) = True := by rw [le_nn (by omega) (by omega)]; exact eq_true (by omega)
  have f12 : ∀ T, rep (rmS (txM τ 2) a C false 0) 88 T 87 12 = 0 := fun T => by rw [rep_ne (by omega)]; exact hw
  have f11 : ∀ T, rep (rmS (txM τ 2) a C false 0) 88 T 87 11 = 2 := fun T => by rw [rep_ne (by omega), rm_use, txM_u]
  have f14 : ∀ T, rep (rmS (txM τ 2) a C false 0) 88 T 87 14 = nI C.length := fun T => by rw [rep_ne (by omega), rm_n, sz6, Nat.min_eq_left hC]
  have hl := m_txl_2 d τ a C hC (upd (upd (τ 88) 1 0) 483 (nI C.length)) C.length 0 (by omega)
  rw [cbF_0, n_0] at hl
  simp only [s154_45, s154_46, s154_47_o87, s154_50, s154_53, s154_54_o87, s154_57, s154_58_o87, s154_61, s154_62_o88, s154_63, s154_66, s154_67, s154_70, s154_71_o87, s154_74, s154_75_o87, s154_78, s154_79, s154_80_o88, s154_81, s154_82_o87, s154_85, s154_96, s154_97_o87, s154_100, s154_103, s154_105, s154_106_o87, s154_109, s154_110, s154_111, s154_112_o87, s154_115_o88, s154_116, s154_117, hw, h9, isB_0, up2_rep, sw, vp_lit, e88, h88, g, f12, f11, f14, show (62 * 2 : Int32) = 124 from rfl, show (359 + 124 : Int32) = 483 from rfl, rep_self, rep_rep, show (483 : Int32).toNatClampNeg = 483 from rfl, simprocAttr, if_true, if_false, true_and, and_true, false_and, and_false, not_false_eq_true, not_true_eq_false, gd_T, kont_i, kont_v]
  exact hl
