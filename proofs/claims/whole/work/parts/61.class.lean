/-! ===== the class: drift, pass ===== -/
theorem hel_100 (x : Int32) : ∃ q, q ≤ 100 ∧ heldI x 0 100 = nI q := by
  unfold heldI jmin
  by_cases c : x < 100
  · rw [if_pos c]
    unfold jmax
    by_cases c2 : 0 < x
    · rw [if_pos c2]
      obtain ⟨j, hj, rfl⟩ := nI_of (x := x) (fun q => Int32.lt_irrefl (Int32.lt_trans q c2))
      rw [show (100 : Int32) = nI 100 from rfl, lt_nn hj (by omega)] at c
      exact ⟨j, by omega, rfl⟩
    · rw [if_neg c2]; exact ⟨0, by omega, rfl⟩
  · rw [if_neg c]; exact ⟨100, by omega, by decide +kernel⟩
theorem hel_c (x : Int32) : jmax 0 (jmin x 100) = heldI x 0 100 := by
  unfold heldI
  rw [jmin_c]
theorem leI_n {T : Nat → Int32} {m q : Nat} (hm : m ≤ 2000000) (hq : q ≤ 100) (e : heldI (givT T 2 (T 4 / 60) (T 5) (nI m) 0) 0 100 = nI q) : leI T (nI m) = nI (m * q / 100) := by
  have hb : m * q ≤ 2000000 * 100 := Nat.mul_le_mul hm hq
  unfold leI
  rw [e, nI_l (by omega), nI_l (by omega), lN_mul, show (100 : Int64) = lN 100 from rfl, pk_lDiv (by omega) (by omega) (by omega), lN_i]
theorem hel_90 : heldI 90 0 100 = 90 := by decide +kernel
theorem hel_40 : heldI 40 0 100 = 40 := by decide +kernel
theorem h2_lyingOf (d : Nat) (sm : Int32) (σ : Hs) (T : Nat → Int32) (h : HR 2 σ T) (hL : LR σ T) (hM : LWT T 2) : ∃ σ', callD (d + 3) 21 [.ref 2, .int sm, .int (T 4 / 60), .ref 13] σ = some (some (.int (heldI (givT T 2 (T 4 / 60) (T 5) sm 0) 0 100)), σ') ∧ ∀ o, o ≠ 15 → σ' o = σ o := by
  have hhas : callD (d + 2) 30 [.ref 13, .int 2] σ = _ := k_has_2 (d + 1) σ T hL.2.2
  have x7 : σ 9 1 = T 5 := h.2.2.1 1 (by omega)
  unfold givT
  by_cases c : 0 < T 483
  · obtain ⟨σ1, e1, f1⟩ := k_work_2 d (T 4 / 60) (T 5) sm 0 σ T hL.2.2 hM c
    refine ⟨σ1, ?_, f1⟩
    simp only [simprocAttr, if_true, if_false, true_and, and_true, false_and, and_false, not_false_eq_true, not_true_eq_false, gd_T, kont_i, kont_v]
    rw [if_neg (show ¬ T 483 ≤ 0 from Int32.not_le.mpr c), ← hel_c]
    simp only [c21, c21, s21_0, s21_1, s21_2_o13, s21_5, s21_8, s21_9, s21_11, s21_14, s21_15, s21_17, s21_20, s21_22, s21_25, s21_27, s21_28, s21_29, s21_30, s21_31, s21_32, s21_33_o2, s21_33_o59, s21_36, s21_37_o9, s21_37_o66, s21_38, s21_39, s21_40_o13, s21_43, s21_45, s21_48, s21_51, vp_lit, x7, hhas, b2_T c, e1, simprocAttr, if_true, if_false, true_and, and_true, false_and, and_false, not_false_eq_true, not_true_eq_false, gd_T, kont_i, kont_v]
  · refine ⟨σ, ?_, fun _ _ => rfl⟩
    simp only [simprocAttr, if_true, if_false, true_and, and_true, false_and, and_false, not_false_eq_true, not_true_eq_false, gd_T, kont_i, kont_v]
    rw [if_pos (show T 483 ≤ 0 from Int32.not_lt.mp c)]
    simp only [c21, c21, s21_0, s21_1, s21_2_o13, s21_5, s21_8, s21_9, s21_11, s21_14, s21_15, s21_17, s21_20, s21_22, s21_25, s21_27, s21_28, s21_29, s21_30, s21_31, s21_32, s21_33_o2, s21_33_o59, s21_36, s21_37_o9, s21_37_o66, s21_38, s21_39, s21_40_o13, s21_43, s21_45, s21_48, s21_51, hhas, b2_F c, simprocAttr, if_true, if_false, true_and, and_true, false_and, and_false, not_false_eq_true, not_true_eq_false, gd_T, kont_i, kont_v]
    by_cases c1 : 18 ≤ T 4 / 60
    · rw [if_pos c1, if_pos c1, hel_90]
    · rw [if_neg c1, if_neg c1]
      by_cases c2 : 6 ≤ T 4 / 60
      · rw [if_pos c2, if_pos c2, hel_40]
      · rw [if_neg c2, if_neg c2, hel_90]
theorem h2_drift (d m : Nat) (hm : m ≤ 2000000) (σ : Hs) (T : Nat → Int32) (h : HR 2 σ T) (hL : LR σ T) (hM : MOK T) (hG : GC T) : ∃ σ', callD (d + 4) 20 [.ref 2, .int (nI m), .ref 13] σ = some (none, σ') ∧ HR 2 σ' (laT T (nI m)) ∧ GC (laT T (nI m)) ∧ ∀ o, o ≠ 11 → o ≠ 12 → o ≠ 15 → σ' o = σ o := by
  obtain ⟨⟨-, -, hL2⟩, -, ⟨g, hg, h8⟩, w, hw, h6⟩ := hM
  obtain ⟨q, hq, eq⟩ := hel_100 (givT T 2 (T 4 / 60) (T 5) (nI m) 0)
  have el := leI_n hm hq eq
  have ela : laT T (nI m) = laL (T 4 / 60) w 3 T (nI (m * q / 100)) g := by
    unfold laT
    rw [el, h6, h8, cl_nI (by omega), cl_nI (by omega)]
  have hb : m * q ≤ 2000000 * 100 := Nat.mul_le_mul hm hq
  by_cases m0 : m = 0
  · subst m0
    have e0 : laT T (nI 0) = T := by
      rw [ela, show 0 * q / 100 = 0 by simp]
      exact laL_0 hG _ hw 3 g hg
    rw [e0]
    refine ⟨σ, ?_, h, hG, fun _ _ _ _ => rfl⟩
    simp only [s20_0, s20_1, s20_4, c20, show (nI 0 = 0) = True from eq_true rfl, simprocAttr, if_true, if_false, true_and, and_true, false_and, and_false, not_false_eq_true, not_true_eq_false, gd_T, kont_i, kont_v]
  · have mz : (nI m = 0) = False := eq_false (nI_ne0 (by omega) (by omega))
    obtain ⟨σ1, e1, f1⟩ := h2_lyingOf d (nI m) σ T h hL hL2
    rw [eq] at e1
    have r1 : HR 2 σ1 T := h.fr (fun o o1 o2 => f1 o (by omega))
    obtain ⟨σ2, e2, r2, G2, f2⟩ := h2_drift_l (d + 1) w m hw (T 4 / 60) 3 0 g (m * q / 100) σ1 T uu rfl hg (by omega) r1 hG h6
    rw [ela]
    refine ⟨σ2, ?_, r2, G2, fun o o1 o2 o3 => (f2 o o1 o2).trans (f1 o o3)⟩
    have hh : callD (d + 3) 5 [.ref 2] σ = some (some (.int (T 4 / 60)), σ) := h2_hourNow (d + 2) σ T h
    have x7 : σ1 9 4 = nI g := (r1.2.2.1 4 (by omega)).trans h8
    have ed : nI m * nI q / 100 = nI (m * q / 100) := by
      rw [pk_mul]; exact pk_div (d := 100) (by omega) (by decide) (by decide)
    simp only [s20_0, s20_1, s20_4, s20_5, s20_6_o2, s20_6_o59, s20_9, s20_10, s20_11, s20_12, s20_13, s20_14, s20_15_o2, s20_15_o59, s20_18, s20_19, s20_21, s20_22, s20_24, s20_25_o2, s20_25_o59, s20_28, s20_29_o9, s20_29_o66, s20_30, s20_32, s20_33, c20, mz, hh, e1, z100, ed, x7, vp_lit, not_false_eq_true, simprocAttr, if_true, if_false, true_and, and_true, false_and, and_false, not_false_eq_true, not_true_eq_false, gd_T, kont_i, kont_v]
    exact e2
theorem h59_lyingOf (d : Nat) (sm : Int32) (σ : Hs) (T : Nat → Int32) (h : HR 59 σ T) (hL : LR σ T) (hM : LWT T 2) : ∃ σ', callD (d + 3) 21 [.ref 59, .int sm, .int (T 4 / 60), .ref 13] σ = some (some (.int (heldI (givT T 2 (T 4 / 60) (T 5) sm 0) 0 100)), σ') ∧ ∀ o, o ≠ 15 → σ' o = σ o := by
  have hhas : callD (d + 2) 30 [.ref 13, .int 2] σ = _ := k_has_2 (d + 1) σ T hL.2.2
  have x7 : σ 66 1 = T 5 := h.2.2.1 1 (by omega)
  unfold givT
  by_cases c : 0 < T 483
  · obtain ⟨σ1, e1, f1⟩ := k_work_2 d (T 4 / 60) (T 5) sm 0 σ T hL.2.2 hM c
    refine ⟨σ1, ?_, f1⟩
    simp only [simprocAttr, if_true, if_false, true_and, and_true, false_and, and_false, not_false_eq_true, not_true_eq_false, gd_T, kont_i, kont_v]
    rw [if_neg (show ¬ T 483 ≤ 0 from Int32.not_le.mpr c), ← hel_c]
    simp only [c21, c21, s21_0, s21_1, s21_2_o13, s21_5, s21_8, s21_9, s21_11, s21_14, s21_15, s21_17, s21_20, s21_22, s21_25, s21_27, s21_28, s21_29, s21_30, s21_31, s21_32, s21_33_o2, s21_33_o59, s21_36, s21_37_o9, s21_37_o66, s21_38, s21_39, s21_40_o13, s21_43, s21_45, s21_48, s21_51, vp_lit, x7, hhas, b2_T c, e1, simprocAttr, if_true, if_false, true_and, and_true, false_and, and_false, not_false_eq_true, not_true_eq_false, gd_T, kont_i, kont_v]
  · refine ⟨σ, ?_, fun _ _ => rfl⟩
    simp only [simprocAttr, if_true, if_false, true_and, and_true, false_and, and_false, not_false_eq_true, not_true_eq_false, gd_T, kont_i, kont_v]
    rw [if_pos (show T 483 ≤ 0 from Int32.not_lt.mp c)]
    simp only [c21, c21, s21_0, s21_1, s21_2_o13, s21_5, s21_8, s21_9, s21_11, s21_14, s21_15, s21_17, s21_20, s21_22, s21_25, s21_27, s21_28, s21_29, s21_30, s21_31, s21_32, s21_33_o2, s21_33_o59, s21_36, s21_37_o9, s21_37_o66, s21_38, s21_39, s21_40_o13, s21_43, s21_45, s21_48, s21_51, hhas, b2_F c, simprocAttr, if_true, if_false, true_and, and_true, false_and, and_false, not_false_eq_true, not_true_eq_false, gd_T, kont_i, kont_v]
    by_cases c1 : 18 ≤ T 4 / 60
    · rw [if_pos c1, if_pos c1, hel_90]
    · rw [if_neg c1, if_neg c1]
      by_cases c2 : 6 ≤ T 4 / 60
      · rw [if_pos c2, if_pos c2, hel_40]
      · rw [if_neg c2, if_neg c2, hel_90]
theorem h59_drift (d m : Nat) (hm : m ≤ 2000000) (σ : Hs) (T : Nat → Int32) (h : HR 59 σ T) (hL : LR σ T) (hM : MOK T) (hG : GC T) : ∃ σ', callD (d + 4) 20 [.ref 59, .int (nI m), .ref 13] σ = some (none, σ') ∧ HR 59 σ' (laT T (nI m)) ∧ GC (laT T (nI m)) ∧ ∀ o, o ≠ 68 → o ≠ 69 → o ≠ 15 → σ' o = σ o := by
  obtain ⟨⟨-, -, hL2⟩, -, ⟨g, hg, h8⟩, w, hw, h6⟩ := hM
  obtain ⟨q, hq, eq⟩ := hel_100 (givT T 2 (T 4 / 60) (T 5) (nI m) 0)
  have el := leI_n hm hq eq
  have ela : laT T (nI m) = laL (T 4 / 60) w 3 T (nI (m * q / 100)) g := by
    unfold laT
    rw [el, h6, h8, cl_nI (by omega), cl_nI (by omega)]
  have hb : m * q ≤ 2000000 * 100 := Nat.mul_le_mul hm hq
  by_cases m0 : m = 0
  · subst m0
    have e0 : laT T (nI 0) = T := by
      rw [ela, show 0 * q / 100 = 0 by simp]
      exact laL_0 hG _ hw 3 g hg
    rw [e0]
    refine ⟨σ, ?_, h, hG, fun _ _ _ _ => rfl⟩
    simp only [s20_0, s20_1, s20_4, c20, show (nI 0 = 0) = True from eq_true rfl, simprocAttr, if_true, if_false, true_and, and_true, false_and, and_false, not_false_eq_true, not_true_eq_false, gd_T, kont_i, kont_v]
  · have mz : (nI m = 0) = False := eq_false (nI_ne0 (by omega) (by omega))
    obtain ⟨σ1, e1, f1⟩ := h59_lyingOf d (nI m) σ T h hL hL2
    rw [eq] at e1
    have r1 : HR 59 σ1 T := h.fr (fun o o1 o2 => f1 o (by omega))
    obtain ⟨σ2, e2, r2, G2, f2⟩ := h59_drift_l (d + 1) w m hw (T 4 / 60) 3 0 g (m * q / 100) σ1 T uu rfl hg (by omega) r1 hG h6
    rw [ela]
    refine ⟨σ2, ?_, r2, G2, fun o o1 o2 o3 => (f2 o o1 o2).trans (f1 o o3)⟩
    have hh : callD (d + 3) 5 [.ref 59] σ = some (some (.int (T 4 / 60)), σ) := h59_hourNow (d + 2) σ T h
    have x7 : σ1 66 4 = nI g := (r1.2.2.1 4 (by omega)).trans h8
    have ed : nI m * nI q / 100 = nI (m * q / 100) := by
      rw [pk_mul]; exact pk_div (d := 100) (by omega) (by decide) (by decide)
    simp only [s20_0, s20_1, s20_4, s20_5, s20_6_o2, s20_6_o59, s20_9, s20_10, s20_11, s20_12, s20_13, s20_14, s20_15_o2, s20_15_o59, s20_18, s20_19, s20_21, s20_22, s20_24, s20_25_o2, s20_25_o59, s20_28, s20_29_o9, s20_29_o66, s20_30, s20_32, s20_33, c20, mz, hh, e1, z100, ed, x7, vp_lit, not_false_eq_true, simprocAttr, if_true, if_false, true_and, and_true, false_and, and_false, not_false_eq_true, not_true_eq_false, gd_T, kont_i, kont_v]
    exact e2
theorem mnL_n {T : Nat → Int32} (hW : WI T) : ∀ n, n ≤ 30 → WI (mnL T n).1 ∧ ∃ m, m ≤ n * 50400 ∧ (mnL T n).2 = nI m := by
  intro n
  induction n with
  | zero => intro _; exact ⟨hW, 0, by omega, rfl⟩
  | succ n ih =>
    intro hn
    obtain ⟨w1, m, hm, em⟩ := ih (by omega)
    have hp : n < 30 := by omega
    show WI (mnS (mnL T n) n).1 ∧ ∃ m, m ≤ (n + 1) * 50400 ∧ (mnS (mnL T n) n).2 = nI m
    unfold mnS
    by_cases hi : isT (mnL T n).1 n
    · rw [if_pos hi]
      by_cases hl : litT (mnL T n).1 n
      · rw [if_pos hl]
        obtain ⟨s, b, w, e, es, eb, ew, ee, l1, ls, lb, lw, le, e1⟩ := bu_n w1 hp hi
        obtain ⟨t, et, lt⟩ := w1.n hp hi 3 (by omega) (by omega)
        have lt : t < 1000 := lt
        have hbt : b * (t + 10) ≤ 999 * 1009 := Nat.mul_le_mul (by omega) (by omega)
        have eS : buS (mnL T n).1 n (mnL T n).2 = nI (m + b * (t + 10) / 20) := by
          unfold buS
          have e10 : nI t + 10 = nI (t + 10) := nI_add t 10
          have e20 : nI (b * (t + 10)) / 20 = nI (b * (t + 10) / 20) := pk_div (d := 20) (by omega) (by decide) (by decide)
          rw [eb, et, em, e10, pk_mul, e20, nI_add]
        by_cases c : 0 < ofT (buT (mnL T n).1 n) n 2
        · rw [if_pos c]
          refine ⟨?_, m + b * (t + 10) / 20, by omega, eS⟩
          have ebR : buR (mnL T n).1 n = buT (mnL T n).1 n := by unfold buR; rw [if_pos c]
          show WI (gwT (buR (mnL T n).1 n) n)
          rw [ebR]
          exact (w1.bu hp hi c).gw hp (by rw [buT_is]; exact hi)
        · rw [if_neg c]
          exact ⟨WI_buR w1 hp hi, m + b * (t + 10) / 20, by omega, eS⟩
      · rw [if_neg hl]
        exact ⟨w1.gw hp hi, m, Nat.le_trans hm (Nat.mul_le_mul_right _ (Nat.le_succ n)), em⟩
    · rw [if_neg hi]
      exact ⟨w1, m, Nat.le_trans hm (Nat.mul_le_mul_right _ (Nat.le_succ n)), em⟩
/-- what is true of a row all the time -/
def MI (T : Nat → Int32) : Prop := WI T ∧ MOK T ∧ GC T ∧ CA (T 11) ∧ CA (T 12)
def PI (b : Nat) (σ : Hs) (T : Nat → Int32) : Prop := HR b σ T ∧ LR σ T ∧ MI T
theorem laT_GC {T : Nat → Int32} {m : Nat} (hm : m ≤ 2000000) (hM : MOK T) (hG : GC T) : GC (laT T (nI m)) := by
  obtain ⟨-, -, ⟨g, hg, h8⟩, w, hw, h6⟩ := hM
  obtain ⟨q, hq, eq⟩ := hel_100 (givT T 2 (T 4 / 60) (T 5) (nI m) 0)
  have el := leI_n hm hq eq
  have hb : m * q ≤ 2000000 * 100 := Nat.mul_le_mul hm hq
  unfold laT
  rw [el, h6, h8, cl_nI (by omega), cl_nI (by omega)]
  have go : ∀ n g l (T : Nat → Int32), g < 9 → l ≤ 2000000 → GC T → GC (laL (T 4 / 60) w n T (nI l) g) := by
    intro n g l T
    generalize T 4 / 60 = hr
    revert g l T
    induction n with
    | zero => intro g l T _ _ h; exact h
    | succ n ih =>
      intro g l T hg hl h
      have e2 : nI l / 2 = nI (l / 2) := pk_div (d := 2) (by omega) (by decide) (by decide)
      have G1 := GC_lg h (l := l / 2) (by omega) hr hg
      rw [laL, e2]
      cases hx : nxN g w with
      | none => exact G1
      | some x =>
        simp only []
        rw [pk_sub (by omega)]
        exact ih x (l - l / 2) _ (nxN_lt hg hw hx).1 (by omega) G1
  exact go 3 g _ T hg (by omega) hG
theorem MI.min {T : Nat → Int32} (h : MI T) : MI (minT T) := by
  obtain ⟨hW, hM, hG, h11, h12⟩ := h
  obtain ⟨w30, m, hm, em⟩ := mnL_n hW 30 (Nat.le_refl _)
  have n1 := (mnL_inv T hM.2.1 30 (Nat.le_refl _)).2
  have hM1 := MOK_mnL hM
  have G1 : GC (mnL T 30).1 := by
    intro g hg
    rw [n1 _ (Or.inr (by omega)), n1 _ (Or.inr (by omega))]
    exact hG g hg
  have G2 := laT_GC (m := m) (by omega) hM1 G1
  have c11 : CA ((mnL T 30).1 11) := by
    have go : ∀ n, n ≤ 30 → CA ((mnL T n).1 11) := by
      intro n
      induction n with
      | zero => intro _; exact h11
      | succ n ih =>
        intro hn
        have hc := ih (by omega)
        have wn := (mnL_n hW n (by omega)).1
        show CA ((mnS (mnL T n) n).1 11)
        unfold mnS
        split
        · rename_i hi
          split
          · have hb := CA_bu wn hc (by omega) hi
            split
            · rename_i hs
              show CA (gwT (buR (mnL T n).1 n) n 11)
              rw [gwT_lo (by omega)]
              unfold buR
              rw [if_pos hs]
              exact hb
            · rename_i hs
              show CA (buR (mnL T n).1 n 11)
              unfold buR
              rw [if_neg hs, goT_ne (Or.inl (by omega)), upd_at, if_neg (by omega)]
              exact hb
          · show CA (gwT (mnL T n).1 n 11)
            rw [gwT_lo (by omega)]
            exact hc
        · exact hc
    exact go 30 (Nat.le_refl _)
  refine ⟨w30.of (fun p f hp hf => minT_of hM hp hf), MOK_min hM, ?_, ?_, ?_⟩
  · intro g hg
    rw [minT_A (by omega) (by omega) (by omega), minT_A (by omega) (by omega) (by omega)]
    unfold minA
    rw [em]
    exact G2 g hg
  · rw [minT_A (by omega) (by omega) (by omega)]
    unfold minA
    rw [laT_ne hM1 (by omega)]
    exact c11
  · have e12 : minA T 12 = T 12 := by
      unfold minA
      rw [laT_ne hM1 (by omega)]
      have go : ∀ n, n ≤ 30 → (mnL T n).1 12 = T 12 := by
        intro n
        induction n with
        | zero => intro _; rfl
        | succ n ih =>
          intro hn
          have hc := ih (by omega)
          have bT : buT (mnL T n).1 n 12 = (mnL T n).1 12 := by
            unfold buT bu1 waT
            rw [upd_at, if_neg (by omega), teT_lo (by omega), teT_lo (by omega)]
          show (mnS (mnL T n) n).1 12 = T 12
          unfold mnS
          split
          · split
            · split
              · rename_i hs
                show gwT (buR (mnL T n).1 n) n 12 = T 12
                rw [gwT_lo (by omega)]
                unfold buR
                rw [if_pos hs, bT]
                exact hc
              · rename_i hs
                show buR (mnL T n).1 n 12 = T 12
                unfold buR
                rw [if_neg hs, goT_ne (Or.inl (by omega)), upd_at, if_neg (by omega), bT]
                exact hc
            · show gwT (mnL T n).1 n 12 = T 12
              rw [gwT_lo (by omega)]
              exact hc
          · exact hc
      exact go 30 (Nat.le_refl _)
    show CA (upd _ 0 _ 12)
    rw [upd_at, if_neg (by omega)]
    show CA (upd _ 4 _ 12)
    rw [upd_at, if_neg (by omega)]
    show CA (upd _ 12 _ 12)
    rw [upd_at, if_pos rfl, e12, em]
    exact more_c h12 (by omega)
theorem MI.it : ∀ n (T : Nat → Int32), MI T → MI (itT n T)
  | 0, _, h => h
  | n + 1, T, h => MI.it n (minT T) h.min
theorem h2_minute (d n k : Nat) (hn : n < 2147483648) (hk : k < n) (l4 : Value) (σ : Hs) (T : Nat → Int32) (hP : PI 2 σ T) : ∃ σ', ∃ l4', ru (d + 5) 13 2 [.ref 2, .int (nI n), .ref 13, .int (nI k), l4] [] σ = ru (d + 5) 13 2 [.ref 2, .int (nI n), .ref 13, .int (nI (k + 1)), l4'] [] σ' ∧ PI 2 σ' (minT T) ∧ ∀ o, (o < 2 ∨ 12 < o) → o ≠ 15 → σ' o = σ o := by
  obtain ⟨h, hL, hMI⟩ := hP
  obtain ⟨hW, hM, hG, h11, h12⟩ := id hMI
  have k31 : k < 2147483648 := by omega
  obtain ⟨w30, m, hm, em⟩ := mnL_n hW 30 (Nat.le_refl _)
  have n1 := (mnL_inv T hM.2.1 30 (Nat.le_refl _)).2
  have hM1 := MOK_mnL hM
  have G1 : GC (mnL T 30).1 := by
    intro g hg
    rw [n1 _ (Or.inr (by omega)), n1 _ (Or.inr (by omega))]
    exact hG g hg
  obtain ⟨σ1, e1, r1, f1⟩ := h2_burn (d + 1) σ T ⟨h, hL, hW, hM.1.1, h11⟩
  obtain ⟨r1h, r1l, -, -, -⟩ := r1
  obtain ⟨σ2, e2, r2, G2, f2⟩ := h2_drift (d + 1) m (by omega) σ1 (mnL T 30).1 r1h r1l hM1 G1
  rw [em] at e1
  have eA : minA T = laT (mnL T 30).1 (nI m) := by unfold minA; rw [em]
  rw [← eA] at r2
  have e12 : CA (minA T 12) := by
    have := hMI.min.2.2.2.2
    have q : minA T 12 = T 12 := by
      rw [eA, laT_ne hM1 (by omega)]
      have := r1h.2.2.2.2.2.2.1
      rw [← this]
      have q2 : σ1 2 12 = _ := this
      have gg : (mnL T 30).1 12 = T 12 := by
        have go : ∀ n, n ≤ 30 → (mnL T n).1 12 = T 12 := by
          intro n
          induction n with
          | zero => intro _; rfl
          | succ n ih =>
            intro hn
            have hc := ih (by omega)
            have bT : buT (mnL T n).1 n 12 = (mnL T n).1 12 := by
              unfold buT bu1 waT
              rw [upd_at, if_neg (by omega), teT_lo (by omega), teT_lo (by omega)]
            show (mnS (mnL T n) n).1 12 = T 12
            unfold mnS
            split
            · split
              · split
                · rename_i hs
                  show gwT (buR (mnL T n).1 n) n 12 = T 12
                  rw [gwT_lo (by omega)]
                  unfold buR
                  rw [if_pos hs, bT]
                  exact hc
                · rename_i hs
                  show buR (mnL T n).1 n 12 = T 12
                  unfold buR
                  rw [if_neg hs, goT_ne (Or.inl (by omega)), upd_at, if_neg (by omega), bT]
                  exact hc
              · show gwT (mnL T n).1 n 12 = T 12
                rw [gwT_lo (by omega)]
                exact hc
            · exact hc
        exact go 30 (Nat.le_refl _)
      rw [q2]; exact gg
    rw [q]; exact h12
  have r3 := r2.up (k := 12) (a := 12) (Or.inr (Or.inr (Or.inl ⟨rfl, rfl⟩))) (moreI (minA T 12) (nI m))
  have x7 : rep σ2 2 (upd (σ2 2) 12 (moreI (minA T 12) (nI m))) 9 0 = upd (minA T) 12 (moreI (minA T 12) (nI m)) 4 := r3.2.2.1 0 (by omega)
  have r4 := r3.st (k := 0) (by omega) (upd (minA T) 12 (moreI (minA T 12) (nI m)) 4 + 1 - (upd (minA T) 12 (moreI (minA T 12) (nI m)) 4 + 1) / 1440 * 1440)
  have x13 := r4.2.2.2.2.2.2.2
  have r5 := r4.up (k := 13) (a := 0) (Or.inr (Or.inr (Or.inr ⟨rfl, rfl⟩))) (upd (upd (minA T) 12 (moreI (minA T 12) (nI m))) (4 + 0) (upd (minA T) 12 (moreI (minA T 12) (nI m)) 4 + 1 - (upd (minA T) 12 (moreI (minA T 12) (nI m)) 4 + 1) / 1440 * 1440) 0 + 1)
  have g12 : σ2 2 12 = minA T 12 := r2.2.2.2.2.2.2.1
  have g7 : σ2 9 0 = upd (minA T) 12 (moreI (minA T 12) (nI m)) 4 := (congrFun (rep_ne (show 9 ≠ 2 by decide)) 0).symm.trans x7
  have g13 : σ2 2 13 = minA T 0 := r2.2.2.2.2.2.2.2
  have j12 : jmin (minA T 12 + nI m) 1999999999 = moreI (minA T 12) (nI m) := more_j e12 (by omega)
  have eT : minT T = upd (upd (upd (minA T) 12 (moreI (minA T 12) (nI m))) (4 + 0) (upd (minA T) 12 (moreI (minA T 12) (nI m)) 4 + 1 - (upd (minA T) 12 (moreI (minA T 12) (nI m)) 4 + 1) / 1440 * 1440)) 0 (upd (upd (minA T) 12 (moreI (minA T 12) (nI m))) (4 + 0) (upd (minA T) 12 (moreI (minA T 12) (nI m)) 4 + 1 - (upd (minA T) 12 (moreI (minA T 12) (nI m)) 4 + 1) / 1440 * 1440) 0 + 1) := by
    unfold minT
    rw [em]
  have hf : ∀ (F G H : Nat → Int32) o, (o < 2 ∨ 12 < o) → o ≠ 15 → rep (rep (rep σ2 2 F) 9 G) 2 H o = σ o := fun F G H o o1 o2 => (rep_ne (by omega)).trans ((rep_ne (by omega)).trans ((rep_ne (by omega)).trans ((f2 o (by omega) (by omega) o2).trans (f1 o (by omega) o2))))
  refine ⟨_, .int (nI m), ?_, ⟨by rw [eT]; exact r5, hL.fr (fun o o1 o2 => hf _ _ _ o (by omega) (by omega)) (fun j hj => minT_ne hM (Or.inr (by omega))), hMI.min⟩, hf _ _ _⟩
  generalize hR : ru (d + 5) 13 2 [.ref 2, .int (nI n), .ref 13, .int (nI (k + 1)), .int (nI m)] [] _ = R
  simp only [s13_2]
  simp only [s13_3, s13_4, s13_7, s13_8, s13_9_o2, s13_9_o59, s13_12, s13_14, s13_15, s13_17, s13_18_o2, s13_18_o59, s13_21, s13_22, s13_23_o2, s13_23_o59, s13_26, s13_28, s13_29, s13_31, s13_34_o2, s13_34_o59, s13_37, s13_38_o2, s13_38_o59, s13_41, s13_42, s13_43_o2, s13_43_o59, s13_46, s13_47_o9, s13_47_o66, s13_48, s13_49, s13_50, s13_53, s13_54_o9, s13_54_o66, s13_55, s13_56, s13_57_o2, s13_57_o59, s13_60, s13_61, s13_62_o2, s13_62_o59, s13_65, s13_68, le_nn hn k31, e1, e2, g12, g7, g13, j12, vp_lit, z1440, up2_rep, rep_at, upd_at, nI_1, not_false_eq_true, simprocAttr, if_true, if_false, true_and, and_true, false_and, and_false, not_false_eq_true, not_true_eq_false, gd_T, kont_i, kont_v]
  rw [if_neg (by omega)]
  simp only [rep_at, upd_at, up2_rep, simprocAttr, if_true, if_false, true_and, and_true, false_and, and_false, not_false_eq_true, not_true_eq_false, gd_T, kont_i, kont_v] at hR
  exact hR
theorem h59_minute (d n k : Nat) (hn : n < 2147483648) (hk : k < n) (l4 : Value) (σ : Hs) (T : Nat → Int32) (hP : PI 59 σ T) : ∃ σ', ∃ l4', ru (d + 5) 13 2 [.ref 59, .int (nI n), .ref 13, .int (nI k), l4] [] σ = ru (d + 5) 13 2 [.ref 59, .int (nI n), .ref 13, .int (nI (k + 1)), l4'] [] σ' ∧ PI 59 σ' (minT T) ∧ ∀ o, (o < 59 ∨ 69 < o) → o ≠ 15 → σ' o = σ o := by
  obtain ⟨h, hL, hMI⟩ := hP
  obtain ⟨hW, hM, hG, h11, h12⟩ := id hMI
  have k31 : k < 2147483648 := by omega
  obtain ⟨w30, m, hm, em⟩ := mnL_n hW 30 (Nat.le_refl _)
  have n1 := (mnL_inv T hM.2.1 30 (Nat.le_refl _)).2
  have hM1 := MOK_mnL hM
  have G1 : GC (mnL T 30).1 := by
    intro g hg
    rw [n1 _ (Or.inr (by omega)), n1 _ (Or.inr (by omega))]
    exact hG g hg
  obtain ⟨σ1, e1, r1, f1⟩ := h59_burn (d + 1) σ T ⟨h, hL, hW, hM.1.1, h11⟩
  obtain ⟨r1h, r1l, -, -, -⟩ := r1
  obtain ⟨σ2, e2, r2, G2, f2⟩ := h59_drift (d + 1) m (by omega) σ1 (mnL T 30).1 r1h r1l hM1 G1
  rw [em] at e1
  have eA : minA T = laT (mnL T 30).1 (nI m) := by unfold minA; rw [em]
  rw [← eA] at r2
  have e12 : CA (minA T 12) := by
    have := hMI.min.2.2.2.2
    have q : minA T 12 = T 12 := by
      rw [eA, laT_ne hM1 (by omega)]
      have := r1h.2.2.2.2.2.2.1
      rw [← this]
      have q2 : σ1 59 12 = _ := this
      have gg : (mnL T 30).1 12 = T 12 := by
        have go : ∀ n, n ≤ 30 → (mnL T n).1 12 = T 12 := by
          intro n
          induction n with
          | zero => intro _; rfl
          | succ n ih =>
            intro hn
            have hc := ih (by omega)
            have bT : buT (mnL T n).1 n 12 = (mnL T n).1 12 := by
              unfold buT bu1 waT
              rw [upd_at, if_neg (by omega), teT_lo (by omega), teT_lo (by omega)]
            show (mnS (mnL T n) n).1 12 = T 12
            unfold mnS
            split
            · split
              · split
                · rename_i hs
                  show gwT (buR (mnL T n).1 n) n 12 = T 12
                  rw [gwT_lo (by omega)]
                  unfold buR
                  rw [if_pos hs, bT]
                  exact hc
                · rename_i hs
                  show buR (mnL T n).1 n 12 = T 12
                  unfold buR
                  rw [if_neg hs, goT_ne (Or.inl (by omega)), upd_at, if_neg (by omega), bT]
                  exact hc
              · show gwT (mnL T n).1 n 12 = T 12
                rw [gwT_lo (by omega)]
                exact hc
            · exact hc
        exact go 30 (Nat.le_refl _)
      rw [q2]; exact gg
    rw [q]; exact h12
  have r3 := r2.up (k := 12) (a := 12) (Or.inr (Or.inr (Or.inl ⟨rfl, rfl⟩))) (moreI (minA T 12) (nI m))
  have x7 : rep σ2 59 (upd (σ2 59) 12 (moreI (minA T 12) (nI m))) 66 0 = upd (minA T) 12 (moreI (minA T 12) (nI m)) 4 := r3.2.2.1 0 (by omega)
  have r4 := r3.st (k := 0) (by omega) (upd (minA T) 12 (moreI (minA T 12) (nI m)) 4 + 1 - (upd (minA T) 12 (moreI (minA T 12) (nI m)) 4 + 1) / 1440 * 1440)
  have x13 := r4.2.2.2.2.2.2.2
  have r5 := r4.up (k := 13) (a := 0) (Or.inr (Or.inr (Or.inr ⟨rfl, rfl⟩))) (upd (upd (minA T) 12 (moreI (minA T 12) (nI m))) (4 + 0) (upd (minA T) 12 (moreI (minA T 12) (nI m)) 4 + 1 - (upd (minA T) 12 (moreI (minA T 12) (nI m)) 4 + 1) / 1440 * 1440) 0 + 1)
  have g12 : σ2 59 12 = minA T 12 := r2.2.2.2.2.2.2.1
  have g7 : σ2 66 0 = upd (minA T) 12 (moreI (minA T 12) (nI m)) 4 := (congrFun (rep_ne (show 66 ≠ 59 by decide)) 0).symm.trans x7
  have g13 : σ2 59 13 = minA T 0 := r2.2.2.2.2.2.2.2
  have j12 : jmin (minA T 12 + nI m) 1999999999 = moreI (minA T 12) (nI m) := more_j e12 (by omega)
  have eT : minT T = upd (upd (upd (minA T) 12 (moreI (minA T 12) (nI m))) (4 + 0) (upd (minA T) 12 (moreI (minA T 12) (nI m)) 4 + 1 - (upd (minA T) 12 (moreI (minA T 12) (nI m)) 4 + 1) / 1440 * 1440)) 0 (upd (upd (minA T) 12 (moreI (minA T 12) (nI m))) (4 + 0) (upd (minA T) 12 (moreI (minA T 12) (nI m)) 4 + 1 - (upd (minA T) 12 (moreI (minA T 12) (nI m)) 4 + 1) / 1440 * 1440) 0 + 1) := by
    unfold minT
    rw [em]
  have hf : ∀ (F G H : Nat → Int32) o, (o < 59 ∨ 69 < o) → o ≠ 15 → rep (rep (rep σ2 59 F) 66 G) 59 H o = σ o := fun F G H o o1 o2 => (rep_ne (by omega)).trans ((rep_ne (by omega)).trans ((rep_ne (by omega)).trans ((f2 o (by omega) (by omega) o2).trans (f1 o (by omega) o2))))
  refine ⟨_, .int (nI m), ?_, ⟨by rw [eT]; exact r5, hL.fr (fun o o1 o2 => hf _ _ _ o (by omega) (by omega)) (fun j hj => minT_ne hM (Or.inr (by omega))), hMI.min⟩, hf _ _ _⟩
  generalize hR : ru (d + 5) 13 2 [.ref 59, .int (nI n), .ref 13, .int (nI (k + 1)), .int (nI m)] [] _ = R
  simp only [s13_2]
  simp only [s13_3, s13_4, s13_7, s13_8, s13_9_o2, s13_9_o59, s13_12, s13_14, s13_15, s13_17, s13_18_o2, s13_18_o59, s13_21, s13_22, s13_23_o2, s13_23_o59, s13_26, s13_28, s13_29, s13_31, s13_34_o2, s13_34_o59, s13_37, s13_38_o2, s13_38_o59, s13_41, s13_42, s13_43_o2, s13_43_o59, s13_46, s13_47_o9, s13_47_o66, s13_48, s13_49, s13_50, s13_53, s13_54_o9, s13_54_o66, s13_55, s13_56, s13_57_o2, s13_57_o59, s13_60, s13_61, s13_62_o2, s13_62_o59, s13_65, s13_68, le_nn hn k31, e1, e2, g12, g7, g13, j12, vp_lit, z1440, up2_rep, rep_at, upd_at, nI_1, not_false_eq_true, simprocAttr, if_true, if_false, true_and, and_true, false_and, and_false, not_false_eq_true, not_true_eq_false, gd_T, kont_i, kont_v]
  rw [if_neg (by omega)]
  simp only [rep_at, upd_at, up2_rep, simprocAttr, if_true, if_false, true_and, and_true, false_and, and_false, not_false_eq_true, not_true_eq_false, gd_T, kont_i, kont_v] at hR
  exact hR
