/-! ===== the call: feed, the runs ===== -/
theorem by_lt (w : Int64) (k : Nat) : byN w k < 256 := Nat.mod_lt _ (by omega)
def tpS (σ : Hs) (A : Nat → Int32) (s : Int32) : Hs := rep (rep σ 23 A) 22 (upd (σ 22) 1 s)
theorem tp_22 (σ : Hs) (A : Nat → Int32) (s : Int32) : tpS σ A s 22 = upd (σ 22) 1 s := rep_self _ _ _
theorem tp_23 (σ : Hs) (A : Nat → Int32) (s : Int32) : tpS σ A s 23 = A := by
  unfold tpS
  rw [rep_ne (by omega), rep_self]
theorem tp_o (σ : Hs) (A : Nat → Int32) (s : Int32) {o : Nat} (h : o ≠ 22) (h2 : o ≠ 23) : tpS σ A s o = σ o := by
  unfold tpS
  rw [rep_ne h, rep_ne h2]
theorem tp_tp (σ : Hs) (A B : Nat → Int32) (s r : Int32) : rep (rep (tpS σ A s) 23 B) 22 (upd (tpS σ A s 22) 1 r) = tpS σ B r := by
  rw [tp_22, upd_upd]
  funext o
  unfold tpS
  simp only [rep_at]
  by_cases c : o = 22
  · rw [if_pos c, if_pos c]
  · by_cases c2 : o = 23
    · rw [if_neg c, if_pos c2, if_neg c, if_pos c2]
    · rw [if_neg c, if_neg c2, if_neg c, if_neg c2, if_neg c, if_neg c2]
theorem tp_self (σ : Hs) {s : Int32} (h : σ 22 1 = s) : tpS σ (σ 23) s = σ := by
  funext o
  unfold tpS
  rw [rep_same, rep_at]
  by_cases c : o = 22
  · rw [if_pos c, c]
    funext q
    rw [upd_at]
    by_cases c2 : q = 1
    · rw [if_pos c2, c2, h]
    · rw [if_neg c2]
  · rw [if_neg c]
theorem k_feed_l (d t n : Nat) (w : Int64) (hn : n ≤ 8) (ht : t + n ≤ 60) (σ : Hs) : ∀ m k, k + m = n → ru (d + 1) 67 42 [.ref 0, .long w, uu, .int (nI n), .int (nI k)] [] (tpS σ (cbF (fun q => nI (byN w q)) (σ 23) t k) (nI (t + k))) = some (some (.int (nI (t + n))), tpS σ (cbF (fun q => nI (byN w q)) (σ 23) t n) (nI (t + n))) := by
  intro m
  induction m with
  | zero =>
    intro k hk
    obtain rfl : k = n := by omega
    have e : tpS σ (cbF (fun q => nI (byN w q)) (σ 23) t k) (nI (t + k)) 22 1 = nI (t + k) := by rw [tp_22, upd_at, if_pos rfl]
    simp only [s67_42]
    simp only [s67_44, s67_45, s67_48, s67_49_o0, s67_52_o1, s67_55, s67_56, s67_58, s67_60, s67_61, s67_62, s67_63, s67_66, s67_67_o22, s67_70, s67_71, s67_74, s67_77, s67_78_o0, s67_81_o1, s67_84_o22, s67_87, Int32.le_refl, e, simprocAttr, if_true, if_false, true_and, and_true, false_and, and_false, not_false_eq_true, not_true_eq_false, gd_T, kont_i, kont_v]
  | succ m ih =>
    intro k hk
    have e : (nI n ≤ nI k) = False := by rw [le_nn (by omega) (by omega)]; exact eq_false (by omega)
    have n1 := nI_1 k
    have hb := by_c w k (by omega)
    have ha := r22_add d (t + k) (by omega) (nI (byN w k)) (tpS σ (cbF (fun q => nI (byN w q)) (σ 23) t k) (nI (t + k))) (by rw [tp_22, upd_at, if_pos rfl])
    rw [tp_tp, tp_23, cbF_s (fun q => nI (byN w q)) (σ 23) t k] at ha
    have hi := ih (k + 1) (by omega)
    simp only [s67_42]
    simp only [s67_44, s67_45, s67_48, s67_49_o0, s67_52_o1, s67_55, s67_56, s67_58, s67_60, s67_61, s67_62, s67_63, s67_66, s67_67_o22, s67_70, s67_71, s67_74, e, hb, ha, n1, simprocAttr, if_true, if_false, true_and, and_true, false_and, and_false, not_false_eq_true, not_true_eq_false, gd_T, kont_i, kont_v]
    exact hi
theorem m_feed_l (d t n : Nat) (w : Int64) (hn : n ≤ 8) (ht : t + n ≤ 60) (σ : Hs) : ∀ m k, k + m = n → ru (d + 1) 143 40 [.ref 87, .long w, uu, .int (nI n), .int (nI k)] [] (rep σ 88 (upd (cbF (fun q => nI (byN w q)) (σ 88) (275 + t) k) 1 (nI (t + k)))) = some (some (.int (nI (t + n))), rep σ 88 (upd (cbF (fun q => nI (byN w q)) (σ 88) (275 + t) n) 1 (nI (t + n)))) := by
  intro m
  induction m with
  | zero =>
    intro k hk
    obtain rfl : k = n := by omega
    simp only [s143_40]
    simp only [s143_42, s143_43, s143_89, s143_90_o87, s143_93, s143_94_o88, s143_95, Int32.le_refl, vp_lit, rep_self, upd_at, simprocAttr, if_true, if_false, true_and, and_true, false_and, and_false, not_false_eq_true, not_true_eq_false, gd_T, kont_i, kont_v]
  | succ m ih =>
    intro k hk
    have e : (nI n ≤ nI k) = False := by rw [le_nn (by omega) (by omega)]; exact eq_false (by omega)
    have n1 := nI_1 k
    have n2 := nI_1 (t + k)
    have hb := by_m w k (by omega)
    have ix : (275 : Int32) + nI (t + k) = nI (275 + (t + k)) := nI_add 275 (t + k)
    have hi := ih (k + 1) (by omega)
    have es : upd (upd (upd (cbF (fun q => nI (byN w q)) (σ 88) (275 + t) k) 1 (nI (t + k))) (275 + (t + k)) (nI (byN w k))) 1 (nI (t + k + 1)) = upd (cbF (fun q => nI (byN w q)) (σ 88) (275 + t) (k + 1)) 1 (nI (t + (k + 1))) := by
      rw [upd_sw _ (show 1 ≠ 275 + (t + k) by omega), upd_upd, show 275 + (t + k) = 275 + t + k by omega, cbF_s (fun q => nI (byN w q)) (σ 88) (275 + t) k]
      rfl
    have ne : (1 = 275 + (t + k)) = False := eq_false (by omega)
    simp only [s143_40]
    simp only [s143_42, s143_43, s143_46, s143_47_o87, s143_50, s143_53, s143_54_o87, s143_57, s143_58_o88, s143_59, s143_60, s143_61, s143_63, s143_65, s143_66, s143_67, s143_70, s143_71, s143_72_o88, s143_73, s143_74_o87, s143_77, s143_78, s143_79_o88, s143_80, s143_81, s143_82_o88, s143_83, s143_86, e, vp_lit, rep_self, upd_at, ix, hb, vp_nI (show 275 + (t + k) < 545 by omega), cl_nI (show 275 + (t + k) < 2147483648 by omega), up2_rep, rep_rep, ne, n2, es, n1, simprocAttr, if_true, if_false, true_and, and_true, false_and, and_false, not_false_eq_true, not_true_eq_false, gd_T, kont_i, kont_v]
    exact hi
/-- the tape changes -/
theorem SR.tape {σ σ' : Hs} {T T' : Nat → Int32} (h : SR 1 σ T) {n : Nat} (hn : n ≤ 60) (h2 : T' 1 = nI n) (hr : RW 22 n σ' (fun k => T' (275 + k))) (f : ∀ o, ((1 ≤ o ∧ o ≤ 21) ∨ (24 ≤ o ∧ o ≤ 29)) → σ' o = σ o) (e : ∀ a, a ≠ 1 → (a < 275 ∨ 335 ≤ a) → T' a = T a) : SR 1 σ' T' := by
  obtain ⟨h1, hl, -, ⟨m, m1, m2, m3, m4⟩, ⟨t, t1, t2, t3⟩, h6⟩ := h
  refine ⟨(h1.fr (fun o o1 o2 => f o (by omega))).cg (fun a ha => e a (by omega) (by omega)), fun u hu cnt hc ec => ?_, ⟨n, hn, h2, hr⟩, ⟨m, m1, ?_, ?_, ?_⟩, ⟨t, t1, ?_, ?_⟩, ?_⟩
  · rw [e _ (by omega) (by omega)] at ec
    exact ((hl u hu cnt hc ec).fr (σ' := σ') (fun o o1 o2 => f o (by omega))).cg (fun j hj => congrArg enI (e _ (by omega) (by omega)))
  · rw [e _ (by omega) (by omega)]; exact m2
  · exact (m3.fr (σ' := σ') (fun o o1 o2 => f o (by omega))).cg (fun j hj => e _ (by omega) (by omega))
  · exact (m4.fr (σ' := σ') (fun o o1 o2 => f o (by omega))).cg (fun j hj => e _ (by omega) (by omega))
  · rw [e _ (by omega) (by omega)]; exact t2
  · exact (t3.fr (σ' := σ') (fun o o1 o2 => f o (by omega))).cg (fun j hj => e _ (by omega) (by omega))
  · rw [f 1 (by omega), e _ (by omega) (by omega)]; exact h6
theorem TI.tape {T T' : Nat → Int32} (h : TI T) {n : Nat} (hn : n ≤ 60) (h1' : T' 1 = nI n) (hc : ∀ k, k < n → ∃ c, c < 256 ∧ T' (275 + k) = nI c) (e : ∀ a, a ≠ 1 → (a < 275 ∨ 335 ≤ a) → T' a = T a) : TI T' := by
  obtain ⟨h1, h2, h3⟩ := h
  refine ⟨h1.cg (fun a ha => e a (by omega) (by omega)), fun m hm em k hk => ?_, fun m hm en k hk => ?_⟩
  · rw [h1', nI_eq (by omega) (by omega)] at em
    exact hc k (by omega)
  · rw [e _ (by omega) (by omega)] at en
    rw [e _ (by omega) (by omega), e _ (by omega) (by omega)]; exact h3 m hm en k hk
theorem L_feed {i : Nat} {σ : Hs} (h : RR i σ) (d : Nat) (w : Int64) (v : Int32) : Step d i 67 143 [.long w, .int v] σ := by
  obtain ⟨t, lt, h1, hr⟩ := h.sr.2.2.1
  have hr : RW 22 t σ (fun k => σ 88 (275 + k)) := hr
  have z0 := hr.1
  by_cases hv : 1 ≤ v ∧ v ≤ 8
  · have hvt := eq_true hv
    obtain ⟨n, n1, n8, rfl⟩ := within_n (a := 1) (b := 8) hv rfl rfl (by omega) (by omega)
    have ad : nI t + nI n = nI (t + n) := nI_add t n
    by_cases c : t + n ≤ 60
    · have g : (nI (t + n) ≤ (60 : Int32)) = True := by rw [show (60 : Int32) = nI 60 from rfl, le_nn (by omega) (by omega)]; exact eq_true c
      have k1 := k_feed_l (d + 98) t n w n8 c σ n 0 (by omega)
      rw [cbF_0, show t + 0 = t from rfl, tp_self σ z0, n_0] at k1
      have c1 : callD (d + 100) 67 [.ref 0, .long w, .int (nI n)] σ = some (some (.int (nI (t + n))), tpS σ (cbF (fun q => nI (byN w q)) (σ 23) t n) (nI (t + n))) := by
        simp only [c67, s67_0, s67_1, s67_2, s67_4, s67_7, s67_10, s67_11, s67_12_o0, s67_15, s67_16, s67_17_o0, s67_20_o1, s67_23_o22, s67_26, s67_27, s67_28, s67_30, s67_33, s67_34, s67_35_o0, s67_38, s67_39, s67_40, k_within, hvt, b2_t, z0, ad, g, simprocAttr, if_true, if_false, true_and, and_true, false_and, and_false, not_false_eq_true, not_true_eq_false, gd_T, kont_i, kont_v]
        exact k1
      generalize hs1 : tpS σ (cbF (fun q => nI (byN w q)) (σ 23) t n) (nI (t + n)) = σ1 at c1
      have f88 : σ1 88 = σ 88 := by rw [← hs1]; exact tp_o _ _ _ (by omega) (by omega)
      have m1 := m_feed_l (d + 98) t n w n8 c σ1 n 0 (by omega)
      have e0 : rep σ1 88 (upd (cbF (fun q => nI (byN w q)) (σ1 88) (275 + t) 0) 1 (nI (t + 0))) = σ1 := by
        rw [cbF_0, show t + 0 = t from rfl]
        funext o
        rw [rep_at]
        by_cases c : o = 88
        · rw [if_pos c, c]
          funext q
          rw [upd_at]
          by_cases c2 : q = 1
          · rw [if_pos c2, c2, f88]; exact h1.symm
          · rw [if_neg c2]
        · rw [if_neg c]
      rw [e0, n_0] at m1
      have z1 : σ1 88 1 = nI t := by rw [f88]; exact h1
      have c2 : callD (d + 100) 143 [.ref 87, .long w, .int (nI n)] σ1 = some (some (.int (nI (t + n))), rep σ1 88 (upd (cbF (fun q => nI (byN w q)) (σ1 88) (275 + t) n) 1 (nI (t + n)))) := by
        simp only [c143, s143_0, s143_1, s143_2, s143_4, s143_7, s143_10, s143_11, s143_13_o87, s143_16, s143_17, s143_18_o87, s143_21, s143_22_o88, s143_23, s143_24, s143_25, s143_27, s143_30, s143_31, s143_33_o87, s143_36, s143_37, s143_38, m_within, hvt, b2_t, vp_lit, z1, ad, g, simprocAttr, if_true, if_false, true_and, and_true, false_and, and_false, not_false_eq_true, not_true_eq_false, gd_T, kont_i, kont_v]
        exact m1
      have ee : ∀ a, a ≠ 1 → (a < 275 ∨ 335 ≤ a) → upd (cbF (fun q => nI (byN w q)) (σ1 88) (275 + t) n) 1 (nI (t + n)) a = σ 88 a := fun a a1 a2 => by
        rw [upd_at, if_neg a1]
        unfold cbF
        rw [if_neg (by omega), f88]
      have e1 : upd (cbF (fun q => nI (byN w q)) (σ1 88) (275 + t) n) 1 (nI (t + n)) 1 = nI (t + n) := by rw [upd_at, if_pos rfl]
      refine ⟨_, _, _, c1, c2, h.row (rep_self _ _ _) (h.sr.tape (n := t + n) c e1 ⟨?_, fun k hk => ?_⟩ (fun o ho => ?_) ee) (h.ti.tape (n := t + n) c e1 (fun k hk => ?_) ee) (fun a ha => ee a (by omega) (by omega)) (h.wb.two c1 c2) (fun o ho => ?_) ?_ ?_⟩
      · rw [rep_ne (by omega), ← hs1, tp_22, upd_at, if_pos rfl]
      · show rep σ1 88 _ 23 k = upd (cbF (fun q => nI (byN w q)) (σ1 88) (275 + t) n) 1 (nI (t + n)) (275 + k)
        have e23 : σ1 23 = cbF (fun q => nI (byN w q)) (σ 23) t n := by rw [← hs1, tp_23]
        rw [rep_ne (by omega), e23, upd_at, if_neg (by omega)]
        unfold cbF
        by_cases c2 : t ≤ k ∧ k < t + n
        · rw [if_pos c2, if_pos (by omega), show 275 + k - (275 + t) = k - t by omega]
        · rw [if_neg c2, if_neg (by omega), f88]
          exact hr.2 k (by omega)
      · rw [rep_ne (by omega), ← hs1, tp_o _ _ _ (by omega) (by omega)]
      · rw [upd_at, if_neg (by omega)]
        unfold cbF
        by_cases c2 : 275 + t ≤ 275 + k ∧ 275 + k < 275 + t + n
        · rw [if_pos c2]
          exact ⟨_, by_lt w _, rfl⟩
        · rw [if_neg c2, f88]
          exact h.ti.2.1 t lt h1 k (by omega)
      · unfold kpO at ho
        rw [rep_ne (by omega), ← hs1, tp_o _ _ _ (by omega) (by omega)]
      · rw [rep_ne (by omega), ← hs1, tp_o _ _ _ (by omega) (by omega)]
      · rw [rep_ne (by omega), ← hs1, tp_o _ _ _ (by omega) (by omega)]
    · have g : (nI (t + n) ≤ (60 : Int32)) = False := by rw [show (60 : Int32) = nI 60 from rfl, le_nn (by omega) (by omega)]; exact eq_false c
      refine Step_err h 4 (v := -1000004) ?_ ?_
      · simp only [c67, s67_0, s67_1, s67_2, s67_4, s67_7, s67_10, s67_11, s67_12_o0, s67_15, s67_16, s67_17_o0, s67_20_o1, s67_23_o22, s67_26, s67_27, s67_28, s67_30, s67_33, s67_34, s67_35_o0, s67_38, s67_39, s67_40, k_within, hvt, b2_t, z0, ad, g, k_failed_4, simprocAttr, if_true, if_false, true_and, and_true, false_and, and_false, not_false_eq_true, not_true_eq_false, gd_T, kont_i, kont_v]
      · have e : erC σ 4 88 1 = nI t := by rw [show erC σ 4 88 = σ 88 from rep_ne (by omega)]; exact h1
        simp only [c143, s143_0, s143_1, s143_2, s143_4, s143_7, s143_10, s143_11, s143_13_o87, s143_16, s143_17, s143_18_o87, s143_21, s143_22_o88, s143_23, s143_24, s143_25, s143_27, s143_30, s143_31, s143_33_o87, s143_36, s143_37, s143_38, m_within, hvt, b2_t, vp_lit, e, ad, g, m_fin_4, simprocAttr, if_true, if_false, true_and, and_true, false_and, and_false, not_false_eq_true, not_true_eq_false, gd_T, kont_i, kont_v]
  · have hvf := eq_false hv
    refine Step_err h 1 (v := -1000001) ?_ ?_
    · simp only [c67, s67_0, s67_1, s67_2, s67_4, s67_7, s67_10, s67_11, s67_12_o0, s67_15, s67_16, s67_17_o0, s67_20_o1, s67_23_o22, s67_26, s67_27, s67_28, s67_30, s67_33, s67_34, s67_35_o0, s67_38, s67_39, s67_40, k_within, hvf, b2_f, k_failed_1, simprocAttr, if_true, if_false, true_and, and_true, false_and, and_false, not_false_eq_true, not_true_eq_false, gd_T, kont_i, kont_v]
    · simp only [c143, s143_0, s143_1, s143_2, s143_4, s143_7, s143_10, s143_11, s143_13_o87, s143_16, s143_17, s143_18_o87, s143_21, s143_22_o88, s143_23, s143_24, s143_25, s143_27, s143_30, s143_31, s143_33_o87, s143_36, s143_37, s143_38, m_within, hvf, b2_f, m_fin_1, simprocAttr, if_true, if_false, true_and, and_true, false_and, and_false, not_false_eq_true, not_true_eq_false, gd_T, kont_i, kont_v]
