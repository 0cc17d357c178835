/-! ===== text: all levels ===== -/
theorem PRz.mp {σ0 τ0 : Hs} {n op a : Nat} {Lc Lm : List Int32} {Rc Rm Rc' : Rs} (h : PRz σ0 τ0 n op a Lc Lm Rc Rm) (e : ∀ τ, Rc = some (none, τ) → Rc' = some (none, τ)) : PRz σ0 τ0 n op a Lc Lm Rc' Rm := by
  rcases h with ⟨a2, C, x1, x2, x3, x4, x5, x6⟩ | ⟨a2, X, Y, x1, x2, x5, x6⟩
  · exact Or.inl ⟨a2, C, x1, x2, x3, x4, e _ x5, x6⟩
  · exact Or.inr ⟨a2, X, Y, x1, x2, e _ x5, x6⟩
theorem lev_5 {σ0 τ0 : Hs} {n op a : Nat} {Lc Lm : List Int32} {Rm : Rs} (D : Nat) (h : PRz σ0 τ0 n op a Lc Lm (callD D 39 [.ref 70, .int (nI op)] (rcS σ0 a Lc false)) Rm) : PRz σ0 τ0 n op a Lc Lm (callD (D + 1) 38 [.ref 70, .int 5, .int (nI op)] (rcS σ0 a Lc false)) Rm := by
  refine h.mp (fun τ e => ?_)
  have g : ((5 : Int32) < 5) = False := eq_false (by decide)
  simp only [c38, s38_0, s38_1, s38_2, s38_5, s38_6, s38_7_o70, s38_10, g, e, simprocAttr, if_true, if_false, true_and, and_true, false_and, and_false, not_false_eq_true, not_true_eq_false, gd_T, kont_i, kont_v]
theorem lev_0 {σ0 τ0 : Hs} {n : Nat} {B : Nat → Nat} (hc : TPc σ0 n B) (hm : TPm τ0 n B) (E1 E2 op : Nat) (un : ∀ a Lc Lm, a ≤ n → Lm.length ≤ a → PRz σ0 τ0 n op a Lc Lm (callD (E1 + 5) 39 [.ref 70, .int (nI op)] (rcS σ0 a Lc false)) (callD (E2 + 3) 153 [.ref 87] (rmS τ0 a Lm false op))) (a : Nat) (Lc Lm : List Int32) (ha : a ≤ n) (hL : Lm.length ≤ a) : PRz σ0 τ0 n op a Lc Lm (callD (E1 + 11) 38 [.ref 70, .int 0, .int (nI op)] (rcS σ0 a Lc false)) (callD (E2 + 8) 147 [.ref 87] (rmS τ0 a Lm false op)) :=
  lvl_0 hc hm (E1 + 4) (E2 + 4) op (fun a Lc Lm ha hL => lvl_1 hc hm (E1 + 3) (E2 + 3) op (fun a Lc Lm ha hL => lvl_2 hc hm (E1 + 2) (E2 + 2) op (fun a Lc Lm ha hL => lvl_3 hc hm (E1 + 1) (E2 + 1) op (fun a Lc Lm ha hL => lvl_4 hc hm E1 E2 op (fun a Lc Lm ha hL => lev_5 (E1 + 5) (un a Lc Lm ha hL)) a Lc Lm ha hL) a Lc Lm ha hL) a Lc Lm ha hL) a Lc Lm ha hL) a Lc Lm ha hL
theorem unit_all {σ0 τ0 : Hs} {n : Nat} {B : Nat → Nat} (hc : TPc σ0 n B) (hm : TPm τ0 n B) {s : Nat} {F : Nat → Int32} (hN : NMz σ0 τ0 s F) : ∀ k op, op + k = 5 → ∀ D1 D2, 8 + 7 * k ≤ D1 → 8 + 6 * k ≤ D2 → ∀ a Lc Lm, a ≤ n → Lm.length ≤ a → PRz σ0 τ0 n op a Lc Lm (callD D1 39 [.ref 70, .int (nI op)] (rcS σ0 a Lc false)) (callD D2 153 [.ref 87] (rmS τ0 a Lm false op)) := by
  intro k
  induction k with
  | zero =>
    intro op hop D1 D2 h1 h2 a Lc Lm ha hL
    obtain ⟨E1, rfl⟩ : ∃ E, D1 = E + 8 := ⟨D1 - 8, by omega⟩
    obtain ⟨E2, rfl⟩ : ∃ E, D2 = E + 8 := ⟨D2 - 8, by omega⟩
    by_cases qd : 48 ≤ chN B n a ∧ chN B n a ≤ 57
    · exact unit_num hc hm E1 E2 op a Lc Lm ha hL (fun τ => ⟨F (chN B n a), by rw [hN.1]; exact hN.2.2.1 (E1 + 1) _ (ch_lt hc a) τ⟩) qd (by rw [hN.1]; exact hN.2.1)
    · rcases hN.2.2.2.2 (chN B n a) with hF | ⟨⟨j, hj, hF⟩, q0, q33, q40, -⟩
      · exact unit_bad hc hm hN E1 E2 op a Lc Lm ha hF qd (Or.inr (by omega))
      · exact unit_nam hc hm hN E1 E2 op a Lc Lm ha hL hj hF q0 q33 q40 qd
  | succ k ih =>
    intro op hop D1 D2 h1 h2 a Lc Lm ha hL
    obtain ⟨E1, rfl⟩ : ∃ E, D1 = E + 12 := ⟨D1 - 12, by omega⟩
    obtain ⟨E2, rfl⟩ : ∃ E, D2 = E + 9 := ⟨D2 - 9, by omega⟩
    by_cases qd : 48 ≤ chN B n a ∧ chN B n a ≤ 57
    · exact unit_num hc hm (E1 + 4) (E2 + 1) op a Lc Lm ha hL (fun τ => ⟨F (chN B n a), by rw [hN.1]; exact hN.2.2.1 (E1 + 5) _ (ch_lt hc a) τ⟩) qd (by rw [hN.1]; exact hN.2.1)
    · rcases hN.2.2.2.2 (chN B n a) with hF | ⟨⟨j, hj, hF⟩, q0, q33, q40, -⟩
      · by_cases q33 : chN B n a = 33
        · exact unit_not hc hm hN (E1 + 4) (E2 + 1) op a Lc Lm ha hL (by omega) (fun a Lc Lm ha hL => ih (op + 1) (by omega) (E1 + 11) (E2 + 8) (by omega) (by omega) a Lc Lm ha hL) hF q33
        · by_cases q40 : chN B n a = 40
          · exact unit_par hc hm hN (E1 + 4) (E2 + 1) op a Lc Lm ha hL (by omega) (fun a Lc Lm ha hL => lev_0 hc hm E1 E2 (op + 1) (fun a Lc Lm ha hL => ih (op + 1) (by omega) (E1 + 5) (E2 + 3) (by omega) (by omega) a Lc Lm ha hL) a Lc Lm ha hL) hF q40
          · exact unit_bad hc hm hN (E1 + 4) (E2 + 1) op a Lc Lm ha hF qd (Or.inl ⟨q33, q40⟩)
      · exact unit_nam hc hm hN (E1 + 4) (E2 + 1) op a Lc Lm ha hL hj hF q0 q33 q40 qd
/-- the whole of a text -/
theorem text_all {σ0 τ0 : Hs} {n : Nat} {B : Nat → Nat} (hc : TPc σ0 n B) (hm : TPm τ0 n B) {s : Nat} {F : Nat → Int32} (hN : NMz σ0 τ0 s F) (d : Nat) : PRz σ0 τ0 n 0 0 [] [] (callD (d + 98) 38 [.ref 70, .int 0, .int (nI 0)] (rcS σ0 0 [] false)) (callD (d + 99) 147 [.ref 87] (rmS τ0 0 [] false 0)) :=
  lev_0 hc hm (d + 87) (d + 91) 0 (fun a Lc Lm ha hL => unit_all hc hm hN 5 0 rfl (d + 92) (d + 94) (by omega) (by omega) a Lc Lm ha hL) 0 [] [] (Nat.zero_le _) (Nat.le_refl _)
theorem NMz_0 {σ0 τ0 : Hs} (h : σ0 70 2 = 111) (hu : τ0 87 11 = 0) : NMz σ0 τ0 111 (fun c => ixF [100, 115, 119, 114] 0 c) := by
  refine ⟨by rw [h]; rfl, by omega, fun d c hc σ => ix_111 d c hc σ, fun d c hc σ e => m_name_0 d c hc σ (e.trans hu), fun c => ?_⟩
  by_cases q0 : c = 100
  · exact Or.inr ⟨⟨0, by omega, by subst q0; decide +kernel⟩, by omega, by omega, by omega, by omega⟩
  by_cases q1 : c = 115
  · exact Or.inr ⟨⟨1, by omega, by subst q1; decide +kernel⟩, by omega, by omega, by omega, by omega⟩
  by_cases q2 : c = 119
  · exact Or.inr ⟨⟨2, by omega, by subst q2; decide +kernel⟩, by omega, by omega, by omega, by omega⟩
  by_cases q3 : c = 114
  · exact Or.inr ⟨⟨3, by omega, by subst q3; decide +kernel⟩, by omega, by omega, by omega, by omega⟩
  refine Or.inl ?_
  simp only [ixF, if_neg q0, if_neg q1, if_neg q2, if_neg q3]
theorem NMz_1 {σ0 τ0 : Hs} (h : σ0 70 2 = 112) (hu : τ0 87 11 = 1) : NMz σ0 τ0 112 (fun c => ixF [104, 119, 108, 110] 0 c) := by
  refine ⟨by rw [h]; rfl, by omega, fun d c hc σ => ix_112 d c hc σ, fun d c hc σ e => m_name_1 d c hc σ (e.trans hu), fun c => ?_⟩
  by_cases q0 : c = 104
  · exact Or.inr ⟨⟨0, by omega, by subst q0; decide +kernel⟩, by omega, by omega, by omega, by omega⟩
  by_cases q1 : c = 119
  · exact Or.inr ⟨⟨1, by omega, by subst q1; decide +kernel⟩, by omega, by omega, by omega, by omega⟩
  by_cases q2 : c = 108
  · exact Or.inr ⟨⟨2, by omega, by subst q2; decide +kernel⟩, by omega, by omega, by omega, by omega⟩
  by_cases q3 : c = 110
  · exact Or.inr ⟨⟨3, by omega, by subst q3; decide +kernel⟩, by omega, by omega, by omega, by omega⟩
  refine Or.inl ?_
  simp only [ixF, if_neg q0, if_neg q1, if_neg q2, if_neg q3]
theorem NMz_2 {σ0 τ0 : Hs} (h : σ0 70 2 = 113) (hu : τ0 87 11 = 2) : NMz σ0 τ0 113 (fun c => ixF [104, 119, 115] 0 c) := by
  refine ⟨by rw [h]; rfl, by omega, fun d c hc σ => ix_113 d c hc σ, fun d c hc σ e => m_name_2 d c hc σ (e.trans hu), fun c => ?_⟩
  by_cases q0 : c = 104
  · exact Or.inr ⟨⟨0, by omega, by subst q0; decide +kernel⟩, by omega, by omega, by omega, by omega⟩
  by_cases q1 : c = 119
  · exact Or.inr ⟨⟨1, by omega, by subst q1; decide +kernel⟩, by omega, by omega, by omega, by omega⟩
  by_cases q2 : c = 115
  · exact Or.inr ⟨⟨2, by omega, by subst q2; decide +kernel⟩, by omega, by omega, by omega, by omega⟩
--
  refine Or.inl ?_
  simp only [ixF, if_neg q0, if_neg q1, if_neg q2]
