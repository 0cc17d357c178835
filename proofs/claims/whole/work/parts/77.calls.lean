/-! ===== the calls: out, catches ===== -/
def CF (σ σ' : Hs) : Prop := ∀ o, (o < 59 ∨ 69 < o) → o ≠ 15 → σ' o = σ o
theorem CF.tr {a b c : Hs} (h1 : CF a b) (h2 : CF b c) : CF a c := fun o o1 o2 => (h2 o o1 o2).trans (h1 o o1 o2)
theorem CF.rf (a : Hs) : CF a a := fun _ _ _ => rfl
def MF (σ σ' : Hs) : Prop := (∀ k, k ≠ 17 → σ' 87 k = σ 87 k) ∧ ∀ o, o ≠ 87 → o ≠ 88 → o ≠ 90 → o ≠ 97 → o ≠ 98 → σ' o = σ o
theorem MF.tr {a b c : Hs} (h1 : MF a b) (h2 : MF b c) : MF a c := ⟨fun k hk => (h2.1 k hk).trans (h1.1 k hk), fun o a1 a2 a3 a4 a5 => (h2.2 o a1 a2 a3 a4 a5).trans (h1.2 o a1 a2 a3 a4 a5)⟩
theorem MF.rf (a : Hs) : MF a a := ⟨fun _ _ => rfl, fun _ _ _ _ _ _ => rfl⟩
theorem FN.mf {a b : Hs} {T : Nat → Int32} (h : FN a b T) : MF a b := ⟨h.2.1, fun o a1 a2 a3 a4 a5 => h.2.2 o a1 a2 a4 a5⟩
theorem MF.g {a : Hs} (T : Nat → Int32) : MF a (rep a 88 T) := ⟨fun k hk => by rw [rep_ne (by omega)], fun o a1 a2 a3 a4 a5 => rep_ne a2⟩
theorem MF.g90 {a : Hs} (T : Nat → Int32) : MF a (rep a 90 T) := ⟨fun k hk => by rw [rep_ne (by omega)], fun o a1 a2 a3 a4 a5 => rep_ne a3⟩
theorem RR.am {i : Nat} {σ σ1 σ2 : Hs} (h : RR i σ) (hW : WB σ2) (e88 : σ2 88 = σ 88) (c : CF σ σ1) (m : MF σ1 σ2) : RR (i + 1) σ2 := by
  refine h.ahead hW e88 (fun o o1 o2 o3 o4 o5 o6 o7 o8 => (m.2 o o4 o5 o6 o7 o8).trans (c o o1 o2)) (fun k hk => (m.1 k hk).trans ?_)
  rw [c 87 (by omega) (by omega)]
/-- an error behind a look ahead -/
theorem RR.ame {i k : Nat} {σ σ1 σ2 : Hs} (h : RR i σ) (hW : WB (erM σ2 k)) (e88 : σ2 88 = σ 88) (c : CF σ σ1) (m : MF (erC σ1 k) σ2) : RR (i + 1) (erM σ2 k) := by
  have hE : ERr (erM σ2 k) := by
    intro j h1 h7
    have q85 : σ2 85 = erC σ1 k 85 := m.2 85 (by omega) (by omega) (by omega) (by omega) (by omega)
    have q91 : σ2 91 = erC σ1 k 91 := m.2 91 (by omega) (by omega) (by omega) (by omega) (by omega)
    unfold erM
    rw [rep_ne (by omega), rep_self, q85, upd_at, q91]
    unfold erC
    rw [rep_self, upd_at, rep_ne (by omega), c 85 (by omega) (by omega), c 91 (by omega) (by omega), h.er j h1 h7]
    by_cases cj : j = k
    · rw [if_pos cj, if_pos cj, ← cj, h.er j h1 h7]
    · rw [if_neg cj, if_neg cj]
  have ff : ∀ o, (o < 59 ∨ 69 < o) → o ≠ 15 → o ≠ 85 → o ≠ 87 → o ≠ 88 → o ≠ 90 → o ≠ 91 → o ≠ 97 → o ≠ 98 → erM σ2 k o = σ o := by
    intro o o1 o2 o3 o4 o5 o6 o7 o8 o9
    unfold erM
    rw [rep_ne o7, m.2 o o4 o5 o6 o8 o9]
    unfold erC
    rw [rep_ne o3]
    exact c o o1 o2
  have g88 : erM σ2 k 88 = σ 88 := (show erM σ2 k 88 = σ2 88 from rep_ne (by omega)).trans e88
  have g87 : ∀ j, j ≠ 17 → erM σ2 k 87 j = σ 87 j := by
    intro j hj
    rw [show erM σ2 k 87 = σ2 87 from rep_ne (by omega), m.1 j hj, show erC σ1 k 87 = σ1 87 from rep_ne (by omega), c 87 (by omega) (by omega)]
  refine h.nx ?_ ?_ ?_ hE hW (fun o ho => ?_) (g87 3 (by omega)) (g87 19 (by omega))
  · rw [g88]
    exact h.sr.ql (h.hr.fr (fun o o1 o2 => ff o (by omega) (by omega) (by omega) (by omega) (by omega) (by omega) (by omega) (by omega) (by omega))) (QlT.rf _) (fun o ho => ff o (by omega) (by omega) (by omega) (by omega) (by omega) (by omega) (by omega) (by omega) (by omega))
  · rw [g88]; exact h.ti
  · rw [g88]; exact h.ph.mono (by omega)
  · unfold kpO at ho
    exact ff o (by omega) (by omega) (by omega) (by omega) (by omega) (by omega) (by omega) (by omega) (by omega)
/-! pouring on what is lit -/
def polT (T : Nat → Int32) (w : Nat) : Nat → Nat → Int32
  | 0 => T
  | k + 1 => if isT (polT T w k) k ∧ litT (polT T w k) k then poT (polT T w k) k (nI w) else polT T w k
theorem polT_inv {T : Nat → Int32} (hW : WI T) {w : Nat} (hw : w < 1000) : ∀ k, k ≤ 30 → WI (polT T w k) ∧ PlT T (polT T w k) := by
  intro k
  induction k with
  | zero => intro _; exact ⟨hW, fun _ _ => rfl⟩
  | succ k ih =>
    intro hk
    obtain ⟨a, b⟩ := ih (by omega)
    rw [polT]
    split
    · rename_i c
      exact ⟨a.po (by omega) c.1 hw, b.tr (PlT_po (by omega))⟩
    · exact ⟨a, b⟩
theorem h59_pourOnLit_l (d w : Nat) (hw : w < 1000) (T : Nat → Int32) (hW : WI T) : ∀ n p σ, p + n = 30 → HR 59 σ (polT T w p) → ∃ σ', ru (d + 1) 11 2 [.ref 59, .int (nI w), .int (nI p)] [] σ = some (none, σ') ∧ HR 59 σ' (polT T w 30) ∧ ∀ o, o ≠ 62 → o ≠ 64 → σ' o = σ o := by
  intro n
  induction n with
  | zero =>
    intro p σ hp h
    obtain rfl : p = 30 := by omega
    refine ⟨σ, ?_, h, fun _ _ _ => rfl⟩
    simp only [s11_2]
    simp only [s11_3, s11_5, s11_38, show (30 : Int32) ≤ nI 30 from Int32.le_refl _, simprocAttr, if_true, if_false, true_and, and_true, false_and, and_false, not_false_eq_true, not_true_eq_false, gd_T, kont_i, kont_v]
  | succ n ih =>
    intro p σ hp h
    have p31 : p < 2147483648 := by omega
    have p30 : p < 30 := by omega
    obtain ⟨wi, pl⟩ := polT_inv hW hw p (by omega)
    have ez : (σ 61 p ≤ 0) = ¬ isT (polT T w p) p := h.le wi.P p30
    have step : ∃ σ1, ru (d + 1) 11 2 [.ref 59, .int (nI w), .int (nI p)] [] σ = ru (d + 1) 11 2 [.ref 59, .int (nI w), .int (nI (p + 1))] [] σ1 ∧ HR 59 σ1 (polT T w (p + 1)) ∧ ∀ o, o ≠ 62 → o ≠ 64 → σ1 o = σ o := by
      rw [polT]
      by_cases hi : isT (polT T w p) p
      · have g6 : σ 65 p = ofT (polT T w p) p 6 := h.f p30 hi 6 (by omega) (by omega)
        by_cases hl : litT (polT T w p) p
        · rw [if_pos ⟨hi, hl⟩]
          obtain ⟨σ1, e1, r1, f1⟩ := h59_pourOn d p p30 (nI w) σ _ h hi
          refine ⟨σ1, ?_, r1, f1⟩
          have hl' : ofT (polT T w p) p 6 = 1 := hl
          generalize hR : ru (d + 1) 11 2 [.ref 59, .int (nI w), .int (nI (p + 1))] [] σ1 = R
          simp only [s11_2]
          simp only [s11_3, s11_5, s11_8, s11_9_o59, s11_12, s11_13_o61, s11_14, s11_17, s11_18_o59, s11_21, s11_22_o65, s11_23, s11_26, s11_27, s11_28, s11_29_o59, s11_32, s11_35, le_nI_r p31, vp_nI p30, cl_nI p31, ez, g6, hl', e1, nI_1, simprocAttr, if_true, if_false, true_and, and_true, false_and, and_false, not_false_eq_true, not_true_eq_false, gd_T, kont_i, kont_v]
          rw [if_neg (by omega), if_neg (fun x => x hi)]
          exact hR
        · rw [if_neg (fun x => hl x.2)]
          refine ⟨σ, ?_, h, fun _ _ _ => rfl⟩
          have hl' : ofT (polT T w p) p 6 = 0 := (wi.B p p30 hi).resolve_right hl
          generalize hR : ru (d + 1) 11 2 [.ref 59, .int (nI w), .int (nI (p + 1))] [] σ = R
          simp only [s11_2]
          simp only [s11_3, s11_5, s11_8, s11_9_o59, s11_12, s11_13_o61, s11_14, s11_17, s11_18_o59, s11_21, s11_22_o65, s11_23, s11_26, s11_27, s11_28, s11_29_o59, s11_32, s11_35, le_nI_r p31, vp_nI p30, cl_nI p31, ez, g6, hl', nI_1, simprocAttr, if_true, if_false, true_and, and_true, false_and, and_false, not_false_eq_true, not_true_eq_false, gd_T, kont_i, kont_v]
          rw [if_neg (by omega), if_neg (fun x => x hi)]
          exact hR
      · rw [if_neg (fun x => hi x.1)]
        refine ⟨σ, ?_, h, fun _ _ _ => rfl⟩
        generalize hR : ru (d + 1) 11 2 [.ref 59, .int (nI w), .int (nI (p + 1))] [] σ = R
        simp only [s11_2]
        simp only [s11_3, s11_5, s11_8, s11_9_o59, s11_12, s11_13_o61, s11_14, s11_17, s11_18_o59, s11_21, s11_22_o65, s11_23, s11_26, s11_27, s11_28, s11_29_o59, s11_32, s11_35, le_nI_r p31, vp_nI p30, cl_nI p31, ez, nI_1, simprocAttr, if_true, if_false, true_and, and_true, false_and, and_false, not_false_eq_true, not_true_eq_false, gd_T, kont_i, kont_v]
        rw [if_neg (by omega), if_pos hi]
        exact hR
    obtain ⟨σ1, e1, r1, f1⟩ := step
    obtain ⟨σ2, e2, r2, f2⟩ := ih (p + 1) σ1 (by omega) r1
    exact ⟨σ2, e1.trans e2, r2, fun o o1 o2 => (f2 o o1 o2).trans (f1 o o1 o2)⟩
theorem h59_pourOnLit (d w : Nat) (hw : w < 1000) (σ : Hs) (T : Nat → Int32) (hW : WI T) (h : HR 59 σ T) : ∃ σ', callD (d + 2) 11 [.ref 59, .int (nI w)] σ = some (none, σ') ∧ HR 59 σ' (polT T w 30) ∧ ∀ o, o ≠ 62 → o ≠ 64 → σ' o = σ o := by
  obtain ⟨σ', e, r, f⟩ := h59_pourOnLit_l d w hw T hW 30 0 σ rfl h
  refine ⟨σ', ?_, r, f⟩
  simp only [s11_0, s11_1, c11]
  exact e
theorem m_outP_l (d w n : Nat) (hw : w < 1000) (T : Nat → Int32) (hW : WI T) : ∀ m p σ, p + m = 30 → σ 88 = polT T w p → ru (d + 3) 187 36 [.ref 87, .int (nI n), .int (nI w), .int (nI p)] [] σ = ru (d + 3) 187 70 [.ref 87, .int (nI n), .int (nI w), .int (nI 30)] [] (rep σ 88 (polT T w 30)) := by
  intro m
  induction m with
  | zero =>
    intro p σ hp h
    obtain rfl : p = 30 := by omega
    rw [← h, rep_same]
    simp only [s187_36]
    simp only [s187_37, s187_39, show (30 : Int32) ≤ nI 30 from Int32.le_refl _, simprocAttr, if_true, if_false, true_and, and_true, false_and, and_false, not_false_eq_true, not_true_eq_false, gd_T, kont_i, kont_v]
  | succ m ih =>
    intro p σ hp h
    have p31 : p < 2147483648 := by omega
    have p30 : p < 30 := by omega
    have hm := m_pours (d + 1) p p30 (nI w) σ
    rw [h] at hm
    have step : ru (d + 3) 187 36 [.ref 87, .int (nI n), .int (nI w), .int (nI p)] [] σ = ru (d + 3) 187 36 [.ref 87, .int (nI n), .int (nI w), .int (nI (p + 1))] [] (rep σ 88 (polT T w (p + 1))) := by
      rw [polT]
      by_cases hi : isT (polT T w p) p
      · by_cases hl : litT (polT T w p) p
        · rw [if_pos ⟨hi, hl⟩]
          generalize hR : ru (d + 3) 187 36 [.ref 87, .int (nI n), .int (nI w), .int (nI (p + 1))] [] _ = R
          simp only [s187_36]
          simp only [s187_37, s187_39, s187_42, s187_43, s187_44_o87, s187_47, s187_50, s187_51, s187_52_o87, s187_55, s187_58, s187_59, s187_60, s187_61_o87, s187_64, s187_67, le_nI_r p31, m_is _ _ p30, m_isLit _ _ p30, h, b2_T hi, b2_T hl, hm, nI_1, simprocAttr, if_true, if_false, true_and, and_true, false_and, and_false, not_false_eq_true, not_true_eq_false, gd_T, kont_i, kont_v]
          rw [if_neg (by omega)]
          exact hR
        · rw [if_neg (fun x => hl x.2), ← h, rep_same]
          rw [← h] at hi hl
          generalize hR : ru (d + 3) 187 36 [.ref 87, .int (nI n), .int (nI w), .int (nI (p + 1))] [] _ = R
          simp only [s187_36]
          simp only [s187_37, s187_39, s187_42, s187_43, s187_44_o87, s187_47, s187_50, s187_51, s187_52_o87, s187_55, s187_58, s187_59, s187_60, s187_61_o87, s187_64, s187_67, le_nI_r p31, m_is _ _ p30, m_isLit _ _ p30, b2_T hi, b2_F hl, nI_1, simprocAttr, if_true, if_false, true_and, and_true, false_and, and_false, not_false_eq_true, not_true_eq_false, gd_T, kont_i, kont_v]
          rw [if_neg (by omega)]
          exact hR
      · rw [if_neg (fun x => hi x.1), ← h, rep_same]
        rw [← h] at hi
        generalize hR : ru (d + 3) 187 36 [.ref 87, .int (nI n), .int (nI w), .int (nI (p + 1))] [] _ = R
        simp only [s187_36]
        simp only [s187_37, s187_39, s187_42, s187_43, s187_44_o87, s187_47, s187_50, s187_51, s187_52_o87, s187_55, s187_58, s187_59, s187_60, s187_61_o87, s187_64, s187_67, le_nI_r p31, m_is _ _ p30, b2_F hi, nI_1, simprocAttr, if_true, if_false, true_and, and_true, false_and, and_false, not_false_eq_true, not_true_eq_false, gd_T, kont_i, kont_v]
        rw [if_neg (by omega)]
        exact hR
    rw [step, ih (p + 1) _ (by omega) (rep_self _ _ _), rep_rep]
noncomputable def outL (n : Nat) (T : Nat → Int32) (j : Nat) : Int32 := sumU (itT n (polT T (50 * j) 30)) 6 30
noncomputable def outA (n : Nat) (T : Nat → Int32) : Nat → Nat → Option Nat
  | 0, _ => none
  | m + 1, j => if outL n T j = 0 then some (50 * j) else outA n T m (j + 1)
theorem k_out_l (d n : Nat) (hn : n < 2147483648) (T : Nat → Int32) (hM : MI T) : ∀ m j σ, j + m = 20 → HR 2 σ T → LR σ T → WB σ → ∃ σ', ru (d + 8) 81 15 [.ref 0, .int (nI n), .int (nI (50 * j))] [] σ = (match outA n T m j with | some w => some (some (.int (nI w)), σ') | none => some (some (.int (-1000002)), erC σ' 2)) ∧ CF σ σ' := by
  intro m
  induction m with
  | zero =>
    intro j σ hj h hL hB
    obtain rfl : j = 20 := by omega
    refine ⟨σ, ?_, CF.rf σ⟩
    have e : ((950 : Int32) < nI (50 * 20)) = True := eq_true (by decide +kernel)
    show _ = some (some (Value.int (-1000002)), erC σ 2)
    simp only [s81_15]
    simp only [s81_16, s81_19, s81_77, s81_78, s81_79_o0, s81_82, e, k_failed_2, simprocAttr, if_true, if_false, true_and, and_true, false_and, and_false, not_false_eq_true, not_true_eq_false, gd_T, kont_i, kont_v]
  | succ m ih =>
    intro j σ hj h hL hB
    have e : ((950 : Int32) < nI (50 * j)) = False := by
      rw [show (950 : Int32) = nI 950 from rfl, lt_nn (by omega) (by omega)]
      exact eq_false (by omega)
    obtain ⟨σ1, e1, p1, f1⟩ := k_ahead (d + 7) σ T h hL hM hB
    obtain ⟨σ2, e2, r2, f2⟩ := h59_pourOnLit (d + 6) (50 * j) (by omega) σ1 T hM.1 p1.1
    obtain ⟨wi, pl⟩ := polT_inv hM.1 (w := 50 * j) (by omega) 30 (Nat.le_refl _)
    obtain ⟨σ3, e3, p3, f3⟩ := h59_pass (d + 2) n hn σ2 (polT T (50 * j) 30) ⟨r2, p1.2.1.fr (fun o o1 o2 => f2 o (by omega) (by omega)) (fun q hq => pl q (by omega)), hM.pl wi pl⟩
    have e4 := h59_howManyLit (d + 6) σ3 _ p3.1 p3.2.2.1.P p3.2.2.1.B
    have c13 : CF σ σ3 := fun o o1 o2 => (f3 o o1 o2).trans ((f2 o (by omega) (by omega)).trans (f1 o o1))
    rw [outA]
    by_cases c : outL n T j = 0
    · rw [if_pos c]
      refine ⟨σ3, ?_, c13⟩
      unfold outL at c
      simp only [s81_15]
      simp only [s81_16, s81_19, s81_22, s81_23_o0, s81_26, s81_27_o0, s81_30_o1, s81_33_o59, s81_36, s81_37_o0, s81_40, s81_41_o59, s81_44, s81_45_o0, s81_48, s81_49, s81_50_o0, s81_53_o1, s81_56_o59, s81_59, s81_60_o0, s81_63_o59, s81_66, s81_69, s81_70, e, e1, e2, e3, e4, c, simprocAttr, if_true, if_false, true_and, and_true, false_and, and_false, not_false_eq_true, not_true_eq_false, gd_T, kont_i, kont_v]
    · rw [if_neg c]
      have W1 := callD_WB _ _ _ _ _ _ hB e1
      have W2 := callD_WB _ _ _ _ _ _ W1 e2
      have W3 := callD_WB _ _ _ _ _ _ W2 e3
      obtain ⟨σ4, e5, c4⟩ := ih (j + 1) σ3 (by omega) (h.fr (fun o o1 o2 => c13 o (by omega) (by omega))) (hL.fr (fun o o1 o2 => c13 o (by omega) (by omega)) (fun _ _ => rfl)) W3
      refine ⟨σ4, ?_, c13.tr c4⟩
      rw [← e5]
      unfold outL at c
      have e50 : nI (50 * j) + 50 = nI (50 * (j + 1)) := by rw [show (50 : Int32) = nI 50 from rfl, nI_add]; congr 1
      generalize hR : ru (d + 8) 81 15 [.ref 0, .int (nI n), .int (nI (50 * (j + 1)))] [] σ3 = R
      simp only [s81_15]
      simp only [s81_16, s81_19, s81_22, s81_23_o0, s81_26, s81_27_o0, s81_30_o1, s81_33_o59, s81_36, s81_37_o0, s81_40, s81_41_o59, s81_44, s81_45_o0, s81_48, s81_49, s81_50_o0, s81_53_o1, s81_56_o59, s81_59, s81_60_o0, s81_63_o59, s81_66, s81_69, s81_70, s81_71, s81_74, e, e1, e2, e3, e4, c, e50, simprocAttr, if_true, if_false, true_and, and_true, false_and, and_false, not_false_eq_true, not_true_eq_false, gd_T, kont_i, kont_v]
      exact hR
theorem m_out_l (d n : Nat) (hn : n < 2147483648) (T : Nat → Int32) (hM : MI T) : ∀ m j (l3 : Value) σ, j + m = 20 → σ 88 = T → σ 90 = T → Hot σ → WB σ → ∃ σ', ru (d + 12) 187 27 [.ref 87, .int (nI n), .int (nI (50 * j)), l3] [] σ = (match outA n T m j with | some w => some (some (.int (nI w)), σ') | none => some (some (.int (-1000002)), erM σ' 2)) ∧ MF σ σ' ∧ σ' 88 = T := by
  intro m
  induction m with
  | zero =>
    intro j l3 σ hj h h90 hH hB
    obtain rfl : j = 20 := by omega
    refine ⟨σ, ?_, MF.rf σ, h⟩
    have e : ((950 : Int32) < nI (50 * 20)) = True := eq_true (by decide +kernel)
    show _ = some (some (Value.int (-1000002)), erM σ 2)
    simp only [s187_27]
    simp only [s187_28, s187_31, s187_98, s187_99, s187_101_o87, s187_104, e, m_fin_2, simprocAttr, if_true, if_false, true_and, and_true, false_and, and_false, not_false_eq_true, not_true_eq_false, gd_T, kont_i, kont_v]
  | succ m ih =>
    intro j l3 σ hj h h90 hH hB
    have e : ((950 : Int32) < nI (50 * j)) = False := by
      rw [show (950 : Int32) = nI 950 from rfl, lt_nn (by omega) (by omega)]
      exact eq_false (by omega)
    obtain ⟨wi, pl⟩ := polT_inv hM.1 (w := 50 * j) (by omega) 30 (Nat.le_refl _)
    have e1 := m_outP_l (d + 9) (50 * j) n (by omega) T hM.1 30 0 σ rfl h
    have Ws : ∃ F, WB F ∧ F = rep σ 88 (polT T (50 * j) 30) := ⟨_, ⟨fun o ho q => by
      by_cases c : o = 88
      · subst c; exact absurd ho (by decide +kernel)
      · rw [rep_ne c]; exact hB.1 o ho q, fun o q ho hq => by
      by_cases c : o = 88
      · subst c
        have e545 : (shp 88).2 = 545 := by decide +kernel
        rw [e545] at hq
        rw [rep_self, pl q (by omega), ← h]
        exact hB.at88 (Or.inl rfl) q hq
      · rw [rep_ne c]; exact hB.2 o q ho hq⟩, rfl⟩
    obtain ⟨F, WF, eF⟩ := Ws
    obtain ⟨σ2, e2, f2⟩ := m_minutesGo (d + 2) n hn (rep σ 88 (polT T (50 * j) 30)) (by rw [rep_self]; exact (hM.pl wi pl).2.1) (hH.of (rep_ne (by omega)) (rep_ne (by omega)))
    rw [rep_self] at f2
    have W2 := callD_WB _ _ _ _ _ _ (eF ▸ WF) e2
    have e3 := m_sum_6 (d + 9) σ2
    rw [f2.1] at e3
    have q90 : σ2 90 = T := by rw [f2.2.2 90 (by omega) (by omega) (by omega) (by omega), rep_ne (by omega)]; exact h90
    have e4 := m_back_T (d + 10) (sumU (itT n (polT T (50 * j) 30)) 6 30) σ2 T q90 W2
    have mf : MF σ (rep σ2 88 T) := ((MF.g _).tr f2.mf).tr (MF.g _)
    have W4 := callD_WB _ _ _ _ _ _ W2 e4
    rw [outA]
    by_cases c : outL n T j = 0
    · rw [if_pos c]
      refine ⟨rep σ2 88 T, ?_, mf, rep_self _ _ _⟩
      unfold outL at c
      rw [c] at e4
      simp only [s187_27]
      simp only [s187_28, s187_31, s187_34, s187_35, e, simprocAttr, if_true, if_false, true_and, and_true, false_and, and_false, not_false_eq_true, not_true_eq_false, gd_T, kont_i, kont_v]
      rw [show (0 : Int32) = nI 0 from rfl, e1]
      simp only [s187_70, s187_71, s187_72_o87, s187_75, s187_76, s187_77, s187_79_o87, s187_82_o87, s187_85, s187_86, s187_87, s187_90, s187_91, e2, e3, e4, c, simprocAttr, if_true, if_false, true_and, and_true, false_and, and_false, not_false_eq_true, not_true_eq_false, gd_T, kont_i, kont_v]
    · rw [if_neg c]
      obtain ⟨σ4, e5, c4, g4⟩ := ih (j + 1) (.int (outL n T j)) (rep σ2 88 T) (by omega) (rep_self _ _ _) ((rep_ne (by omega)).trans q90) (hH.of (mf.2 92 (by omega) (by omega) (by omega) (by omega) (by omega)) (mf.2 93 (by omega) (by omega) (by omega) (by omega) (by omega))) W4
      refine ⟨σ4, ?_, mf.tr c4, g4⟩
      rw [← e5]
      have e50 : nI (50 * j) + 50 = nI (50 * (j + 1)) := by rw [show (50 : Int32) = nI 50 from rfl, nI_add]; congr 1
      generalize hR : ru (d + 12) 187 27 [.ref 87, .int (nI n), .int (nI (50 * (j + 1))), .int (outL n T j)] [] _ = R
      unfold outL at c hR
      simp only [s187_27]
      simp only [s187_28, s187_31, s187_34, s187_35, e, simprocAttr, if_true, if_false, true_and, and_true, false_and, and_false, not_false_eq_true, not_true_eq_false, gd_T, kont_i, kont_v]
      rw [show (0 : Int32) = nI 0 from rfl, e1]
      simp only [s187_70, s187_71, s187_72_o87, s187_75, s187_76, s187_77, s187_79_o87, s187_82_o87, s187_85, s187_86, s187_87, s187_90, s187_91, s187_92, s187_95, e2, e3, e4, c, e50, simprocAttr, if_true, if_false, true_and, and_true, false_and, and_false, not_false_eq_true, not_true_eq_false, gd_T, kont_i, kont_v]
      exact hR
theorem L_out {i : Nat} {σ : Hs} (h : RR i σ) (d : Nat) (v : Int32) : Step d i 81 187 [.int v] σ := by
  by_cases hv : 0 ≤ v ∧ v ≤ 60
  · have hvt := eq_true hv
    obtain ⟨n, ln, rfl⟩ := ahd_n hv
    obtain ⟨σ1, e1, cf⟩ := k_out_l (d + 91) n (by omega) (σ 88) h.mi 20 0 σ rfl h.hr h.lr h.wb
    have c1 : callD (d + 100) 81 [.ref 0, .int (nI n)] σ = (match outA n (σ 88) 20 0 with | some w => some (some (.int (nI w)), σ1) | none => some (some (.int (-1000002)), erC σ1 2)) := by
      rw [← e1]
      simp only [c81, s81_0, s81_1, s81_4, s81_7, s81_8, s81_9_o0, s81_12, s81_13, s81_14, k_isAhead, hvt, b2_t, simprocAttr, if_true, if_false, true_and, and_true, false_and, and_false, not_false_eq_true, not_true_eq_false, gd_T, kont_i, kont_v]
      rfl
    have mgo : ∀ τ : Hs, τ 88 = σ 88 → WB τ → (∀ o, (o = 92 ∨ o = 93) → τ o = σ o) → ∃ σ', callD (d + 100) 187 [.ref 87, .int (nI n)] τ = (match outA n (σ 88) 20 0 with | some w => some (some (.int (nI w)), σ') | none => some (some (.int (-1000002)), erM σ' 2)) ∧ MF τ σ' ∧ σ' 88 = σ 88 := by
      intro τ t88 tW t9
      have ea := m_aside (d + 98) τ tW
      have W3 := callD_WB _ _ _ _ _ _ tW ea
      obtain ⟨σ', e2, m2, g2⟩ := m_out_l (d + 87) n (by omega) (σ 88) h.mi 20 0 uu (rep τ 90 (τ 88)) rfl ((rep_ne (by omega)).trans t88) ((rep_self _ _ _).trans t88) (h.hot.of ((rep_ne (by omega)).trans (t9 92 (by omega))) ((rep_ne (by omega)).trans (t9 93 (by omega)))) W3
      refine ⟨σ', ?_, (MF.g90 _).tr m2, g2⟩
      rw [← e2]
      simp only [c187, s187_0, s187_1, s187_4, s187_7, s187_8, s187_10_o87, s187_13, s187_14, s187_15_o87, s187_18, s187_19_o87, s187_22, s187_25, s187_26, m_isAhead, hvt, b2_t, ea, simprocAttr, if_true, if_false, true_and, and_true, false_and, and_false, not_false_eq_true, not_true_eq_false, gd_T, kont_i, kont_v]
      rfl
    cases ho : outA n (σ 88) 20 0 with
    | some w =>
      rw [ho] at c1
      have c1 : callD (d + 100) 81 [.ref 0, .int (nI n)] σ = some (some (.int (nI w)), σ1) := c1
      obtain ⟨σ2, e2, m2, g2⟩ := mgo σ1 (cf 88 (by omega) (by omega)) (callD_WB _ _ _ _ _ _ h.wb c1) (fun o ho => cf o (by omega) (by omega))
      rw [ho] at e2
      have c2 : callD (d + 100) 187 [.ref 87, .int (nI n)] σ1 = some (some (.int (nI w)), σ2) := e2
      exact ⟨_, _, _, c1, c2, h.am (h.wb.two c1 c2) g2 cf m2⟩
    | none =>
      rw [ho] at c1
      have c1 : callD (d + 100) 81 [.ref 0, .int (nI n)] σ = some (some (.int (-1000002)), erC σ1 2) := c1
      obtain ⟨σ2, e2, m2, g2⟩ := mgo (erC σ1 2) ((show erC σ1 2 88 = σ1 88 from rep_ne (by omega)).trans (cf 88 (by omega) (by omega))) (callD_WB _ _ _ _ _ _ h.wb c1) (fun o ho => (show erC σ1 2 o = σ1 o from rep_ne (by omega)).trans (cf o (by omega) (by omega)))
      rw [ho] at e2
      have c2 : callD (d + 100) 187 [.ref 87, .int (nI n)] (erC σ1 2) = some (some (.int (-1000002)), erM σ2 2) := e2
      exact ⟨_, _, _, c1, c2, h.ame (h.wb.two c1 c2) g2 cf m2⟩
  · have hvf := eq_false hv
    refine Step_err h 1 (v := -1000001) ?_ ?_
    · simp only [c81, s81_0, s81_1, s81_4, s81_7, s81_8, s81_9_o0, s81_12, s81_13, s81_14, k_isAhead, hvf, b2_f, k_failed_1, simprocAttr, if_true, if_false, true_and, and_true, false_and, and_false, not_false_eq_true, not_true_eq_false, gd_T, kont_i, kont_v]
    · simp only [c187, s187_0, s187_1, s187_4, s187_7, s187_8, s187_10_o87, s187_13, s187_14, s187_15_o87, s187_18, s187_19_o87, s187_22, s187_25, s187_26, m_isAhead, hvf, b2_f, m_fin_1, simprocAttr, if_true, if_false, true_and, and_true, false_and, and_false, not_false_eq_true, not_true_eq_false, gd_T, kont_i, kont_v]
