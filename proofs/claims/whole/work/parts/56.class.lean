/-! ===== the class: what goes, goes ===== -/
theorem goF_o {T : Nat → Int32} {p k : Nat} (hk : k < 7) (h6 : p + 6 < 30) : goF T p (k + 1) = teT (goF T p k) p k (ofT T (p + 6) k) := by
  rw [← goF_s T p k hk, if_pos h6]
  congr 1
  simp only [ofT, goF]
  rw [if_neg (by omega)]
/-- what lies above a place has stuff -/
def HPa (p : Nat) (T : Nat → Int32) : Prop := ∀ q, p < q → q < 30 → isT T q → 0 < ofT T q 2
def HBa (p : Nat) (T : Nat → Int32) : Prop := ∀ q, p < q → q < 30 → isT T q → isB (ofT T q 6)
theorem goF_7 {T : Nat → Int32} {p q f : Nat} (hf : f < 7) (h6 : p + 6 < 30) : ofT (goF T p 7) q f = if q = p then ofT T (p + 6) f else ofT T q f := by
  rw [goF_of hf, if_pos h6]
theorem above_no {T : Nat → Int32} (hS : HS T) {p : Nat} : ∀ n q, q % 6 = p % 6 → p + 6 ≤ q → q < 30 → q ≤ p + 6 * n → (p + 6 < 30 → ¬ isT T (p + 6)) → ¬ isT T q := by
  intro n
  induction n with
  | zero => intro q h1 h2 h3 h4; omega
  | succ n ih =>
    intro q h1 h2 h3 h4 h5
    by_cases c : q = p + 6
    · subst c; exact h5 h3
    · intro hi
      have : isT T (q - 6) := hS (q - 6) (by omega) (by rw [show q - 6 + 6 = q by omega]; exact hi)
      exact ih (q - 6) (by omega) (by omega) (by omega) (by omega) h5 this
/-- the last of a column goes -/
theorem HR_last {b n : Nat} {σ : Hs} {T : Nat → Int32} (h : HR b σ T) (hS : HS T) {p : Nat} (hp : p < 30) (hn : 30 ≤ p + 6 * n) (hno : p + 6 < 30 → ¬ isT T (p + 6)) : HR b (rep σ (b + 2) (upd (σ (b + 2)) p 0)) (goL T n p) := by
  have e : ∀ q f, q < 30 → f < 7 → ofT (goL T n p) q f = if q % 6 = p % 6 ∧ p ≤ q then (if q + 6 < 30 then ofT T (q + 6) f else 0) else ofT T q f := fun q f hq hf => goL_of hf n p T q hq (by omega) hn
  have eo : ∀ a, (a < 14 ∨ 224 ≤ a) → goL T n p a = T a := fun a ha => goL_ne n p T a ha
  have no : ∀ q, q < 30 → q % 6 = p % 6 ∧ p ≤ q → ¬ isT (goL T n p) q := by
    intro q hq c
    unfold isT
    rw [e q 0 hq (by omega), if_pos c]
    by_cases c6 : q + 6 < 30
    · rw [if_pos c6]
      exact above_no hS 5 (q + 6) (by omega) (by omega) c6 (by omega) hno
    · rw [if_neg c6]; decide
  obtain ⟨a1, a2, a3, a4, a5, a6, a7, a8⟩ := h
  refine ⟨?_, ?_, ?_, ?_, ?_, ?_, ?_, ?_⟩
  · intro q hq hi f f1 f6
    by_cases c : q % 6 = p % 6 ∧ p ≤ q
    · exact absurd hi (no q hq c)
    · unfold isT at hi
      rw [e q 0 hq (by omega), if_neg c] at hi
      rw [e q f hq (by omega), if_neg c, rep_at]
      by_cases c2 : b + f = b + 2
      · rw [if_pos c2, upd_at, if_neg (show q ≠ p by intro x; apply c; omega), ← c2]
        exact a1 q hq hi f f1 f6
      · rw [if_neg c2]
        exact a1 q hq hi f f1 f6
  · intro q hq hi
    rw [rep_self, upd_at]
    by_cases c0 : q = p
    · rw [if_pos c0]
    · rw [if_neg c0]
      by_cases c : q % 6 = p % 6 ∧ p ≤ q
      · exact a2 q hq (above_no hS 5 q c.1 (by omega) hq (by omega) hno)
      · refine a2 q hq (fun x => hi ?_)
        unfold isT
        rw [e q 0 hq (by omega), if_neg c]
        exact x
  · intro k hk
    rw [rep_ne (by omega), eo _ (by omega)]; exact a3 k hk
  · intro g hg
    rw [rep_ne (by omega), rep_ne (by omega), rep_ne (by omega), eo _ (by omega), eo _ (by omega), eo _ (by omega)]; exact a4 g hg
  · rw [rep_ne (by omega), eo _ (by omega)]; exact a5
  · rw [rep_ne (by omega), eo _ (by omega)]; exact a6
  · rw [rep_ne (by omega), eo _ (by omega)]; exact a7
  · rw [rep_ne (by omega), eo _ (by omega)]; exact a8
theorem h2_remove_1 (d p xx : Nat) (hp : p + 6 < 30) (σ : Hs) (T : Nat → Int32) (h : HR 2 σ T) (hi : isT T p) (hj : isT T (p + 6)) (hP : HPa p T) (hB : HBa p T) : ∃ σ', ru (d + 1) 3 7 [.ref 2, .int (nI xx), .int (nI p), .int (nI (p + 6))] [] σ = ru (d + 1) 3 7 [.ref 2, .int (nI xx), .int (nI (p + 6)), .int (nI (p + 6 + 6))] [] σ' ∧ HR 2 σ' (goF T p 7) ∧ ∀ o, (o < 3 ∨ 8 < o) → σ' o = σ o := by
  have p31 : p < 2147483648 := by omega
  have p30 : p < 30 := by omega
  have q31 : p + 6 < 2147483648 := by omega
  have g0 : goF T p 1 = T := by
    rw [goF_o (by omega) hp, goF_0]
    exact teT_same (hi.trans hj.symm)
  have is1 : ∀ k, 1 ≤ k → k ≤ 6 → isT (goF T p k) p := by
    intro k h1 h2
    show ofT (goF T p k) p 0 = 1
    simp only [ofT, goF]
    rw [if_pos (by omega), if_pos hp]
    exact hj
  have r : ∀ k σ1, 1 ≤ k → k ≤ 6 → HR 2 σ1 (goF T p k) → HR 2 (rep σ1 (2 + k) (upd (σ1 (2 + k)) p (ofT T (p + 6) k))) (goF T p (k + 1)) := by
    intro k σ1 h1 h2 hh
    rw [goF_o (by omega) hp]
    exact hh.te p30 (is1 k h1 h2) k h1 h2 _
  have g : ∀ f, 1 ≤ f → f ≤ 6 → σ (2 + f) (p + 6) = ofT T (p + 6) f := fun f h1 h2 => h.f hp hj f h1 h2
  have ez : (ofT T (p + 6) 2 ≤ 0) = False := eq_false (fun c => absurd (hP (p + 6) (by omega) hp hj) (Int32.not_lt.mpr c))
  have gb : vp_nar .boolean (ofT T (p + 6) 6) = ofT T (p + 6) 6 := isB_vp (hB (p + 6) (by omega) hp hj)
  have r1 := r 1 σ (by omega) (by omega) (by rw [g0]; exact h)
  have r2 := r 2 _ (by omega) (by omega) r1
  have r3 := r 3 _ (by omega) (by omega) r2
  have r4 := r 4 _ (by omega) (by omega) r3
  have r5 := r 5 _ (by omega) (by omega) r4
  have r6 := r 6 _ (by omega) (by omega) r5
  have x1 : σ 3 (p + 6) = _ := g 1 (by omega) (by omega)
  have x2 : σ 4 (p + 6) = _ := g 2 (by omega) (by omega)
  have x3 : σ 5 (p + 6) = _ := g 3 (by omega) (by omega)
  have x4 : σ 6 (p + 6) = _ := g 4 (by omega) (by omega)
  have x5 : σ 7 (p + 6) = _ := g 5 (by omega) (by omega)
  have x6 : σ 8 (p + 6) = _ := g 6 (by omega) (by omega)
  refine ⟨_, ?_, r6, ?_⟩
  · have e6 : nI (p + 6) + 6 = nI (p + 6 + 6) := nI_add (p + 6) 6
    generalize hR : ru (d + 1) 3 7 [.ref 2, .int (nI xx), .int (nI (p + 6)), .int (nI (p + 6 + 6))] [] _ = R
    simp only [s3_7]
    simp only [s3_8, s3_10, s3_13, s3_14_o2, s3_14_o59, s3_17, s3_18_o4, s3_18_o61, s3_19, s3_22, s3_23_o2, s3_23_o59, s3_26, s3_27, s3_28_o2, s3_28_o59, s3_31, s3_32_o3, s3_32_o60, s3_33_o3, s3_33_o60, s3_34, s3_35_o2, s3_35_o59, s3_38, s3_39, s3_40_o2, s3_40_o59, s3_43, s3_44_o4, s3_44_o61, s3_45_o4, s3_45_o61, s3_46, s3_47_o2, s3_47_o59, s3_50, s3_51, s3_52_o2, s3_52_o59, s3_55, s3_56_o5, s3_56_o62, s3_57_o5, s3_57_o62, s3_58, s3_59_o2, s3_59_o59, s3_62, s3_63, s3_64_o2, s3_64_o59, s3_67, s3_68_o6, s3_68_o63, s3_69_o6, s3_69_o63, s3_70, s3_71_o2, s3_71_o59, s3_74, s3_75, s3_76_o2, s3_76_o59, s3_79, s3_80_o7, s3_80_o64, s3_81_o7, s3_81_o64, s3_82, s3_83_o2, s3_83_o59, s3_86, s3_87, s3_88_o2, s3_88_o59, s3_91, s3_92_o8, s3_92_o65, s3_93_o8, s3_93_o65, s3_94, s3_95, s3_96, s3_99, le_nI_r q31, vp_nI hp, cl_nI q31, vp_nI p30, cl_nI p31, up2_rep, rep_at, x1, x2, x3, x4, x5, x6, ez, gb, e6, simprocAttr, if_true, if_false, true_and, and_true, false_and, and_false, not_false_eq_true, not_true_eq_false, gd_T, kont_i, kont_v]
    rw [if_neg (by omega)]
    exact hR
  · intro o ho
    rw [rep_ne (by omega), rep_ne (by omega), rep_ne (by omega), rep_ne (by omega), rep_ne (by omega), rep_ne (by omega)]
theorem h2_remove_l (d xx : Nat) : ∀ n p σ (T : Nat → Int32), p < 30 → 30 ≤ p + 6 * n → HR 2 σ T → HS T → isT T p → HPa p T → HBa p T → ∃ σ', ru (d + 1) 3 7 [.ref 2, .int (nI xx), .int (nI p), .int (nI (p + 6))] [] σ = some (none, σ') ∧ HR 2 σ' (goL T n p) ∧ ∀ o, (o < 3 ∨ 8 < o) → σ' o = σ o := by
  intro n
  induction n with
  | zero => intro p σ T hp hn; omega
  | succ n ih =>
    intro p σ T hp hn h hS hi hP hB
    have p31 : p < 2147483648 := by omega
    have q31 : p + 6 < 2147483648 := by omega
    by_cases c : p + 6 < 30 ∧ isT T (p + 6)
    · obtain ⟨σ1, e1, r1, f1⟩ := h2_remove_1 d p xx c.1 σ T h hi c.2 hP hB
      have o7 : ∀ q f, f < 7 → ofT (goF T p 7) q f = if q = p then ofT T (p + 6) f else ofT T q f := fun q f hf => goF_7 hf c.1
      have is7 : ∀ q, isT (goF T p 7) q ↔ isT T q := by
        intro q
        unfold isT
        rw [o7 q 0 (by omega)]
        by_cases cq : q = p
        · rw [if_pos cq, cq]
          exact ⟨fun _ => hi, fun _ => c.2⟩
        · rw [if_neg cq]
      obtain ⟨σ2, e2, r2, f2⟩ := ih (p + 6) σ1 (goF T p 7) c.1 (by omega) r1 (fun q hq hh => (is7 q).mpr (hS q hq ((is7 _).mp hh))) ((is7 _).mpr c.2) (fun q h1 h2 h3 => by rw [o7 q 2 (by omega), if_neg (by omega)]; exact hP q (by omega) h2 ((is7 q).mp h3)) (fun q h1 h2 h3 => by rw [o7 q 6 (by omega), if_neg (by omega)]; exact hB q (by omega) h2 ((is7 q).mp h3))
      refine ⟨σ2, e1.trans e2, ?_, fun o ho => (f2 o ho).trans (f1 o ho)⟩
      rw [goL, if_pos hp]
      exact r2
    · refine ⟨_, ?_, HR_last h hS hp hn (fun c6 c7 => c ⟨c6, c7⟩), fun o ho => rep_ne (by omega)⟩
      simp only [s3_7]
      simp only [s3_8, s3_10, s3_13, s3_14_o2, s3_14_o59, s3_17, s3_18_o4, s3_18_o61, s3_19, s3_102, s3_103_o2, s3_103_o59, s3_106, s3_107, s3_108_o4, s3_108_o61, s3_109, le_nI_r q31, up2_rep, vp_nI hp, cl_nI p31, simprocAttr, if_true, if_false, true_and, and_true, false_and, and_false, not_false_eq_true, not_true_eq_false, gd_T, kont_i, kont_v]
      by_cases c6 : p + 6 < 30
      · have ez : (σ 4 (p + 6) ≤ 0) = True := by
          refine eq_true ?_
          rw [show σ 4 (p + 6) = 0 from h.2.1 (p + 6) c6 (fun x => c ⟨c6, x⟩)]
          decide
        rw [if_neg (by omega)]
        simp only [vp_nI c6, cl_nI q31, ez, simprocAttr, if_true, if_false, true_and, and_true, false_and, and_false, not_false_eq_true, not_true_eq_false, gd_T, kont_i, kont_v]
      · rw [if_pos (by omega)]
theorem h2_remove (d p : Nat) (hp : p < 30) (σ : Hs) (T : Nat → Int32) (h : HR 2 σ T) (hS : HS T) (hi : isT T p) (hP : HPa p T) (hB : HBa p T) : ∃ σ', callD (d + 2) 3 [.ref 2, .int (nI p)] σ = some (none, σ') ∧ HR 2 σ' (goT T p) ∧ ∀ o, (o < 3 ∨ 8 < o) → σ' o = σ o := by
  obtain ⟨σ', e, r, f⟩ := h2_remove_l d p 5 p σ T hp (by omega) h hS hi hP hB
  refine ⟨σ', ?_, r, f⟩
  have e6 : nI p + 6 = nI (p + 6) := nI_add p 6
  simp only [s3_0, s3_1, s3_2, s3_3, s3_5, s3_6, c3, e6, simprocAttr, if_true, if_false, true_and, and_true, false_and, and_false, not_false_eq_true, not_true_eq_false, gd_T, kont_i, kont_v]
  exact e
theorem h59_remove_1 (d p xx : Nat) (hp : p + 6 < 30) (σ : Hs) (T : Nat → Int32) (h : HR 59 σ T) (hi : isT T p) (hj : isT T (p + 6)) (hP : HPa p T) (hB : HBa p T) : ∃ σ', ru (d + 1) 3 7 [.ref 59, .int (nI xx), .int (nI p), .int (nI (p + 6))] [] σ = ru (d + 1) 3 7 [.ref 59, .int (nI xx), .int (nI (p + 6)), .int (nI (p + 6 + 6))] [] σ' ∧ HR 59 σ' (goF T p 7) ∧ ∀ o, (o < 60 ∨ 65 < o) → σ' o = σ o := by
  have p31 : p < 2147483648 := by omega
  have p30 : p < 30 := by omega
  have q31 : p + 6 < 2147483648 := by omega
  have g0 : goF T p 1 = T := by
    rw [goF_o (by omega) hp, goF_0]
    exact teT_same (hi.trans hj.symm)
  have is1 : ∀ k, 1 ≤ k → k ≤ 6 → isT (goF T p k) p := by
    intro k h1 h2
    show ofT (goF T p k) p 0 = 1
    simp only [ofT, goF]
    rw [if_pos (by omega), if_pos hp]
    exact hj
  have r : ∀ k σ1, 1 ≤ k → k ≤ 6 → HR 59 σ1 (goF T p k) → HR 59 (rep σ1 (59 + k) (upd (σ1 (59 + k)) p (ofT T (p + 6) k))) (goF T p (k + 1)) := by
    intro k σ1 h1 h2 hh
    rw [goF_o (by omega) hp]
    exact hh.te p30 (is1 k h1 h2) k h1 h2 _
  have g : ∀ f, 1 ≤ f → f ≤ 6 → σ (59 + f) (p + 6) = ofT T (p + 6) f := fun f h1 h2 => h.f hp hj f h1 h2
  have ez : (ofT T (p + 6) 2 ≤ 0) = False := eq_false (fun c => absurd (hP (p + 6) (by omega) hp hj) (Int32.not_lt.mpr c))
  have gb : vp_nar .boolean (ofT T (p + 6) 6) = ofT T (p + 6) 6 := isB_vp (hB (p + 6) (by omega) hp hj)
  have r1 := r 1 σ (by omega) (by omega) (by rw [g0]; exact h)
  have r2 := r 2 _ (by omega) (by omega) r1
  have r3 := r 3 _ (by omega) (by omega) r2
  have r4 := r 4 _ (by omega) (by omega) r3
  have r5 := r 5 _ (by omega) (by omega) r4
  have r6 := r 6 _ (by omega) (by omega) r5
  have x1 : σ 60 (p + 6) = _ := g 1 (by omega) (by omega)
  have x2 : σ 61 (p + 6) = _ := g 2 (by omega) (by omega)
  have x3 : σ 62 (p + 6) = _ := g 3 (by omega) (by omega)
  have x4 : σ 63 (p + 6) = _ := g 4 (by omega) (by omega)
  have x5 : σ 64 (p + 6) = _ := g 5 (by omega) (by omega)
  have x6 : σ 65 (p + 6) = _ := g 6 (by omega) (by omega)
  refine ⟨_, ?_, r6, ?_⟩
  · have e6 : nI (p + 6) + 6 = nI (p + 6 + 6) := nI_add (p + 6) 6
    generalize hR : ru (d + 1) 3 7 [.ref 59, .int (nI xx), .int (nI (p + 6)), .int (nI (p + 6 + 6))] [] _ = R
    simp only [s3_7]
    simp only [s3_8, s3_10, s3_13, s3_14_o2, s3_14_o59, s3_17, s3_18_o4, s3_18_o61, s3_19, s3_22, s3_23_o2, s3_23_o59, s3_26, s3_27, s3_28_o2, s3_28_o59, s3_31, s3_32_o3, s3_32_o60, s3_33_o3, s3_33_o60, s3_34, s3_35_o2, s3_35_o59, s3_38, s3_39, s3_40_o2, s3_40_o59, s3_43, s3_44_o4, s3_44_o61, s3_45_o4, s3_45_o61, s3_46, s3_47_o2, s3_47_o59, s3_50, s3_51, s3_52_o2, s3_52_o59, s3_55, s3_56_o5, s3_56_o62, s3_57_o5, s3_57_o62, s3_58, s3_59_o2, s3_59_o59, s3_62, s3_63, s3_64_o2, s3_64_o59, s3_67, s3_68_o6, s3_68_o63, s3_69_o6, s3_69_o63, s3_70, s3_71_o2, s3_71_o59, s3_74, s3_75, s3_76_o2, s3_76_o59, s3_79, s3_80_o7, s3_80_o64, s3_81_o7, s3_81_o64, s3_82, s3_83_o2, s3_83_o59, s3_86, s3_87, s3_88_o2, s3_88_o59, s3_91, s3_92_o8, s3_92_o65, s3_93_o8, s3_93_o65, s3_94, s3_95, s3_96, s3_99, le_nI_r q31, vp_nI hp, cl_nI q31, vp_nI p30, cl_nI p31, up2_rep, rep_at, x1, x2, x3, x4, x5, x6, ez, gb, e6, simprocAttr, if_true, if_false, true_and, and_true, false_and, and_false, not_false_eq_true, not_true_eq_false, gd_T, kont_i, kont_v]
    rw [if_neg (by omega)]
    exact hR
  · intro o ho
    rw [rep_ne (by omega), rep_ne (by omega), rep_ne (by omega), rep_ne (by omega), rep_ne (by omega), rep_ne (by omega)]
theorem h59_remove_l (d xx : Nat) : ∀ n p σ (T : Nat → Int32), p < 30 → 30 ≤ p + 6 * n → HR 59 σ T → HS T → isT T p → HPa p T → HBa p T → ∃ σ', ru (d + 1) 3 7 [.ref 59, .int (nI xx), .int (nI p), .int (nI (p + 6))] [] σ = some (none, σ') ∧ HR 59 σ' (goL T n p) ∧ ∀ o, (o < 60 ∨ 65 < o) → σ' o = σ o := by
  intro n
  induction n with
  | zero => intro p σ T hp hn; omega
  | succ n ih =>
    intro p σ T hp hn h hS hi hP hB
    have p31 : p < 2147483648 := by omega
    have q31 : p + 6 < 2147483648 := by omega
    by_cases c : p + 6 < 30 ∧ isT T (p + 6)
    · obtain ⟨σ1, e1, r1, f1⟩ := h59_remove_1 d p xx c.1 σ T h hi c.2 hP hB
      have o7 : ∀ q f, f < 7 → ofT (goF T p 7) q f = if q = p then ofT T (p + 6) f else ofT T q f := fun q f hf => goF_7 hf c.1
      have is7 : ∀ q, isT (goF T p 7) q ↔ isT T q := by
        intro q
        unfold isT
        rw [o7 q 0 (by omega)]
        by_cases cq : q = p
        · rw [if_pos cq, cq]
          exact ⟨fun _ => hi, fun _ => c.2⟩
        · rw [if_neg cq]
      obtain ⟨σ2, e2, r2, f2⟩ := ih (p + 6) σ1 (goF T p 7) c.1 (by omega) r1 (fun q hq hh => (is7 q).mpr (hS q hq ((is7 _).mp hh))) ((is7 _).mpr c.2) (fun q h1 h2 h3 => by rw [o7 q 2 (by omega), if_neg (by omega)]; exact hP q (by omega) h2 ((is7 q).mp h3)) (fun q h1 h2 h3 => by rw [o7 q 6 (by omega), if_neg (by omega)]; exact hB q (by omega) h2 ((is7 q).mp h3))
      refine ⟨σ2, e1.trans e2, ?_, fun o ho => (f2 o ho).trans (f1 o ho)⟩
      rw [goL, if_pos hp]
      exact r2
    · refine ⟨_, ?_, HR_last h hS hp hn (fun c6 c7 => c ⟨c6, c7⟩), fun o ho => rep_ne (by omega)⟩
      simp only [s3_7]
      simp only [s3_8, s3_10, s3_13, s3_14_o2, s3_14_o59, s3_17, s3_18_o4, s3_18_o61, s3_19, s3_102, s3_103_o2, s3_103_o59, s3_106, s3_107, s3_108_o4, s3_108_o61, s3_109, le_nI_r q31, up2_rep, vp_nI hp, cl_nI p31, simprocAttr, if_true, if_false, true_and, and_true, false_and, and_false, not_false_eq_true, not_true_eq_false, gd_T, kont_i, kont_v]
      by_cases c6 : p + 6 < 30
      · have ez : (σ 61 (p + 6) ≤ 0) = True := by
          refine eq_true ?_
          rw [show σ 61 (p + 6) = 0 from h.2.1 (p + 6) c6 (fun x => c ⟨c6, x⟩)]
          decide
        rw [if_neg (by omega)]
        simp only [vp_nI c6, cl_nI q31, ez, simprocAttr, if_true, if_false, true_and, and_true, false_and, and_false, not_false_eq_true, not_true_eq_false, gd_T, kont_i, kont_v]
      · rw [if_pos (by omega)]
theorem h59_remove (d p : Nat) (hp : p < 30) (σ : Hs) (T : Nat → Int32) (h : HR 59 σ T) (hS : HS T) (hi : isT T p) (hP : HPa p T) (hB : HBa p T) : ∃ σ', callD (d + 2) 3 [.ref 59, .int (nI p)] σ = some (none, σ') ∧ HR 59 σ' (goT T p) ∧ ∀ o, (o < 60 ∨ 65 < o) → σ' o = σ o := by
  obtain ⟨σ', e, r, f⟩ := h59_remove_l d p 5 p σ T hp (by omega) h hS hi hP hB
  refine ⟨σ', ?_, r, f⟩
  have e6 : nI p + 6 = nI (p + 6) := nI_add p 6
  simp only [s3_0, s3_1, s3_2, s3_3, s3_5, s3_6, c3, e6, simprocAttr, if_true, if_false, true_and, and_true, false_and, and_false, not_false_eq_true, not_true_eq_false, gd_T, kont_i, kont_v]
  exact e
