/-! ===== the calls: as, become, fork, pour, set ===== -/
def ancL (k : Nat) : List Int32 := ([[0], [1, 0], [2, 0], [3, 1, 0], [4, 2, 0], [5, 0], [6, 5, 0]] : List (List Int32)).getD k []
theorem b2_cons (a v : Int32) (L : List Int32) : b2 (v ∈ a :: L) = if a = v then 1 else b2 (v ∈ L) := by
  by_cases e : a = v
  · rw [if_pos e, b2_T (by rw [e]; exact List.mem_cons_self)]
  · rw [if_neg e]
    by_cases m : v ∈ L
    · rw [b2_T m, b2_T (List.mem_cons_of_mem _ m)]
    · rw [b2_F m, b2_F (fun q => (List.mem_cons.mp q).elim (fun z => e z.symm) m)]
theorem b2_nil (v : Int32) : b2 (v ∈ ([] : List Int32)) = 0 := b2_F List.not_mem_nil
theorem if_push {c : Prop} [Decidable c] {x y : Int32} {σ : Hs} {R : Rs} (h : R = some (some (.int y), σ)) : (if c then some (some (.int x), σ) else R) = some (some (.int (if c then x else y)), σ) := by
  subst h
  by_cases k : c
  · rw [if_pos k, if_pos k]
  · rw [if_neg k, if_neg k]
theorem nthr_7 : (7 : Int32) = nI 7 := rfl
theorem k_isOfKind (d k : Nat) (lk : k < 7) (v : Int32) (σ : Hs) : callD (d + 2) 109 [.int (nI k), .int v] σ = some (some (.int (b2 (v ∈ ancL k))), σ) := by
  have hk : k = 0 ∨ k = 1 ∨ k = 2 ∨ k = 3 ∨ k = 4 ∨ k = 5 ∨ k = 6 := by omega
  have y : ∀ j : Nat, j < 7 → (0 ≤ nI j ∧ nI j < 7) = True := fun j hj => eq_true ⟨nI_pos' (by omega), nI_lt (b := 7) hj (by omega)⟩
  have y0 : ((0 : Int32) ≤ 0 ∧ (0 : Int32) < 7) = True := eq_true (by decide)
  have y1 : ((0 : Int32) ≤ 1 ∧ (1 : Int32) < 7) = True := eq_true (by decide)
  have y2 : ((0 : Int32) ≤ 2 ∧ (2 : Int32) < 7) = True := eq_true (by decide)
  have y3 : ((0 : Int32) ≤ 3 ∧ (3 : Int32) < 7) = True := eq_true (by decide)
  have y4 : ((0 : Int32) ≤ 4 ∧ (4 : Int32) < 7) = True := eq_true (by decide)
  have y5 : ((0 : Int32) ≤ 5 ∧ (5 : Int32) < 7) = True := eq_true (by decide)
  have y6 : ((0 : Int32) ≤ 6 ∧ (6 : Int32) < 7) = True := eq_true (by decide)
  have ym : ((0 : Int32) ≤ -1 ∧ (-1 : Int32) < 7) = False := eq_false (by decide)
  have g0 : ([-1, 0, 0, 1, 2, 0, 5] : List Int32).getD 0 0 = -1 := rfl
  have g1 : ([-1, 0, 0, 1, 2, 0, 5] : List Int32).getD 1 0 = 0 := rfl
  have g2 : ([-1, 0, 0, 1, 2, 0, 5] : List Int32).getD 2 0 = 0 := rfl
  have g3 : ([-1, 0, 0, 1, 2, 0, 5] : List Int32).getD 3 0 = 1 := rfl
  have g4 : ([-1, 0, 0, 1, 2, 0, 5] : List Int32).getD 4 0 = 2 := rfl
  have g5 : ([-1, 0, 0, 1, 2, 0, 5] : List Int32).getD 5 0 = 0 := rfl
  have g6 : ([-1, 0, 0, 1, 2, 0, 5] : List Int32).getD 6 0 = 5 := rfl
  rcases hk with rfl | rfl | rfl | rfl | rfl | rfl | rfl
  · simp only [c109, s109_0, s109_1, s109_2, s109_3, s109_4, s109_5, s109_7, s109_10, s109_11, s109_14, s109_17, s109_18, s109_19, s109_22, s109_23, s109_24, s109_27, s109_28_o104, s109_29, s109_30, s109_33, s109_36, s109_37, n_0, k_isKind, y0, y1, y2, y3, y4, y5, y6, ym, b2_t, b2_f, vp_lit, g0, g1, g2, g3, g4, g5, g6, isB_0, isB_1, show (0 + 1 : Int32) = 1 from rfl, show (1 + 1 : Int32) = 2 from rfl, show (2 + 1 : Int32) = 3 from rfl, simprocAttr, if_true, if_false, true_and, and_true, false_and, and_false, not_false_eq_true, not_true_eq_false, gd_T, kont_i, kont_v]
    rw [show ancL 0 = [0] from rfl]
    simp only [b2_cons, b2_nil]
    repeat refine if_push ?_
    rfl
  · simp only [c109, s109_0, s109_1, s109_2, s109_3, s109_4, s109_5, s109_7, s109_10, s109_11, s109_14, s109_17, s109_18, s109_19, s109_22, s109_23, s109_24, s109_27, s109_28_o104, s109_29, s109_30, s109_33, s109_36, s109_37, n_1, k_isKind, y0, y1, y2, y3, y4, y5, y6, ym, b2_t, b2_f, vp_lit, g0, g1, g2, g3, g4, g5, g6, isB_0, isB_1, show (0 + 1 : Int32) = 1 from rfl, show (1 + 1 : Int32) = 2 from rfl, show (2 + 1 : Int32) = 3 from rfl, simprocAttr, if_true, if_false, true_and, and_true, false_and, and_false, not_false_eq_true, not_true_eq_false, gd_T, kont_i, kont_v]
    rw [show ancL 1 = [1, 0] from rfl]
    simp only [b2_cons, b2_nil]
    repeat refine if_push ?_
    rfl
  · simp only [c109, s109_0, s109_1, s109_2, s109_3, s109_4, s109_5, s109_7, s109_10, s109_11, s109_14, s109_17, s109_18, s109_19, s109_22, s109_23, s109_24, s109_27, s109_28_o104, s109_29, s109_30, s109_33, s109_36, s109_37, n_2, k_isKind, y0, y1, y2, y3, y4, y5, y6, ym, b2_t, b2_f, vp_lit, g0, g1, g2, g3, g4, g5, g6, isB_0, isB_1, show (0 + 1 : Int32) = 1 from rfl, show (1 + 1 : Int32) = 2 from rfl, show (2 + 1 : Int32) = 3 from rfl, simprocAttr, if_true, if_false, true_and, and_true, false_and, and_false, not_false_eq_true, not_true_eq_false, gd_T, kont_i, kont_v]
    rw [show ancL 2 = [2, 0] from rfl]
    simp only [b2_cons, b2_nil]
    repeat refine if_push ?_
    rfl
  · simp only [c109, s109_0, s109_1, s109_2, s109_3, s109_4, s109_5, s109_7, s109_10, s109_11, s109_14, s109_17, s109_18, s109_19, s109_22, s109_23, s109_24, s109_27, s109_28_o104, s109_29, s109_30, s109_33, s109_36, s109_37, n_3, k_isKind, y0, y1, y2, y3, y4, y5, y6, ym, b2_t, b2_f, vp_lit, g0, g1, g2, g3, g4, g5, g6, isB_0, isB_1, show (0 + 1 : Int32) = 1 from rfl, show (1 + 1 : Int32) = 2 from rfl, show (2 + 1 : Int32) = 3 from rfl, simprocAttr, if_true, if_false, true_and, and_true, false_and, and_false, not_false_eq_true, not_true_eq_false, gd_T, kont_i, kont_v]
    rw [show ancL 3 = [3, 1, 0] from rfl]
    simp only [b2_cons, b2_nil]
    repeat refine if_push ?_
    rfl
  · simp only [c109, s109_0, s109_1, s109_2, s109_3, s109_4, s109_5, s109_7, s109_10, s109_11, s109_14, s109_17, s109_18, s109_19, s109_22, s109_23, s109_24, s109_27, s109_28_o104, s109_29, s109_30, s109_33, s109_36, s109_37, n_4, k_isKind, y0, y1, y2, y3, y4, y5, y6, ym, b2_t, b2_f, vp_lit, g0, g1, g2, g3, g4, g5, g6, isB_0, isB_1, show (0 + 1 : Int32) = 1 from rfl, show (1 + 1 : Int32) = 2 from rfl, show (2 + 1 : Int32) = 3 from rfl, simprocAttr, if_true, if_false, true_and, and_true, false_and, and_false, not_false_eq_true, not_true_eq_false, gd_T, kont_i, kont_v]
    rw [show ancL 4 = [4, 2, 0] from rfl]
    simp only [b2_cons, b2_nil]
    repeat refine if_push ?_
    rfl
  · simp only [c109, s109_0, s109_1, s109_2, s109_3, s109_4, s109_5, s109_7, s109_10, s109_11, s109_14, s109_17, s109_18, s109_19, s109_22, s109_23, s109_24, s109_27, s109_28_o104, s109_29, s109_30, s109_33, s109_36, s109_37, n_5, k_isKind, y0, y1, y2, y3, y4, y5, y6, ym, b2_t, b2_f, vp_lit, g0, g1, g2, g3, g4, g5, g6, isB_0, isB_1, show (0 + 1 : Int32) = 1 from rfl, show (1 + 1 : Int32) = 2 from rfl, show (2 + 1 : Int32) = 3 from rfl, simprocAttr, if_true, if_false, true_and, and_true, false_and, and_false, not_false_eq_true, not_true_eq_false, gd_T, kont_i, kont_v]
    rw [show ancL 5 = [5, 0] from rfl]
    simp only [b2_cons, b2_nil]
    repeat refine if_push ?_
    rfl
  · simp only [c109, s109_0, s109_1, s109_2, s109_3, s109_4, s109_5, s109_7, s109_10, s109_11, s109_14, s109_17, s109_18, s109_19, s109_22, s109_23, s109_24, s109_27, s109_28_o104, s109_29, s109_30, s109_33, s109_36, s109_37, n_6, k_isKind, y0, y1, y2, y3, y4, y5, y6, ym, b2_t, b2_f, vp_lit, g0, g1, g2, g3, g4, g5, g6, isB_0, isB_1, show (0 + 1 : Int32) = 1 from rfl, show (1 + 1 : Int32) = 2 from rfl, show (2 + 1 : Int32) = 3 from rfl, simprocAttr, if_true, if_false, true_and, and_true, false_and, and_false, not_false_eq_true, not_true_eq_false, gd_T, kont_i, kont_v]
    rw [show ancL 6 = [6, 5, 0] from rfl]
    simp only [b2_cons, b2_nil]
    repeat refine if_push ?_
    rfl
/-- where the model's climb comes out -/
def clL (v : Int32) : List Int32 → Int32
  | [] => -1
  | a :: L => if a = v then a else clL v L
theorem clL_in {v : Int32} : ∀ {L : List Int32}, v ∈ L → clL v L = v
  | a :: L, h => by
    unfold clL
    by_cases e : a = v
    · rw [if_pos e, e]
    · rw [if_neg e]
      exact clL_in ((List.mem_cons.mp h).resolve_left (fun q => e q.symm))
theorem clL_no {v : Int32} : ∀ {L : List Int32}, ¬ v ∈ L → clL v L = -1
  | [], _ => rfl
  | a :: L, h => by
    unfold clL
    rw [if_neg (fun e => h (List.mem_cons.mpr (Or.inl e.symm)))]
    exact clL_no (fun q => h (List.mem_cons_of_mem _ q))
theorem if_pull {c : Prop} [Decidable c] {f : Int32 → Rs} {a x : Int32} {R : Rs} (h : R = f x) : (if c then f a else R) = f (if c then a else x) := by
  subst h
  by_cases k : c
  · rw [if_pos k, if_pos k]
  · rw [if_neg k, if_neg k]
theorem anc_m {k : Nat} (lk : k < 7) (d : Nat) (v : Int32) (p : Nat) (σ : Hs) : ru (d + 3) 134 46 [.ref 87, .int (nI p), .int v, .int (nI k)] [] σ = ru (d + 3) 134 63 [.ref 87, .int (nI p), .int v, .int (clL v (ancL k))] [] σ := by
  have hk : k = 0 ∨ k = 1 ∨ k = 2 ∨ k = 3 ∨ k = 4 ∨ k = 5 ∨ k = 6 := by omega
  obtain ⟨f, hf⟩ : ∃ f : Int32 → Rs, ∀ x, ru (d + 3) 134 63 [.ref 87, .int (nI p), .int v, .int x] [] σ = f x := ⟨_, fun _ => rfl⟩
  rcases hk with rfl | rfl | rfl | rfl | rfl | rfl | rfl
  · rw [show ancL 0 = [0] from rfl]
    simp only [s134_46, s134_47, s134_50, s134_51, s134_52, s134_55, s134_56, s134_59, s134_60, c133, s133_0, s133_1, s133_4, s133_5, s133_8, s133_9, s133_10, s133_13, s133_14, s133_17, s133_18, s133_19, s133_22, s133_23, s133_26, s133_27, s133_29, s133_32, s133_33, s133_36, s133_37, hf, n_0, clL, simprocAttr, if_true, if_false, true_and, and_true, false_and, and_false, not_false_eq_true, not_true_eq_false, gd_T, kont_i, kont_v]
    repeat refine if_pull ?_
    rfl
  · rw [show ancL 1 = [1, 0] from rfl]
    simp only [s134_46, s134_47, s134_50, s134_51, s134_52, s134_55, s134_56, s134_59, s134_60, c133, s133_0, s133_1, s133_4, s133_5, s133_8, s133_9, s133_10, s133_13, s133_14, s133_17, s133_18, s133_19, s133_22, s133_23, s133_26, s133_27, s133_29, s133_32, s133_33, s133_36, s133_37, hf, n_1, clL, simprocAttr, if_true, if_false, true_and, and_true, false_and, and_false, not_false_eq_true, not_true_eq_false, gd_T, kont_i, kont_v]
    repeat refine if_pull ?_
    rfl
  · rw [show ancL 2 = [2, 0] from rfl]
    simp only [s134_46, s134_47, s134_50, s134_51, s134_52, s134_55, s134_56, s134_59, s134_60, c133, s133_0, s133_1, s133_4, s133_5, s133_8, s133_9, s133_10, s133_13, s133_14, s133_17, s133_18, s133_19, s133_22, s133_23, s133_26, s133_27, s133_29, s133_32, s133_33, s133_36, s133_37, hf, n_2, clL, simprocAttr, if_true, if_false, true_and, and_true, false_and, and_false, not_false_eq_true, not_true_eq_false, gd_T, kont_i, kont_v]
    repeat refine if_pull ?_
    rfl
  · rw [show ancL 3 = [3, 1, 0] from rfl]
    simp only [s134_46, s134_47, s134_50, s134_51, s134_52, s134_55, s134_56, s134_59, s134_60, c133, s133_0, s133_1, s133_4, s133_5, s133_8, s133_9, s133_10, s133_13, s133_14, s133_17, s133_18, s133_19, s133_22, s133_23, s133_26, s133_27, s133_29, s133_32, s133_33, s133_36, s133_37, hf, n_3, clL, simprocAttr, if_true, if_false, true_and, and_true, false_and, and_false, not_false_eq_true, not_true_eq_false, gd_T, kont_i, kont_v]
    repeat refine if_pull ?_
    rfl
  · rw [show ancL 4 = [4, 2, 0] from rfl]
    simp only [s134_46, s134_47, s134_50, s134_51, s134_52, s134_55, s134_56, s134_59, s134_60, c133, s133_0, s133_1, s133_4, s133_5, s133_8, s133_9, s133_10, s133_13, s133_14, s133_17, s133_18, s133_19, s133_22, s133_23, s133_26, s133_27, s133_29, s133_32, s133_33, s133_36, s133_37, hf, n_4, clL, simprocAttr, if_true, if_false, true_and, and_true, false_and, and_false, not_false_eq_true, not_true_eq_false, gd_T, kont_i, kont_v]
    repeat refine if_pull ?_
    rfl
  · rw [show ancL 5 = [5, 0] from rfl]
    simp only [s134_46, s134_47, s134_50, s134_51, s134_52, s134_55, s134_56, s134_59, s134_60, c133, s133_0, s133_1, s133_4, s133_5, s133_8, s133_9, s133_10, s133_13, s133_14, s133_17, s133_18, s133_19, s133_22, s133_23, s133_26, s133_27, s133_29, s133_32, s133_33, s133_36, s133_37, hf, n_5, clL, simprocAttr, if_true, if_false, true_and, and_true, false_and, and_false, not_false_eq_true, not_true_eq_false, gd_T, kont_i, kont_v]
    repeat refine if_pull ?_
    rfl
  · rw [show ancL 6 = [6, 5, 0] from rfl]
    simp only [s134_46, s134_47, s134_50, s134_51, s134_52, s134_55, s134_56, s134_59, s134_60, c133, s133_0, s133_1, s133_4, s133_5, s133_8, s133_9, s133_10, s133_13, s133_14, s133_17, s133_18, s133_19, s133_22, s133_23, s133_26, s133_27, s133_29, s133_32, s133_33, s133_36, s133_37, hf, n_6, clL, simprocAttr, if_true, if_false, true_and, and_true, false_and, and_false, not_false_eq_true, not_true_eq_false, gd_T, kont_i, kont_v]
    repeat refine if_pull ?_
    rfl
